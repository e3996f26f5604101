/-! ===== the bytes of a page ===== -/
/-- kept out of omega's sight -/
def zHid (p : Prop) : Prop := p
theorem zHide {p : Prop} (h : p) : zHid p := h
theorem zcp_o {M M2 : zMm} {a0 a : Nat} {sp dp z i : Int} (hM : M2 = zcp M a0 a sp dp z) (h : ¬ (dp ≤ i ∧ i < dp + z)) : M2 a i = M a i := by
  rw [hM]
  exact if_neg (fun q => h q.2)
def zBg (M : zMm) (a : Nat) (g : Int → Int) (i : Int) : Prop := (∀ j, 0 ≤ j → j < i → M (a + 1) j = g j) ∧ (∀ l, 0 ≤ l → l < M a 3 → 0 ≤ M (a + 2) l ∧ ∀ j, M (a + 2) l ≤ j → j < M (a + 2) (l + 1) - 1 → j < i ∧ g j ≠ 10 ∧ zTen g j.toNat = l) ∧ 0 ≤ M (a + 2) (M a 3) ∧ ∀ j, M (a + 2) (M a 3) ≤ j → j < i → g j ≠ 10 ∧ zTen g j.toNat = M a 3
theorem zBg.nil {M : zMm} {a : Nat} {g : Int → Int} (h3 : M a 3 = 0) (h0 : M (a + 2) 0 = 0) : zBg M a g 0 := by
  have e : M (a + 2) (M a 3) = 0 := by rw [h3]; exact h0
  exact ⟨fun j j0 j1 => by omega, fun l l0 l1 => by omega, by omega, fun j j0 j1 => by omega⟩
theorem zBg.cg {M M2 : zMm} {a : Nat} {g : Int → Int} {i : Int} (h : zBg M a g i) (h3 : M2 a 3 = M a 3) (h1 : ∀ j, M2 (a + 1) j = M (a + 1) j) (h2 : ∀ j, M2 (a + 2) j = M (a + 2) j) : zBg M2 a g i := by
  obtain ⟨q1, q2, q3, q4⟩ := h
  refine ⟨fun j j0 j1 => by rw [h1]; exact q1 j j0 j1, fun l l0 l1 => ?_, by rw [h3, h2]; exact q3, fun j j0 j1 => ?_⟩
  · rw [h2, h2]
    exact q2 l l0 (by rw [h3] at l1; exact l1)
  · rw [h3, h2] at j0
    rw [h3]
    exact q4 j j0 j1
theorem zBg.byte {M M2 : zMm} {a : Nat} {g : Int → Int} {i x : Int} (h : zBg M a g i) (e : M2 = zup M (a + 1) i x) (hx : x = g i) (hb : g i ≠ 10) (hs : M a 3 = zTen g i.toNat) (hi : 0 ≤ i) : zBg M2 a g (i + 1) := by
  obtain ⟨q1, q2, q3, q4⟩ := h
  have e3 : M2 a 3 = M a 3 := zup_p e (by omega) _
  have e2 : ∀ j, M2 (a + 2) j = M (a + 2) j := fun j => zup_p e (by omega) _
  refine ⟨fun j j0 j1 => ?_, fun l l0 l1 => ?_, by rw [e3, e2]; exact q3, fun j j0 j1 => ?_⟩
  · by_cases z : j = i
    · rw [z, zup_s e, hx]
    · rw [zup_n e (by omega)]
      exact q1 j j0 (by omega)
  · rw [e2, e2]
    rw [e3] at l1
    obtain ⟨r1, r2⟩ := q2 l l0 l1
    exact ⟨r1, fun j j0 j1 => by
      obtain ⟨s1, s2⟩ := r2 j j0 j1
      exact ⟨by omega, s2⟩⟩
  · rw [e3, e2] at j0
    rw [e3]
    by_cases z : j = i
    · rw [z]
      exact ⟨hb, hs.symm⟩
    · exact q4 j j0 (by omega)
theorem zBg.close {M M1 M2 : zMm} {a : Nat} {g : Int → Int} {i x v : Int} (h : zBg M a g i) (e : M1 = zup M (a + 1) i x) (hx : x = g i) (hc : zClo M1 M2 a v) (hr : ∀ j, M2 (a + 1) j = M1 (a + 1) j) (hv : v = i + 1) (h40 : M a 3 < 40) (h30 : 0 ≤ M a 3) (hi : 0 ≤ i) : zBg M2 a g (i + 1) := by
  obtain ⟨q1, q2, q3, q4⟩ := h
  have e3 : M1 a 3 = M a 3 := zup_p e (by omega) _
  have e2 : ∀ j, M1 (a + 2) j = M (a + 2) j := fun j => zup_p e (by omega) _
  obtain ⟨c1, c2, c3⟩ := hc (by omega)
  rw [e3] at c1 c2 c3
  refine ⟨fun j j0 j1 => ?_, fun l l0 l1 => ?_, by rw [c1, c2]; omega, fun j j0 j1 => ?_⟩
  · rw [hr]
    by_cases z : j = i
    · rw [z, zup_s e, hx]
    · rw [zup_n e (by omega)]
      exact q1 j j0 (by omega)
  · by_cases z : l = M a 3
    · rw [z, c2, c3 (M a 3) (by omega), e2]
      exact ⟨q3, fun j j0 j1 => by
        obtain ⟨s1, s2⟩ := q4 j j0 (by omega)
        exact ⟨by omega, s1, s2⟩⟩
    · rw [c3 l (by omega), c3 (l + 1) (by omega), e2, e2]
      obtain ⟨r1, r2⟩ := q2 l l0 (by omega)
      exact ⟨r1, fun j j0 j1 => by
        obtain ⟨s1, s2⟩ := r2 j j0 j1
        exact ⟨by omega, s2⟩⟩
  · rw [c1, c2] at j0
    omega
/-- the lines of a page are those of n bytes g -/
def zBe (M : zMm) (a : Nat) (g : Int → Int) (n : Int) : Prop := ∀ l, 0 ≤ l → l < M a 3 → 0 ≤ M (a + 2) l ∧ ∀ j, M (a + 2) l ≤ j → j < M (a + 2) (l + 1) - 1 → M (a + 1) j = g j ∧ j < n ∧ g j ≠ 10 ∧ zTen g j.toNat = l
theorem zBg.fin {M : zMm} {a : Nat} {g : Int → Int} {i n : Int} (h : zBg M a g i) (hn : i = n) : zBe M a g n := by
  subst hn
  intro l l0 l1
  obtain ⟨r1, r2⟩ := h.2.1 l l0 l1
  exact ⟨r1, fun j j0 j1 => by
    obtain ⟨s1, s2⟩ := r2 j j0 j1
    exact ⟨h.1 j (by omega) s1, s1, s2⟩⟩
theorem zBg.fin2 {M M1 M2 : zMm} {a : Nat} {g : Int → Int} {i x v n : Int} (h : zBg M a g i) (e : M1 = zup M (a + 1) i x) (hc : zClo M1 M2 a v) (hr : ∀ j, M2 (a + 1) j = M1 (a + 1) j) (hv : v = i + 1) (h40 : M a 3 < 40) (h30 : 0 ≤ M a 3) (hn : i = n) : zBe M2 a g n := by
  subst hn
  obtain ⟨q1, q2, q3, q4⟩ := h
  have e3 : M1 a 3 = M a 3 := zup_p e (by omega) _
  have e2 : ∀ j, M1 (a + 2) j = M (a + 2) j := fun j => zup_p e (by omega) _
  obtain ⟨c1, c2, c3⟩ := hc (by omega)
  rw [e3] at c1 c2 c3
  intro l l0 l1
  by_cases z : l = M a 3
  · rw [z, c2, c3 (M a 3) (by omega), e2]
    exact ⟨q3, fun j j0 j1 => by
      obtain ⟨s1, s2⟩ := q4 j j0 (by omega)
      exact ⟨by rw [hr, zup_n e (by omega)]; exact q1 j (by omega) (by omega), by omega, s1, s2⟩⟩
  · rw [c3 l (by omega), c3 (l + 1) (by omega), e2, e2]
    obtain ⟨r1, r2⟩ := q2 l l0 (by omega)
    exact ⟨r1, fun j j0 j1 => by
      obtain ⟨s1, s2⟩ := r2 j j0 j1
      exact ⟨by rw [hr, zup_n e (by omega)]; exact q1 j (by omega) s1, s1, s2⟩⟩
/-- a page's size, starts and bytes are as they were -/
def zStw (M M2 : zMm) (p : Nat) : Prop := M2 p 3 = M p 3 ∧ (∀ i, M2 (p + 1) i = M (p + 1) i) ∧ ∀ i, M2 (p + 2) i = M (p + 2) i
theorem zStw.rf {M : zMm} {p : Nat} : zStw M M p := ⟨rfl, fun _ => rfl, fun _ => rfl⟩
theorem zStw.tr {M M1 M2 : zMm} {p : Nat} (h : zStw M M1 p) (g : zStw M1 M2 p) : zStw M M2 p := ⟨g.1.trans h.1, fun i => (g.2.1 i).trans (h.2.1 i), fun i => (g.2.2 i).trans (h.2.2 i)⟩
theorem zBe.cg {M M2 : zMm} {a : Nat} {g g2 : Int → Int} {n n2 : Int} (h : zBe M a g n) (e : zStw M M2 a) (eg : ∀ j, g j = g2 j) (hn : n = n2) : zBe M2 a g2 n2 := by
  obtain rfl : g = g2 := funext eg
  subst hn
  intro l l0 l1
  rw [e.2.2, e.2.2]
  obtain ⟨r1, r2⟩ := h l l0 (by rw [e.1] at l1; exact l1)
  exact ⟨r1, fun j j0 j1 => by rw [e.2.1]; exact r2 j j0 j1⟩
/-- line l has become n bytes of g; the others stand as they did -/
def zEb (M M2 : zMm) (a : Nat) (l n : Int) (g : Int → Int) : Prop := (∀ i, 0 ≤ i → i < n → M2 (a + 1) (M2 (a + 2) l + i) = g i) ∧ ∀ j, 0 ≤ j → j < M2 a 3 → j ≠ l → ∀ i, 0 ≤ i → i < M (a + 2) (j + 1) - M (a + 2) j - 1 → M2 (a + 1) (M2 (a + 2) j + i) = M (a + 1) (M (a + 2) j + i)
/-- the bytes of a page when a line is put: behind the shift and the copy -/
def zCb (M0 M : zMm) (a : Nat) (l many tail shift : Int) (g : Int → Int) : Prop := (∀ x, 0 ≤ x → x < M0 (a + 2) l → M (a + 1) x = M0 (a + 1) x) ∧ (∀ i, 0 ≤ i → i < many → M (a + 1) (M0 (a + 2) l + i) = g i) ∧ ∀ x, tail ≤ x → x < M0 (a + 2) (M0 a 3) → M (a + 1) (x + shift) = M0 (a + 1) x
theorem zCb.of {M0 M1 M2 M3 : zMm} {a b : Nat} {l many tail shift x sp dp z sp2 dp2 z2 i : Int} (h : zCg M0 a l many tail shift) (e1 : M1 = zcp M0 (a + 1) (a + 1) sp dp z) (e2 : M2 = zcp M1 b (a + 1) sp2 dp2 z2) (e3 : M3 = zup M2 (a + 1) i x) (h1 : sp = tail ∧ dp = tail + shift ∧ z = M0 (a + 2) (M0 a 3) - tail) (h2 : sp2 = 0 ∧ dp2 = M0 (a + 2) l ∧ z2 = many) (h3 : i = M0 (a + 2) l + many) (hb : b ≠ a + 1) : zCb M0 M3 a l many tail shift (M0 b) := by
  obtain ⟨g1, g2, g3, g4, g5, g6⟩ := h
  obtain ⟨r1, r2, r3⟩ := h1
  obtain ⟨r4, r5, r6⟩ := h2
  rw [r1, r2, r3] at e1
  rw [r4, r5, r6] at e2
  subst h3
  have c1 : ∀ x, M1 (a + 1) x = if tail + shift ≤ x ∧ x < tail + shift + (M0 (a + 2) (M0 a 3) - tail) then M0 (a + 1) (tail + (x - (tail + shift))) else M0 (a + 1) x := fun x => by
    by_cases q : tail + shift ≤ x ∧ x < tail + shift + (M0 (a + 2) (M0 a 3) - tail)
    · rw [if_pos q]
      exact zcp_at e1 q
    · rw [if_neg q]
      exact zcp_o e1 q
  have c1b : ∀ x, M1 b x = M0 b x := fun x => zcp_p e1 (by omega) x
  have c2 : ∀ x, M2 (a + 1) x = if M0 (a + 2) l ≤ x ∧ x < M0 (a + 2) l + many then M0 b (0 + (x - M0 (a + 2) l)) else M1 (a + 1) x := fun x => by
    by_cases q : M0 (a + 2) l ≤ x ∧ x < M0 (a + 2) l + many
    · rw [if_pos q, ← c1b]
      exact zcp_at e2 q
    · rw [if_neg q]
      exact zcp_o e2 q
  refine ⟨fun x x0 x1 => ?_, fun i i0 i1 => ?_, fun x x0 x1 => ?_⟩
  · rw [zup_n e3 (by omega), c2, if_neg (by omega), c1, if_neg (by omega)]
  · rw [zup_n e3 (by omega), c2, if_pos (by omega), show 0 + (M0 (a + 2) l + i - M0 (a + 2) l) = i by omega]
  · rw [zup_n e3 (by omega), c2, if_neg (by omega), c1, if_pos (by omega), show tail + (x + shift - (tail + shift)) = x by omega]
theorem zEb.mk {M M0 Mb Mh M2 : zMm} {a : Nat} {l many tail shift i : Int} {g : Int → Int} (h0 : zCh0 M M0 a l) (h0r : ∀ x, M0 (a + 1) x = M (a + 1) x) (hb : zCb M0 Mb a l many tail shift g) (sb3 : Mb a 3 = M0 a 3) (sb2 : ∀ j, Mb (a + 2) j = M0 (a + 2) j) (hc : zCl Mb Mh a l many tail shift i) (hi : Mh a 3 < i) (hr : ∀ x, Mh (a + 1) x = Mb (a + 1) x) (e : zStw Mh M2 a) (hp : ∀ j, 0 ≤ M (a + 2) j) : zEb M M2 a l many g := by
  obtain ⟨⟨g1, g2, g3, g4, g5, g6⟩, h3, hr2, hv⟩ := hc
  obtain ⟨k1, k2, k3⟩ := h0
  obtain ⟨b1, b2, b3⟩ := hb
  rw [sb3] at h3 hr2 g2
  rw [sb2] at g3 g5
  have e3 : M2 a 3 = M0 a 3 := e.1.trans h3
  have ev : ∀ j, M2 (a + 2) j = if l < j ∧ j < i then M0 (a + 2) j + shift else M0 (a + 2) j := fun j => by rw [e.2.2, hv, sb2]
  have et : ∀ x, M2 (a + 1) x = Mb (a + 1) x := fun x => (e.2.1 x).trans (hr x)
  have lt : ∀ {p q : Int}, 0 ≤ p → p ≤ q → q ≤ M0 a 3 → M0 (a + 2) p ≤ M0 (a + 2) q := fun {p q} p0 p1 p2 => by
    have := g1.lt (i := p) (j := q) p0 p1 (by rw [sb3]; exact p2)
    rw [sb2, sb2] at this
    exact this
  refine ⟨fun q q0 q1 => ?_, fun j j0 j1 jl q q0 q1 => ?_⟩
  · rw [ev l, if_neg (by omega), et]
    exact b2 q q0 q1
  · have kj := k3 j (by omega)
    have kj1 := k3 (j + 1) (by omega)
    have pj := hp j
    rw [← kj, ← kj1] at q1
    rw [et, ← h0r, ← kj]
    by_cases z : l < j
    · have m1 := lt (p := l + 1) (q := j) (by omega) (by omega) (by omega)
      have m2 := lt (p := j + 1) (q := M0 a 3) (by omega) (by omega) (by omega)
      rw [ev j, if_pos ⟨z, by omega⟩, show M0 (a + 2) j + shift + q = M0 (a + 2) j + q + shift by omega]
      exact b3 _ (by omega) (by omega)
    · have m1 := lt (p := j + 1) (q := l) (by omega) (by omega) (by omega)
      rw [ev j, if_neg (by omega)]
      exact b1 _ (by omega) (by omega)
/-- where the lines begin when line l has become n bytes -/
def zEc (M M2 : zMm) (a : Nat) (l n : Int) : Prop := (∀ j, j ≤ l → M2 (a + 2) j = M (a + 2) j) ∧ (l = M a 3 → M2 (a + 2) (l + 1) = M (a + 2) l + n + 1) ∧ (l < M a 3 → ∀ j, l < j → j ≤ M a 3 → M2 (a + 2) j = M (a + 2) j + (M (a + 2) l + n + 1 - M (a + 2) (l + 1)))
theorem zEc.mk {M M0 Mb Mh M2 : zMm} {a : Nat} {l many tail shift i : Int} (h0 : zCh0 M M0 a l) (sb3 : Mb a 3 = M0 a 3) (sb2 : ∀ j, Mb (a + 2) j = M0 (a + 2) j) (hc : zCl Mb Mh a l many tail shift i) (hi : Mh a 3 < i) (e : zStw Mh M2 a) : zEc M M2 a l many := by
  obtain ⟨⟨g1, g2, g3, g4, g5, g6⟩, h3, hr2, hv⟩ := hc
  obtain ⟨k1, k2, k3⟩ := h0
  rw [sb3] at h3 hr2 g2
  rw [sb2] at g3 g5
  have ev : ∀ j, M2 (a + 2) j = if l < j ∧ j < i then M0 (a + 2) j + shift else M0 (a + 2) j := fun j => by rw [e.2.2, hv, sb2]
  have kl := k3 l (by omega)
  refine ⟨fun j j0 => by rw [ev, if_neg (by omega)]; exact k3 j (by omega), fun hl => ?_, fun hl j j0 j1 => ?_⟩
  · rw [ev, if_pos (by omega)]
    omega
  · have kj := k3 j j1
    have kl1 := k3 (l + 1) (by omega)
    rw [ev, if_pos (by omega)]
    omega
theorem zEc.cg {M M1 M2 M3 : zMm} {a : Nat} {l n n2 : Int} (e : zStw M M1 a) (h : zEc M1 M2 a l n) (e2 : zStw M2 M3 a) (hn : n = n2) : zEc M M3 a l n2 := by
  subst hn
  obtain ⟨h1, h2, h3⟩ := h
  refine ⟨fun j j0 => by rw [e2.2.2, h1 j j0, e.2.2], fun hl => by rw [e2.2.2, h2 (by rw [e.1]; exact hl), e.2.2], fun hl j j0 j1 => by rw [e2.2.2, h3 (by rw [e.1]; exact hl) j j0 (by rw [e.1]; exact j1), e.2.2, e.2.2, e.2.2]⟩
theorem zEb.cg {M M1 M2 M3 : zMm} {a : Nat} {l n n2 : Int} {g g2 : Int → Int} (e : zStw M M1 a) (h : zEb M1 M2 a l n g) (e2 : zStw M2 M3 a) (hn : n = n2) (eg : ∀ j, g j = g2 j) : zEb M M3 a l n2 g2 := by
  subst hn
  obtain rfl : g = g2 := funext eg
  refine ⟨fun i i0 i1 => by rw [e2.2.2, e2.2.1]; exact h.1 i i0 i1, fun j j0 j1 jl i i0 i1 => ?_⟩
  rw [e2.2.2, e2.2.1, ← e.2.2 j, ← e.2.1]
  rw [← e.2.2 j, ← e.2.2 (j + 1)] at i1
  exact h.2 j j0 (by rw [e2.1] at j1; exact j1) jl i i0 i1
/-- line l is taken out -/
def zTb (M M2 : zMm) (a : Nat) (l : Int) : Prop := (∀ j, 0 ≤ j → j < l → ∀ i, 0 ≤ i → i < M (a + 2) (j + 1) - M (a + 2) j - 1 → M2 (a + 1) (M2 (a + 2) j + i) = M (a + 1) (M (a + 2) j + i)) ∧ ∀ j, l ≤ j → j < M2 a 3 → ∀ i, 0 ≤ i → i < M (a + 2) (j + 1 + 1) - M (a + 2) (j + 1) - 1 → M2 (a + 1) (M2 (a + 2) j + i) = M (a + 1) (M (a + 2) (j + 1) + i)
theorem zTb.mk {M M1 Mh M3 M2 : zMm} {a : Nat} {l gap i x sp dp z : Int} (h : zTk M1 Mh a l gap i) (e1 : M1 = zcp M (a + 1) (a + 1) sp dp z) (h1 : sp = M (a + 2) (l + 1) ∧ dp = M (a + 2) l ∧ z = M (a + 2) (M a 3) - M (a + 2) (l + 1)) (hr : ∀ x, Mh (a + 1) x = M1 (a + 1) x) (hi : Mh a 3 ≤ i) (e3 : M3 = zup Mh a 3 x) (hx : x = Mh a 3 - 1) (e : zStw M3 M2 a) (hp : ∀ j, 0 ≤ M (a + 2) j) : zTb M M2 a l := by
  obtain ⟨g1, g2, g3, h3, hr2, hv⟩ := h
  obtain ⟨rfl, rfl, rfl⟩ := h1
  have s3 : M1 a 3 = M a 3 := zcp_p e1 (by omega) _
  have s2 : ∀ j, M1 (a + 2) j = M (a + 2) j := fun j => zcp_p e1 (by omega) _
  have m3 : M2 a 3 = M a 3 - 1 := by rw [e.1, zup_s e3, hx, h3, s3]
  have mv : ∀ j, M2 (a + 2) j = if l < j ∧ j < i then M (a + 2) (j + 1) - gap else M (a + 2) j := fun j => by
    rw [e.2.2, zup_p e3 (by omega), hv, s2, s2]
  have mt : ∀ x, M2 (a + 1) x = if M (a + 2) l ≤ x ∧ x < M (a + 2) l + (M (a + 2) (M a 3) - M (a + 2) (l + 1)) then M (a + 1) (M (a + 2) (l + 1) + (x - M (a + 2) l)) else M (a + 1) x := fun x => by
    rw [e.2.1, zup_p e3 (by omega), hr]
    by_cases q : M (a + 2) l ≤ x ∧ x < M (a + 2) l + (M (a + 2) (M a 3) - M (a + 2) (l + 1))
    · rw [if_pos q]
      exact zcp_at e1 q
    · rw [if_neg q]
      exact zcp_o e1 q
  rw [s2, s2] at g3
  rw [s3] at g2 hr2 h3
  have lt : ∀ {p q : Int}, 0 ≤ p → p ≤ q → q ≤ M a 3 → M (a + 2) p ≤ M (a + 2) q := fun {p q} p0 p1 p2 => by
    have := g1.lt (i := p) (j := q) p0 p1 (by rw [s3]; exact p2)
    rw [s2, s2] at this
    exact this
  refine ⟨fun j j0 j1 q q0 q1 => ?_, fun j j0 j1 q q0 q1 => ?_⟩
  · have m1 := lt (p := j + 1) (q := l) (by omega) (by omega) (by omega)
    have pj := hp j
    rw [mv, if_neg (by omega), mt, if_neg (by omega)]
  · have m1 := lt (p := l + 1) (q := j + 1) (by omega) (by omega) (by omega)
    have m2 := lt (p := j + 1 + 1) (q := M a 3) (by omega) (by omega) (by omega)
    by_cases z : j = l
    · subst z
      rw [mv, if_neg (by omega), mt, if_pos (by omega), show M (a + 2) (j + 1) + (M (a + 2) j + q - M (a + 2) j) = M (a + 2) (j + 1) + q by omega]
    · rw [mv, if_pos ⟨by omega, by omega⟩, mt, if_pos (by omega), show M (a + 2) (l + 1) + (M (a + 2) (j + 1) - gap + q - M (a + 2) l) = M (a + 2) (j + 1) + q by omega]
def zTc (M M2 : zMm) (a : Nat) (l : Int) : Prop := (∀ j, j ≤ l → M2 (a + 2) j = M (a + 2) j) ∧ ∀ j, l < j → j < M a 3 → M2 (a + 2) j = M (a + 2) (j + 1) - (M (a + 2) (l + 1) - M (a + 2) l)
theorem zTc.mk {M M1 Mh M3 M2 : zMm} {a : Nat} {l gap i x : Int} (h : zTk M1 Mh a l gap i) (s3 : M1 a 3 = M a 3) (s2 : ∀ j, M1 (a + 2) j = M (a + 2) j) (hi : Mh a 3 ≤ i) (e3 : M3 = zup Mh a 3 x) (e : zStw M3 M2 a) : zTc M M2 a l := by
  obtain ⟨g1, g2, g3, h3, hr2, hv⟩ := h
  have mv : ∀ j, M2 (a + 2) j = if l < j ∧ j < i then M (a + 2) (j + 1) - gap else M (a + 2) j := fun j => by
    rw [e.2.2, zup_p e3 (by omega), hv, s2, s2]
  rw [s2, s2] at g3
  refine ⟨fun j j0 => by rw [mv, if_neg (by omega)], fun j j0 j1 => ?_⟩
  rw [mv, if_pos (by omega)]
  omega
theorem zTc.cg {M M1 M2 M3 : zMm} {a : Nat} {l : Int} (e : zStw M M1 a) (h : zTc M1 M2 a l) (e2 : zStw M2 M3 a) : zTc M M3 a l := ⟨fun j j0 => by rw [e2.2.2, h.1 j j0, e.2.2], fun j j0 j1 => by rw [e2.2.2, h.2 j j0 (by rw [e.1]; exact j1), e.2.2, e.2.2, e.2.2]⟩
theorem zTb.cg {M M1 M2 M3 : zMm} {a : Nat} {l : Int} (e : zStw M M1 a) (h : zTb M1 M2 a l) (e2 : zStw M2 M3 a) : zTb M M3 a l := by
  refine ⟨fun j j0 j1 i i0 i1 => ?_, fun j j0 j1 i i0 i1 => ?_⟩
  · rw [e2.2.2, e2.2.1, ← e.2.2 j, ← e.2.1]
    rw [← e.2.2 j, ← e.2.2 (j + 1)] at i1
    exact h.1 j j0 j1 i i0 i1
  · rw [e2.2.2, e2.2.1, ← e.2.2 (j + 1), ← e.2.1]
    rw [← e.2.2 (j + 1), ← e.2.2 (j + 1 + 1)] at i1
    exact h.2 j j0 (by rw [e2.1] at j1; exact j1) i i0 i1

/-! ===== what a line is of a group ===== -/
/-- j is the first place from i on, below n, where P doesn't hold; n: none -/
def zFst (P : Int → Prop) (n i j : Int) : Prop := (i ≤ j ∧ j ≤ n) ∧ (∀ q, i ≤ q → q < j → P q) ∧ (j = n ∨ ¬ P j)
theorem zFst.eq {P : Int → Prop} {n i j j2 : Int} (h : zFst P n i j) (h2 : zFst P n i j2) : j = j2 := by
  obtain ⟨a1, a2, a3⟩ := h
  obtain ⟨b1, b2, b3⟩ := h2
  by_cases z : j < j2
  · rcases a3 with a3 | a3
    · omega
    · exact absurd (b2 j a1.1 z) a3
  · by_cases z2 : j2 < j
    · rcases b3 with b3 | b3
      · omega
      · exact absurd (a2 j2 b1.1 z2) b3
    · omega
/-- from places of a row to places of a line (s its start) -/
theorem zFst.rel {P Q : Int → Prop} {n i j s m : Int} (h : zFst P n i j) (hm : m = n - s) (e : ∀ q, i - s ≤ q → q < m → (Q q ↔ P (s + q))) : zFst Q m (i - s) (j - s) := by
  subst hm
  obtain ⟨a1, a2, a3⟩ := h
  refine ⟨by omega, fun q q0 q1 => (e q q0 (by omega)).mpr (a2 (s + q) (by omega) (by omega)), ?_⟩
  by_cases z : j = n
  · exact Or.inl (by omega)
  · refine Or.inr (fun q => (a3.resolve_left z) ?_)
    have := (e (j - s) (by omega) (by omega)).mp q
    rw [show s + (j - s) = j by omega] at this
    exact this
def zWo (h : Int → Int) (a b : Int) (k : Nat) : Prop := b - a = ((zTxl.getD k 0 : Nat) : Int) ∧ ∀ i, 0 ≤ i → i < b - a → h (a + i) = zTxc k i
def zRc (h : Int → Int) (a b r : Int) : Prop := (zWo h a b 1 ∨ zWo h a b 2 ∨ zWo h a b 3) ∧ r = 1 ∨ ¬ (zWo h a b 1 ∨ zWo h a b 2 ∨ zWo h a b 3) ∧ (zWo h a b 4 ∧ r = 2 ∨ ¬ zWo h a b 4 ∧ (zWo h a b 5 ∧ r = 3 ∨ ¬ zWo h a b 5 ∧ (zWo h a b 6 ∧ r = 4 ∨ ¬ zWo h a b 6 ∧ r = 0)))
theorem zRc.eq {h : Int → Int} {a b r r2 : Int} (p : zRc h a b r) (q : zRc h a b r2) : r = r2 := by
  rcases p with ⟨p1, p2⟩ | ⟨p1, ⟨p2, p3⟩ | ⟨p2, ⟨p3, p4⟩ | ⟨p3, ⟨p4, p5⟩ | ⟨p4, p5⟩⟩⟩⟩ <;> rcases q with ⟨q1, q2⟩ | ⟨q1, ⟨q2, q3⟩ | ⟨q2, ⟨q3, q4⟩ | ⟨q3, ⟨q4, q5⟩ | ⟨q4, q5⟩⟩⟩⟩ <;> first | omega | exact absurd p1 q1 | exact absurd q1 p1 | exact absurd p2 q2 | exact absurd q2 p2 | exact absurd p3 q3 | exact absurd q3 p3 | exact absurd p4 q4 | exact absurd q4 p4
/-- what a line (h its bytes, n of them) is of a group -/
def zRole (h : Int → Int) (n r : Int) : Prop := ∃ i0, zFst (fun q => h q = 32) n 0 i0 ∧ ((i0 = n ∨ h i0 ≠ 35) ∧ r = 0 ∨ (i0 < n ∧ h i0 = 35) ∧ ∃ j0 e, zFst (fun q => h q = 32) n (i0 + 1) j0 ∧ zFst (fun q => zWd (h q) = 1) n j0 e ∧ zRc h j0 e r)
theorem zRole.eq {h : Int → Int} {n r r2 : Int} (p : zRole h n r) (q : zRole h n r2) : r = r2 := by
  obtain ⟨i0, p1, p2⟩ := p
  obtain ⟨i1, q1, q2⟩ := q
  obtain rfl := p1.eq q1
  rcases p2 with ⟨p2, p3⟩ | ⟨p2, j0, e0, p3, p4, p5⟩ <;> rcases q2 with ⟨q2, q3⟩ | ⟨q2, j1, e1, q3, q4, q5⟩
  · omega
  · omega
  · omega
  · obtain rfl := p3.eq q3
    obtain rfl := p4.eq q4
    exact p5.eq q5
theorem zRole.r {h : Int → Int} {n r : Int} (p : zRole h n r) : 0 ≤ r ∧ r ≤ 4 := by
  obtain ⟨i0, p1, ⟨p2, p3⟩ | ⟨p2, j0, e0, p3, p4, p5⟩⟩ := p
  · omega
  · rcases p5 with ⟨p1, p2⟩ | ⟨p1, ⟨p2, p3⟩ | ⟨p2, ⟨p3, p4⟩ | ⟨p3, ⟨p4, p5⟩ | ⟨p4, p5⟩⟩⟩⟩ <;> omega
/-- the bytes of a line of a row: s its start, n how many -/
def zLb (g : Int → Int) (s n : Int) : Int → Int := zClip (fun i => g (s + i)) n
theorem zLb_at {g : Int → Int} {s n q : Int} (h : 0 ≤ q ∧ q < n) : zLb g s n q = g (s + q) := zClip_at h
theorem zSy_wo {g : Int → Int} {N s n a b : Int} {k : Nat} (h : 0 ≤ s ∧ s ≤ a ∧ a ≤ b ∧ b ≤ s + n ∧ b ≤ N) : zSy g N a b k ↔ zWo (zLb g s n) (a - s) (b - s) k := by
  constructor
  · rintro ⟨h1, h2, h3, h4⟩
    exact ⟨by omega, fun i i0 i1 => by rw [zLb_at (by omega), show s + (a - s + i) = a + i by omega]; exact h4 i i0 (by omega)⟩
  · rintro ⟨h1, h2⟩
    refine ⟨by omega, by omega, by omega, fun i i0 i1 => ?_⟩
    have := h2 i i0 (by omega)
    rw [zLb_at (by omega), show s + (a - s + i) = a + i by omega] at this
    exact this
/-- what the class's questions of a line say: s its start, t its end (the 10), i the first byte that is no blank, j and e the word -/
theorem zRole.c0 {g : Int → Int} {s t i : Int} (hs : 0 ≤ s ∧ s ≤ t) (h1 : zFst (fun q => g q = 32) t s i) (h2 : i = t ∨ g i ≠ 35) : zRole (zLb g s (t - s)) (t - s) 0 := by
  have r1 : zFst (fun q => zLb g s (t - s) q = 32) (t - s) (s - s) (i - s) := h1.rel rfl (fun q q0 q1 => by rw [zLb_at (by omega)])
  rw [show s - s = 0 by omega] at r1
  refine ⟨i - s, r1, Or.inl ⟨?_, rfl⟩⟩
  by_cases z : i = t
  · exact Or.inl (by omega)
  · exact Or.inr (by rw [zLb_at (by have := h1.1; omega), show s + (i - s) = i by omega]; exact h2.resolve_left z)
theorem zRole.c1 {g : Int → Int} {s t i j e r : Int} (hs : 0 ≤ s ∧ s ≤ t ∧ t ≤ 401) (h1 : zFst (fun q => g q = 32) t s i) (h2 : i < t ∧ g i = 35) (h3 : zFst (fun q => g q = 32) t (i + 1) j) (h4 : zFst (fun q => zWd (g q) = 1) t j e) (h5 : (zSy g 401 j e 1 ∨ zSy g 401 j e 2 ∨ zSy g 401 j e 3) ∧ r = 1 ∨ ¬ (zSy g 401 j e 1 ∨ zSy g 401 j e 2 ∨ zSy g 401 j e 3) ∧ (zSy g 401 j e 4 ∧ r = 2 ∨ ¬ zSy g 401 j e 4 ∧ (zSy g 401 j e 5 ∧ r = 3 ∨ ¬ zSy g 401 j e 5 ∧ (zSy g 401 j e 6 ∧ r = 4 ∨ ¬ zSy g 401 j e 6 ∧ r = 0)))) : zRole (zLb g s (t - s)) (t - s) r := by
  have b1 := h1.1
  have b3 := h3.1
  have b4 := h4.1
  have r1 : zFst (fun q => zLb g s (t - s) q = 32) (t - s) (s - s) (i - s) := h1.rel rfl (fun q q0 q1 => by rw [zLb_at (by omega)])
  have r3 : zFst (fun q => zLb g s (t - s) q = 32) (t - s) (i + 1 - s) (j - s) := h3.rel rfl (fun q q0 q1 => by rw [zLb_at (by omega)])
  have r4 : zFst (fun q => zWd (zLb g s (t - s) q) = 1) (t - s) (j - s) (e - s) := h4.rel rfl (fun q q0 q1 => by rw [zLb_at (by omega)])
  rw [show s - s = 0 by omega] at r1
  rw [show i + 1 - s = i - s + 1 by omega] at r3
  have w : ∀ k, zSy g 401 j e k ↔ zWo (zLb g s (t - s)) (j - s) (e - s) k := fun k => zSy_wo (by omega)
  rw [w 1, w 2, w 3, w 4, w 5, w 6] at h5
  exact ⟨i - s, r1, Or.inr ⟨⟨by omega, by rw [zLb_at (by omega), show s + (i - s) = i by omega]; exact h2.2⟩, j - s, e - s, r3, r4, h5⟩⟩
/-- the words of a page are those of its lines -/
def zWv (M : zMm) (p : Nat) : Prop := ∀ l, 0 ≤ l → l < M p 3 → M (p + 2) l < M (p + 2) (l + 1) → zRole (zLb (M (p + 1)) (M (p + 2) l) (M (p + 2) (l + 1) - 1 - M (p + 2) l)) (M (p + 2) (l + 1) - 1 - M (p + 2) l) (M (p + 3) l)
theorem zWv.cg {M M2 : zMm} {p : Nat} (h : zWv M p) (e : zStw M M2 p) (e3 : ∀ j, M2 (p + 3) j = M (p + 3) j) : zWv M2 p := by
  have e1 : M2 (p + 1) = M (p + 1) := funext e.2.1
  intro l l0 l1 l2
  rw [e.2.2, e.2.2] at l2 ⊢
  rw [e1, e3]
  exact h l l0 (by rw [e.1] at l1; exact l1) l2
/-- how many groups are open ahead of a line -/
def zIw (W : Int → Int) : Nat → Int
  | 0 => 0
  | n + 1 => if W n = 1 then zIw W n + 1 else if W n = 4 ∧ 0 < zIw W n then zIw W n - 1 else zIw W n
theorem zIw_s {W : Int → Int} {i : Int} (h : 0 ≤ i) : zIw W (i + 1).toNat = if W i = 1 then zIw W i.toNat + 1 else if W i = 4 ∧ 0 < zIw W i.toNat then zIw W i.toNat - 1 else zIw W i.toNat := by
  have e : (i + 1).toNat = i.toNat + 1 := by omega
  have e2 : zIw W (i.toNat + 1) = if W ((i.toNat : Nat) : Int) = 1 then zIw W i.toNat + 1 else if W ((i.toNat : Nat) : Int) = 4 ∧ 0 < zIw W i.toNat then zIw W i.toNat - 1 else zIw W i.toNat := rfl
  rw [e, e2, show ((i.toNat : Nat) : Int) = i by omega]
theorem zIw_i {W : Int → Int} {i : Int} (h : 0 ≤ i) : W i = 1 ∧ zIw W (i + 1).toNat = zIw W i.toNat + 1 ∨ W i ≠ 1 ∧ (W i = 4 ∧ 0 < zIw W i.toNat ∧ zIw W (i + 1).toNat = zIw W i.toNat - 1 ∨ (W i ≠ 4 ∨ zIw W i.toNat ≤ 0) ∧ zIw W (i + 1).toNat = zIw W i.toNat) := by
  rw [zIw_s h]
  by_cases z : W i = 1
  · exact Or.inl ⟨z, if_pos z⟩
  · refine Or.inr ⟨z, ?_⟩
    rw [if_neg z]
    by_cases z2 : W i = 4 ∧ 0 < zIw W i.toNat
    · exact Or.inl ⟨z2.1, z2.2, if_pos z2⟩
    · exact Or.inr ⟨by omega, if_neg z2⟩
/-- how deep a line stands behind another one -/
def zDe (W : Int → Int) (l : Int) : Nat → Int
  | 0 => 0
  | n + 1 => zDe W l n + if W (l + 1 + n) = 1 then 1 else if W (l + 1 + n) = 4 then -1 else 0
theorem zDe_i {W : Int → Int} {l i : Int} (h : l + 1 ≤ i) : W i = 1 ∧ zDe W l (i + 1 - (l + 1)).toNat = zDe W l (i - (l + 1)).toNat + 1 ∨ W i = 4 ∧ zDe W l (i + 1 - (l + 1)).toNat = zDe W l (i - (l + 1)).toNat - 1 ∨ W i ≠ 1 ∧ W i ≠ 4 ∧ zDe W l (i + 1 - (l + 1)).toNat = zDe W l (i - (l + 1)).toNat := by
  have e : (i + 1 - (l + 1)).toNat = (i - (l + 1)).toNat + 1 := by omega
  have e2 : zDe W l ((i - (l + 1)).toNat + 1) = zDe W l (i - (l + 1)).toNat + if W (l + 1 + (((i - (l + 1)).toNat : Nat) : Int)) = 1 then 1 else if W (l + 1 + (((i - (l + 1)).toNat : Nat) : Int)) = 4 then -1 else 0 := rfl
  rw [e, e2, show l + 1 + (((i - (l + 1)).toNat : Nat) : Int) = i by omega]
  by_cases z : W i = 1
  · exact Or.inl ⟨z, by rw [if_pos z]⟩
  · by_cases z2 : W i = 4
    · exact Or.inr (Or.inl ⟨z2, by rw [if_neg z, if_pos z2]; omega⟩)
    · exact Or.inr (Or.inr ⟨z, z2, by rw [if_neg z, if_neg z2, Int.add_zero]⟩)
/-- x: the next line of the group behind l, of n lines -/
def zBh (W : Int → Int) (n l x : Int) : Prop := x = -1 ∧ (∀ i, l < i → i < n → ¬ (2 ≤ W i ∧ zDe W l (i - (l + 1)).toNat = 0)) ∨ (l < x ∧ x < n) ∧ 2 ≤ W x ∧ zDe W l (x - (l + 1)).toNat = 0 ∧ ∀ i, l < i → i < x → ¬ (2 ≤ W i ∧ zDe W l (i - (l + 1)).toNat = 0)
theorem zBh.eq {W : Int → Int} {n l x y : Int} (p : zBh W n l x) (q : zBh W n l y) : x = y := by
  rcases p with ⟨p1, p2⟩ | ⟨p1, p2, p3, p4⟩ <;> rcases q with ⟨q1, q2⟩ | ⟨q1, q2, q3, q4⟩
  · omega
  · exact absurd ⟨q2, q3⟩ (p2 y q1.1 q1.2)
  · exact absurd ⟨p2, p3⟩ (q2 x p1.1 p1.2)
  · by_cases z : x < y
    · exact absurd ⟨p2, p3⟩ (q4 x p1.1 z)
    · by_cases z2 : y < x
      · exact absurd ⟨q2, q3⟩ (p4 y q1.1 z2)
      · omega
def zNxw (W : Int → Int) (n l x : Int) : Prop := (W l = 0 ∨ W l = 4 ∨ W l ≠ 1 ∧ zIw W l.toNat ≤ 0) ∧ x = -1 ∨ ¬ (W l = 0 ∨ W l = 4 ∨ W l ≠ 1 ∧ zIw W l.toNat ≤ 0) ∧ zBh W n l x
theorem zNxw.eq {W : Int → Int} {n l x y : Int} (p : zNxw W n l x) (q : zNxw W n l y) : x = y := by
  rcases p with ⟨p1, p2⟩ | ⟨p1, p2⟩ <;> rcases q with ⟨q1, q2⟩ | ⟨q1, q2⟩
  · omega
  · exact absurd p1 q1
  · exact absurd q1 p1
  · exact p2.eq q2
theorem zNxw.r {W : Int → Int} {n l x : Int} (p : zNxw W n l x) (hl : 0 ≤ l) (hn : n ≤ 40) : -1 ≤ x ∧ x < 40 := by
  rcases p with ⟨p1, p2⟩ | ⟨p1, ⟨p2, p3⟩ | ⟨p2, p3, p4⟩⟩ <;> omega
theorem zBh.start {W : Int → Int} {l i : Int} (h : i = l + 1) : ∀ j, l < j → j < i → ¬ (2 ≤ W j ∧ zDe W l (j - (l + 1)).toNat = 0) := fun j j0 j1 => by omega
theorem zWv.mk {M Mh M2 : zMm} {p : Nat} {n : Int} (h : ∀ l, 0 ≤ l → l < n → M (p + 2) l < M (p + 2) (l + 1) → zRole (zLb (M (p + 1)) (M (p + 2) l) (M (p + 2) (l + 1) - 1 - M (p + 2) l)) (M (p + 2) (l + 1) - 1 - M (p + 2) l) (Mh (p + 3) l)) (hn : M p 3 ≤ n) (e : zStw M M2 p) (e3 : ∀ j, M2 (p + 3) j = Mh (p + 3) j) : zWv M2 p := by
  have e1 : M2 (p + 1) = M (p + 1) := funext e.2.1
  intro l l0 l1 l2
  rw [e.2.2, e.2.2] at l2 ⊢
  rw [e1, e3]
  exact h l l0 (by rw [e.1] at l1; omega) l2
/-- a page is copied: bytes, words, guard -/
def zPd (M M2 : zMm) (p q : Nat) : Prop := (M2 p 5 = M q 5 ∧ M2 p 6 = M q 6) ∧ (∀ i, 0 ≤ i → i < 401 → M2 (p + 1) i = M (q + 1) i) ∧ ∀ i, 0 ≤ i → i < 40 → M2 (p + 3) i = M (q + 3) i
/-- a page is as it was, whole -/
def zSw (M M2 : zMm) (p : Nat) : Prop := zStw M M2 p ∧ (M2 p 5 = M p 5 ∧ M2 p 6 = M p 6) ∧ ∀ i, M2 (p + 3) i = M (p + 3) i
theorem zSw.rf {M : zMm} {p : Nat} : zSw M M p := ⟨zStw.rf, ⟨rfl, rfl⟩, fun _ => rfl⟩
theorem zSw.tr {M M1 M2 : zMm} {p : Nat} (h : zSw M M1 p) (g : zSw M1 M2 p) : zSw M M2 p := ⟨h.1.tr g.1, ⟨g.2.1.1.trans h.2.1.1, g.2.1.2.trans h.2.1.2⟩, fun i => (g.2.2 i).trans (h.2.2 i)⟩
theorem zPd.tr {M M1 M2 : zMm} {p q : Nat} (h : zPd M M1 p q) (e : zSw M1 M2 p) : zPd M M2 p q := ⟨⟨e.2.1.1.trans h.1.1, e.2.1.2.trans h.1.2⟩, fun i i0 i1 => (e.1.2.1 i).trans (h.2.1 i i0 i1), fun i i0 i1 => (e.2.2 i).trans (h.2.2 i i0 i1)⟩
theorem zPd.pr {M M1 M2 : zMm} {p q : Nat} (h : zPd M1 M2 p q) (e : zSw M M1 q) : zPd M M2 p q := ⟨⟨h.1.1.trans e.2.1.1, h.1.2.trans e.2.1.2⟩, fun i i0 i1 => (h.2.1 i i0 i1).trans (e.1.2.1 i), fun i i0 i1 => (h.2.2 i i0 i1).trans (e.2.2 i)⟩
theorem zSw.ofr {M M2 : zMm} {p b n : Nat} (hr : zKr b n M M2) (hd : b + n ≤ p ∨ p + 4 ≤ b) : zSw M M2 p := ⟨⟨hr _ _ (by omega), fun i => hr _ _ (by omega), fun i => hr _ _ (by omega)⟩, ⟨hr _ _ (by omega), hr _ _ (by omega)⟩, fun i => hr _ _ (by omega)⟩
theorem zSw.ofu {M M2 : zMm} {p c : Nat} {i x : Int} (e : M2 = zup M c i x) (hd : c < p ∨ p + 4 ≤ c) : zSw M M2 p := ⟨⟨zup_p e (by omega) _, fun i => zup_p e (by omega) _, fun i => zup_p e (by omega) _⟩, ⟨zup_p e (by omega) _, zup_p e (by omega) _⟩, fun i => zup_p e (by omega) _⟩
theorem zSw.ofc {M M2 : zMm} {p c c0 : Nat} {sp dp z : Int} (e : M2 = zcp M c0 c sp dp z) (hd : c < p ∨ p + 4 ≤ c) : zSw M M2 p := ⟨⟨zcp_p e (by omega) _, fun i => zcp_p e (by omega) _, fun i => zcp_p e (by omega) _⟩, ⟨zcp_p e (by omega) _, zcp_p e (by omega) _⟩, fun i => zcp_p e (by omega) _⟩
theorem zSw.ofo {a r n p : Nat} {M M2 : zMm} {q : Int} (h : zOu a r n M M2) (hp : p = a + 2 ∨ p = a + 786 ∨ p = a + 811) (hq : 0 ≤ q ∧ q < 4) (hd : p + 9 + 4 * q.toNat + 4 ≤ r ∨ r + n ≤ p + 9 + 4 * q.toNat) : zSw M M2 (p + 9 + 4 * q.toNat) := ⟨⟨h _ _ (zCe.pg hp hq (Or.inl ⟨rfl, by omega⟩)) (by omega), fun i => h _ _ (zCe.pg hp hq (Or.inr ⟨by omega, by omega⟩)) (by omega), fun i => h _ _ (zCe.pg hp hq (Or.inr ⟨by omega, by omega⟩)) (by omega)⟩, ⟨h _ _ (zCe.pg hp hq (Or.inl ⟨rfl, by omega⟩)) (by omega), h _ _ (zCe.pg hp hq (Or.inl ⟨rfl, by omega⟩)) (by omega)⟩, fun i => h _ _ (zCe.pg hp hq (Or.inr ⟨by omega, by omega⟩)) (by omega)⟩
/-- of sources: the first n pages are copied -/
def zSe (M M2 : zMm) (a o : Nat) (n : Int) : Prop := ∀ k : Int, 0 ≤ k → k < n → zPd M M2 (a + 9 + 4 * k.toNat) (o + 9 + 4 * k.toNat)
theorem zSe.pg {M Mc M2 : zMm} {a o : Nat} {k : Int} (h : zSe M Mc a o k) (hr : zKr (a + 9 + 4 * k.toNat) 4 Mc M2) (hk : 0 ≤ k ∧ k < 4) (hz : zPd Mc M2 (a + 9 + 4 * k.toNat) (o + 9 + 4 * k.toNat)) (hf : zKr a 25 M Mc) (ho : o + 25 ≤ a ∨ a + 25 ≤ o) : zSe M M2 a o (k + 1) := fun j j0 j1 => by
  by_cases q : j = k
  · rw [q]
    exact hz.pr (zSw.ofr hf (by omega))
  · exact (h j j0 (by omega)).tr (zSw.ofr hr (by omega))
theorem zSe.up {M M1 M2 : zMm} {a o c : Nat} {n i x : Int} (h : zSe M M1 a o n) (e : M2 = zup M1 c i x) (hd : c < a + 9 ∨ a + 25 ≤ c) (hn : n ≤ 4) : zSe M M2 a o n := fun j j0 j1 => (h j j0 j1).tr (zSw.ofu e (by omega))
theorem zSe.cp {M M1 M2 : zMm} {a o c c0 : Nat} {n sp dp z : Int} (h : zSe M M1 a o n) (e : M2 = zcp M1 c0 c sp dp z) (hd : c < a + 9 ∨ a + 25 ≤ c) (hn : n ≤ 4) : zSe M M2 a o n := fun j j0 j1 => (h j j0 j1).tr (zSw.ofc e (by omega))
theorem zSe.ou {a p o : Nat} {M M1 M2 : zMm} {n : Int} (h : zSe M M1 p o n) (g : zOu a 0 0 M1 M2) (hp : p = a + 2 ∨ p = a + 786 ∨ p = a + 811) (hn : n ≤ 4) : zSe M M2 p o n := fun k k0 k1 => (h k k0 k1).tr (zSw.ofo g hp ⟨k0, by omega⟩ (by omega))

theorem c_X4_skipBlanks_e {w : zWp} {T : zTl} {M : zMm} {J : zJm} {R : zRm'} {G : zGt} {F : zRm'} {a : Nat} (hI : zI G M) (hF : zF F R) (h0 : zPage T F G a) (v1 : Int) (v2 : Int) (p1 : 0 ≤ v1 ∧ v1 ≤ 1000) (p2 : -1 ≤ v2 ∧ v2 ≤ 401) : zCt w 1 0 0 yX4_skipBlanks cX4_skipBlanks 4 (some .int) [.ref (w.2.1 + a), zi v1, zi v2] (T, M, J, R) (zPp T M J R (fun x => (v1 ≤ x ∧ (x ≤ v2 ∨ x = v1)) ∧ (zFst (fun q => M (a + 1) q = 32) v2 v1 x ∨ v2 < v1 ∧ x = v1))) := by
  refine zCt.of rfl (Nat.le_of_ble_eq_true rfl) ?_
  intro p e s m args below meth c C
  obtain ⟨Po, hPo⟩ : ∃ Po, Po = zPp T M J R (fun x => (v1 ≤ x ∧ (x ≤ v2 ∨ x = v1)) ∧ (zFst (fun q => M (a + 1) q = 32) v2 v1 x ∨ v2 < v1 ∧ x = v1)) := ⟨_, rfl⟩
  rw [← hPo]
  show zK w p e 1 0 0 s m args below meth c 4 T Po 0 [.ref (w.2.1 + a), zi v1, zi v2, .null] [] (T, M, J, R)
  refine q_iload_n C dX4_skipBlanks_0 (n := 1) rfl rfl ?_
  refine q_istore_n C [.ref (w.2.1 + a), zi v1, zi v2, zi v1] dX4_skipBlanks_1 (n := 2) rfl rfl rfl ?_
  have L_5 : ∀ n6 : Nat, ∀ (u1 : Int), (-2147483648 ≤ u1 ∧ u1 ≤ 2147483647) → (v1 ≤ u1 ∧ (u1 ≤ v2 ∨ u1 = v1)) → (∀ q, v1 ≤ q → q < u1 → M (a + 1) q = 32) → (1500 - u1 ≤ (n6 : Int)) → zK w p e 1 0 0 s m args below meth c 4 T Po 2 [.ref (w.2.1 + a), .null, zi v2, zi u1] [] (T, M, J, R) := by
    intro n6
    induction n6 with
    | zero =>
      intro u1 h2 h3 h4 hm8
      exfalso
      omega
    | succ n6 ih7 =>
      intro u1 h2 h3 h4 hm8
      refine q_iload_n C dX4_skipBlanks_2 (n := 3) rfl rfl ?_
      refine q_iload_n C dX4_skipBlanks_3 (n := 4) rfl rfl ?_
      refine q_icmp_ge C 24 dX4_skipBlanks_4 (n := 7) rfl rfl (by omega) (fun h9 => ?_) (fun h9 => ?_)
      · refine q_iload_n C dX4_skipBlanks_24 (n := 25) rfl rfl ?_
        exact q_iret C dX4_skipBlanks_25 ⟨rfl, rfl⟩ (by rw [hPo]; exact ⟨u1, rfl, rfl, by omega, (by by_cases z : v1 ≤ v2; exact Or.inl ⟨⟨by omega, by omega⟩, fun q q0 q1 => h4 q q0 (by omega), by show _ ∨ ¬ (M (a + 1) (u1) = 32); omega⟩; exact Or.inr ⟨by omega, by omega⟩)⟩)
      · refine q_aload_n C dX4_skipBlanks_7 (n := 8) rfl rfl ?_
        refine q_getR C dX4_skipBlanks_8 (n := 11) rfl f_X4_9 h0.1 (hF _ _ _ h0.2.1) ?_
        refine q_iload_n C dX4_skipBlanks_11 (n := 12) rfl rfl ?_
        have g10 := zI.at hI (h0.2.2.2.1 u1)
        refine q_bald C dX4_skipBlanks_12 (n := 13) rfl h0.2.2.1 (by omega) (v := M (a + 1) u1) rfl ?_
        refine q_bipush C dX4_skipBlanks_13 (n := 15) rfl (x := 32) (by decide) ?_
        refine q_icmp_ne C 24 dX4_skipBlanks_15 (n := 18) rfl rfl (by omega) (fun h11 => ?_) (fun h11 => ?_)
        · refine q_iload_n C dX4_skipBlanks_24 (n := 25) rfl rfl ?_
          exact q_iret C dX4_skipBlanks_25 ⟨rfl, rfl⟩ (by rw [hPo]; exact ⟨u1, rfl, rfl, by omega, (by by_cases z : v1 ≤ v2; exact Or.inl ⟨⟨by omega, by omega⟩, fun q q0 q1 => h4 q q0 (by omega), by show _ ∨ ¬ (M (a + 1) (u1) = 32); omega⟩; exact Or.inr ⟨by omega, by omega⟩)⟩)
        · refine q_iinc C [.ref (w.2.1 + a), .null, zi v2, zi (u1 + 1)] dX4_skipBlanks_18 (n := 21) rfl rfl rfl rfl ?_
          refine q_goto C 2 dX4_skipBlanks_21 rfl ?_
          exact zK.weak (ih7 (u1 + 1) (by omega) (by omega) (fun q q0 q1 => (Decidable.em (q = u1)).elim (fun z => by rw [z]; omega) (fun z => h4 q q0 (by omega))) (by omega)) (zwk_c (zwk_n (zwk_c (zwk_c zwk_e))))
  exact zK.weak (L_5 _ v1 (by omega) (by omega) (fun q q0 q1 => by omega) (Int.self_le_toNat _)) (zwk_c (zwk_n (zwk_c (zwk_c zwk_e))))
theorem c_X4_skipWord_e {w : zWp} {T : zTl} {M : zMm} {J : zJm} {R : zRm'} {G : zGt} {F : zRm'} {a : Nat} (hI : zI G M) (hF : zF F R) (h0 : zPage T F G a) (v1 : Int) (v2 : Int) (p1 : 0 ≤ v1 ∧ v1 ≤ 1000) (p2 : -1 ≤ v2 ∧ v2 ≤ 401) : zCt w 2 0 0 yX4_skipWord cX4_skipWord 4 (some .int) [.ref (w.2.1 + a), zi v1, zi v2] (T, M, J, R) (zPp T M J R (fun x => (v1 ≤ x ∧ (x ≤ v2 ∨ x = v1)) ∧ (zFst (fun q => zWd (M (a + 1) q) = 1) v2 v1 x ∨ v2 < v1 ∧ x = v1))) := by
  refine zCt.of rfl (Nat.le_of_ble_eq_true rfl) ?_
  intro p e s m args below meth c C
  obtain ⟨Po, hPo⟩ : ∃ Po, Po = zPp T M J R (fun x => (v1 ≤ x ∧ (x ≤ v2 ∨ x = v1)) ∧ (zFst (fun q => zWd (M (a + 1) q) = 1) v2 v1 x ∨ v2 < v1 ∧ x = v1)) := ⟨_, rfl⟩
  rw [← hPo]
  show zK w p e 2 0 0 s m args below meth c 4 T Po 0 [.ref (w.2.1 + a), zi v1, zi v2, .null] [] (T, M, J, R)
  refine q_iload_n C dX4_skipWord_0 (n := 1) rfl rfl ?_
  refine q_istore_n C [.ref (w.2.1 + a), zi v1, zi v2, zi v1] dX4_skipWord_1 (n := 2) rfl rfl rfl ?_
  have L_5 : ∀ n6 : Nat, ∀ (u1 : Int), (-2147483648 ≤ u1 ∧ u1 ≤ 2147483647) → (v1 ≤ u1 ∧ (u1 ≤ v2 ∨ u1 = v1)) → (∀ q, v1 ≤ q → q < u1 → zWd (M (a + 1) q) = 1) → (1500 - u1 ≤ (n6 : Int)) → zK w p e 2 0 0 s m args below meth c 4 T Po 2 [.ref (w.2.1 + a), .null, zi v2, zi u1] [] (T, M, J, R) := by
    intro n6
    induction n6 with
    | zero =>
      intro u1 h2 h3 h4 hm8
      exfalso
      omega
    | succ n6 ih7 =>
      intro u1 h2 h3 h4 hm8
      refine q_iload_n C dX4_skipWord_2 (n := 3) rfl rfl ?_
      refine q_iload_n C dX4_skipWord_3 (n := 4) rfl rfl ?_
      refine q_icmp_ge C 25 dX4_skipWord_4 (n := 7) rfl rfl (by omega) (fun h9 => ?_) (fun h9 => ?_)
      · refine q_iload_n C dX4_skipWord_25 (n := 26) rfl rfl ?_
        exact q_iret C dX4_skipWord_26 ⟨rfl, rfl⟩ (by rw [hPo]; exact ⟨u1, rfl, rfl, by omega, (by by_cases z : v1 ≤ v2; exact Or.inl ⟨⟨by omega, by omega⟩, fun q q0 q1 => h4 q q0 (by omega), by show _ ∨ ¬ (zWd (M (a + 1) (u1)) = 1); omega⟩; exact Or.inr ⟨by omega, by omega⟩)⟩)
      · refine q_aload_n C dX4_skipWord_7 (n := 8) rfl rfl ?_
        refine q_getR C dX4_skipWord_8 (n := 11) rfl f_X4_9 h0.1 (hF _ _ _ h0.2.1) ?_
        refine q_iload_n C dX4_skipWord_11 (n := 12) rfl rfl ?_
        have g10 := zI.at hI (h0.2.2.2.1 u1)
        refine q_bald C dX4_skipWord_12 (n := 13) rfl h0.2.2.1 (by omega) (v := M (a + 1) u1) rfl ?_
        refine q_callSp C dX4_skipWord_13 (n := 16) rfl m_X4_53 s_yX10_isWord (c_X10_isWord_e (w := w) (J := J) hI hF (M (a + 1) u1) (by omega)) (Nat.le_of_ble_eq_true rfl) rfl rfl (Nat.le_of_ble_eq_true rfl) ⟨Nat.le_refl _, Nat.le_refl _⟩ (fun x13 h14 => ?_)
        obtain ⟨h11, h12⟩ := h14
        obtain rfl : x13 = zWd (M (a + 1) u1) := h11
        refine q_if_eq C 25 dX4_skipWord_16 (n := 19) rfl rfl (by omega) (fun h15 => ?_) (fun h15 => ?_)
        · refine q_iload_n C dX4_skipWord_25 (n := 26) rfl rfl ?_
          exact q_iret C dX4_skipWord_26 ⟨rfl, rfl⟩ (by rw [hPo]; exact ⟨u1, rfl, rfl, by omega, (by by_cases z : v1 ≤ v2; exact Or.inl ⟨⟨by omega, by omega⟩, fun q q0 q1 => h4 q q0 (by omega), by show _ ∨ ¬ (zWd (M (a + 1) (u1)) = 1); omega⟩; exact Or.inr ⟨by omega, by omega⟩)⟩)
        · refine q_iinc C [.ref (w.2.1 + a), .null, zi v2, zi (u1 + 1)] dX4_skipWord_19 (n := 22) rfl rfl rfl rfl ?_
          refine q_goto C 2 dX4_skipWord_22 rfl ?_
          exact zK.weak (ih7 (u1 + 1) (by omega) (by omega) (fun q q0 q1 => (Decidable.em (q = u1)).elim (fun z => by rw [z]; omega) (fun z => h4 q q0 (by omega))) (by omega)) (zwk_c (zwk_n (zwk_c (zwk_c zwk_e))))
  exact zK.weak (L_5 _ v1 (by omega) (by omega) (fun q q0 q1 => by omega) (Int.self_le_toNat _)) (zwk_c (zwk_n (zwk_c (zwk_c zwk_e))))
theorem c_X4_firstOf_e {w : zWp} {T : zTl} {M : zMm} {J : zJm} {R : zRm'} {G : zGt} {F : zRm'} {a : Nat} (hI : zI G M) (hF : zF F R) (h0 : zPage T F G a) (v1 : Int) (p1 : 0 ≤ v1 ∧ v1 ≤ 39) : zCt w 2 0 0 yX4_firstOf cX4_firstOf 2 (some .int) [.ref (w.2.1 + a), zi v1] (T, M, J, R) (zPp T M J R (fun x => (0 ≤ x ∧ x ≤ 401) ∧ (zFst (fun q => M (a + 1) q = 32) (M (a + 2) (v1 + 1) - 1) (M (a + 2) v1) x ∨ (M (a + 2) (v1 + 1) - 1) < (M (a + 2) v1) ∧ x = (M (a + 2) v1)))) := by
  refine zCt.of rfl (Nat.le_of_ble_eq_true rfl) ?_
  intro p e s m args below meth c C
  obtain ⟨Po, hPo⟩ : ∃ Po, Po = zPp T M J R (fun x => (0 ≤ x ∧ x ≤ 401) ∧ (zFst (fun q => M (a + 1) q = 32) (M (a + 2) (v1 + 1) - 1) (M (a + 2) v1) x ∨ (M (a + 2) (v1 + 1) - 1) < (M (a + 2) v1) ∧ x = (M (a + 2) v1))) := ⟨_, rfl⟩
  rw [← hPo]
  show zK w p e 2 0 0 s m args below meth c 2 T Po 0 [.ref (w.2.1 + a), zi v1] [] (T, M, J, R)
  refine q_aload_n C dX4_firstOf_0 (n := 1) rfl rfl ?_
  refine q_aload_n C dX4_firstOf_1 (n := 2) rfl rfl ?_
  refine q_getR C dX4_firstOf_2 (n := 5) rfl f_X4_15 h0.1 (hF _ _ _ h0.2.2.2.2.1) ?_
  refine q_iload_n C dX4_firstOf_5 (n := 6) rfl rfl ?_
  have g1 := zI.at hI (h0.2.2.2.2.2.2.1 v1)
  refine q_iald C dX4_firstOf_6 (n := 7) rfl h0.2.2.2.2.2.1 (by omega) (v := M (a + 2) v1) rfl ?_
  refine q_aload_n C dX4_firstOf_7 (n := 8) rfl rfl ?_
  refine q_getR C dX4_firstOf_8 (n := 11) rfl f_X4_15 h0.1 (hF _ _ _ h0.2.2.2.2.1) ?_
  refine q_iload_n C dX4_firstOf_11 (n := 12) rfl rfl ?_
  refine q_iconst C dX4_firstOf_12 (n := 13) rfl ?_
  refine q_iadd C dX4_firstOf_13 (n := 14) rfl (v := v1 + 1) rfl ?_
  have g2 := zI.at hI (h0.2.2.2.2.2.2.1 (v1 + 1))
  refine q_iald C dX4_firstOf_14 (n := 15) rfl h0.2.2.2.2.2.1 (by omega) (v := M (a + 2) (v1 + 1)) rfl ?_
  refine q_iconst C dX4_firstOf_15 (n := 16) rfl ?_
  refine q_isub C dX4_firstOf_16 (n := 17) rfl (v := (M (a + 2) (v1 + 1)) - 1) rfl ?_
  refine q_callVp C dX4_firstOf_17 (n := 20) rfl m_X4_49 v_yX4_skipBlanks h0.1 ⟨by decide, rfl⟩ (c_X4_skipBlanks_e (w := w) (J := J) hI hF h0 (M (a + 2) v1) ((M (a + 2) (v1 + 1)) - 1) (by omega) (by omega)) (Nat.le_of_ble_eq_true rfl) rfl rfl (Nat.le_of_ble_eq_true rfl) ⟨Nat.le_refl _, Nat.le_refl _⟩ (fun x5 h6 => ?_)
  obtain ⟨h3, h4⟩ := h6
  exact q_iret C dX4_firstOf_20 ⟨rfl, rfl⟩ (by rw [hPo]; exact ⟨x5, rfl, rfl, by omega, h4⟩)
theorem c_X4_wordOf_e {w : zWp} {T : zTl} {M : zMm} {J : zJm} {R : zRm'} {G : zGt} {F : zRm'} {a : Nat} (hI : zI G M) (hF : zF F R) (h0 : zPage T F G a) (v1 : Int) (p1 : 0 ≤ v1 ∧ v1 ≤ 39) : zCt w 10 0 0 yX4_wordOf cX4_wordOf 6 (some .int) [.ref (w.2.1 + a), zi v1] (T, M, J, R) (zPp T M J R (fun x => (0 ≤ x ∧ x ≤ 4) ∧ (M (a + 2) v1 < M (a + 2) (v1 + 1) → zRole (zLb (M (a + 1)) (M (a + 2) v1) (M (a + 2) (v1 + 1) - 1 - M (a + 2) v1)) (M (a + 2) (v1 + 1) - 1 - M (a + 2) v1) x))) := by
  refine zCt.of rfl (Nat.le_of_ble_eq_true rfl) ?_
  intro p e s m args below meth c C
  obtain ⟨Po, hPo⟩ : ∃ Po, Po = zPp T M J R (fun x => (0 ≤ x ∧ x ≤ 4) ∧ (M (a + 2) v1 < M (a + 2) (v1 + 1) → zRole (zLb (M (a + 1)) (M (a + 2) v1) (M (a + 2) (v1 + 1) - 1 - M (a + 2) v1)) (M (a + 2) (v1 + 1) - 1 - M (a + 2) v1) x)) := ⟨_, rfl⟩
  rw [← hPo]
  have gs0 := zI.at hI (h0.2.2.2.2.2.2.1 v1)
  show zK w p e 10 0 0 s m args below meth c 6 T Po 0 [.ref (w.2.1 + a), zi v1, .null, .null, .null, .null] [] (T, M, J, R)
  refine q_aload_n C dX4_wordOf_0 (n := 1) rfl rfl ?_
  refine q_getR C dX4_wordOf_1 (n := 4) rfl f_X4_15 h0.1 (hF _ _ _ h0.2.2.2.2.1) ?_
  refine q_iload_n C dX4_wordOf_4 (n := 5) rfl rfl ?_
  refine q_iconst C dX4_wordOf_5 (n := 6) rfl ?_
  refine q_iadd C dX4_wordOf_6 (n := 7) rfl (v := v1 + 1) rfl ?_
  have g1 := zI.at hI (h0.2.2.2.2.2.2.1 (v1 + 1))
  refine q_iald C dX4_wordOf_7 (n := 8) rfl h0.2.2.2.2.2.1 (by omega) (v := M (a + 2) (v1 + 1)) rfl ?_
  refine q_iconst C dX4_wordOf_8 (n := 9) rfl ?_
  refine q_isub C dX4_wordOf_9 (n := 10) rfl (v := (M (a + 2) (v1 + 1)) - 1) rfl ?_
  refine q_istore_n C [.ref (w.2.1 + a), zi v1, zi ((M (a + 2) (v1 + 1)) - 1), .null, .null, .null] dX4_wordOf_10 (n := 11) rfl rfl rfl ?_
  refine q_aload_n C dX4_wordOf_11 (n := 12) rfl rfl ?_
  refine q_iload_n C dX4_wordOf_12 (n := 13) rfl rfl ?_
  refine q_callVp C dX4_wordOf_13 (n := 16) rfl m_X4_67 v_yX4_firstOf h0.1 ⟨by decide, rfl⟩ (c_X4_firstOf_e (w := w) (J := J) hI hF h0 v1 (by omega)) (Nat.le_of_ble_eq_true rfl) rfl rfl (Nat.le_of_ble_eq_true rfl) ⟨Nat.le_refl _, Nat.le_refl _⟩ (fun x4 h5 => ?_)
  obtain ⟨h2, h3⟩ := h5
  refine q_istore_n C [.ref (w.2.1 + a), zi v1, zi ((M (a + 2) (v1 + 1)) - 1), zi x4, .null, .null] dX4_wordOf_16 (n := 17) rfl rfl rfl ?_
  refine q_iload_n C dX4_wordOf_17 (n := 18) rfl rfl ?_
  refine q_iload_n C dX4_wordOf_18 (n := 19) rfl rfl ?_
  refine q_icmp_ge C 33 dX4_wordOf_19 (n := 22) rfl rfl (by omega) (fun h6 => ?_) (fun h6 => ?_)
  · refine q_iconst C dX4_wordOf_33 (n := 34) rfl ?_
    exact q_iret C dX4_wordOf_34 ⟨rfl, rfl⟩ (by rw [hPo]; exact ⟨0, rfl, rfl, by omega, (fun hlt => by have h1 := h3.resolve_right (by omega); have h1b := h1.1; exact zRole.c0 (by omega) h1 (by omega))⟩)
  · refine q_aload_n C dX4_wordOf_22 (n := 23) rfl rfl ?_
    refine q_getR C dX4_wordOf_23 (n := 26) rfl f_X4_9 h0.1 (hF _ _ _ h0.2.1) ?_
    refine q_iload_n C dX4_wordOf_26 (n := 27) rfl rfl ?_
    have g7 := zI.at hI (h0.2.2.2.1 x4)
    refine q_bald C dX4_wordOf_27 (n := 28) rfl h0.2.2.1 (by omega) (v := M (a + 1) x4) rfl ?_
    refine q_bipush C dX4_wordOf_28 (n := 30) rfl (x := 35) (by decide) ?_
    refine q_icmp_eq C 35 dX4_wordOf_30 (n := 33) rfl rfl (by omega) (fun h8 => ?_) (fun h8 => ?_)
    · refine q_aload_n C dX4_wordOf_35 (n := 36) rfl rfl ?_
      refine q_iload_n C dX4_wordOf_36 (n := 37) rfl rfl ?_
      refine q_iconst C dX4_wordOf_37 (n := 38) rfl ?_
      refine q_iadd C dX4_wordOf_38 (n := 39) rfl (v := x4 + 1) rfl ?_
      refine q_iload_n C dX4_wordOf_39 (n := 40) rfl rfl ?_
      refine q_callVp C dX4_wordOf_40 (n := 43) rfl m_X4_49 v_yX4_skipBlanks h0.1 ⟨by decide, rfl⟩ (c_X4_skipBlanks_e (w := w) (J := J) hI hF h0 (x4 + 1) ((M (a + 2) (v1 + 1)) - 1) (by omega) (by omega)) (Nat.le_of_ble_eq_true rfl) rfl rfl (Nat.le_of_ble_eq_true rfl) ⟨Nat.le_refl _, Nat.le_refl _⟩ (fun x11 h12 => ?_)
      obtain ⟨h9, h10⟩ := h12
      refine q_istore C [.ref (w.2.1 + a), zi v1, zi ((M (a + 2) (v1 + 1)) - 1), zi x4, zi x11, .null] dX4_wordOf_43 (n := 45) rfl rfl rfl ?_
      refine q_aload_n C dX4_wordOf_45 (n := 46) rfl rfl ?_
      refine q_iload C dX4_wordOf_46 (n := 48) rfl rfl ?_
      refine q_iload_n C dX4_wordOf_48 (n := 49) rfl rfl ?_
      refine q_callVp C dX4_wordOf_49 (n := 52) rfl m_X4_70 v_yX4_skipWord h0.1 ⟨by decide, rfl⟩ (c_X4_skipWord_e (w := w) (J := J) hI hF h0 x11 ((M (a + 2) (v1 + 1)) - 1) (by omega) (by omega)) (Nat.le_of_ble_eq_true rfl) rfl rfl (Nat.le_of_ble_eq_true rfl) ⟨Nat.le_refl _, Nat.le_refl _⟩ (fun x15 h16 => ?_)
      obtain ⟨h13, h14⟩ := h16
      refine q_istore C [.ref (w.2.1 + a), zi v1, zi ((M (a + 2) (v1 + 1)) - 1), zi x4, zi x11, zi x15] dX4_wordOf_52 (n := 54) rfl rfl rfl ?_
      refine q_aload_n C dX4_wordOf_54 (n := 55) rfl rfl ?_
      refine q_getR C dX4_wordOf_55 (n := 58) rfl f_X4_9 h0.1 (hF _ _ _ h0.2.1) ?_
      refine q_iload C dX4_wordOf_58 (n := 60) rfl rfl ?_
      refine q_iload C dX4_wordOf_60 (n := 62) rfl rfl ?_
      refine q_ldcS C dX4_wordOf_62 (n := 64) rfl (k := 1) (by decide) ?_
      refine q_callSp C dX4_wordOf_64 (n := 67) rfl m_X4_75 s_yX10_says (c_X10_says_e (w := w) (J := J) hI hF h0.2.2.1 h0.2.2.2.1 x11 x15 1 (by decide) (by omega) (by omega) (by omega)) (Nat.le_of_ble_eq_true rfl) rfl rfl (Nat.le_of_ble_eq_true rfl) ⟨Nat.le_refl _, Nat.le_refl _⟩ (fun x19 h20 => ?_)
      obtain ⟨h17, h18⟩ := h20
      refine q_if_ne C 102 dX4_wordOf_67 (n := 70) rfl rfl (by omega) (fun h21 => ?_) (fun h21 => ?_)
      · refine q_iconst C dX4_wordOf_102 (n := 103) rfl ?_
        exact q_iret C dX4_wordOf_103 ⟨rfl, rfl⟩ (by rw [hPo]; exact ⟨1, rfl, rfl, by omega, (fun hlt => by have h1 := h3.resolve_right (by omega); have h1b := h1.1; have h3 := h10.resolve_right (by omega); have h3b := h3.1; have h4 := h14.resolve_right (by omega); exact zRole.c1 (by omega) h1 (by omega) h3 h4 (Or.inl ⟨Or.inl (h18.mp (by omega)), rfl⟩))⟩)
      · refine q_aload_n C dX4_wordOf_70 (n := 71) rfl rfl ?_
        refine q_getR C dX4_wordOf_71 (n := 74) rfl f_X4_9 h0.1 (hF _ _ _ h0.2.1) ?_
        refine q_iload C dX4_wordOf_74 (n := 76) rfl rfl ?_
        refine q_iload C dX4_wordOf_76 (n := 78) rfl rfl ?_
        refine q_ldcS C dX4_wordOf_78 (n := 80) rfl (k := 2) (by decide) ?_
        refine q_callSp C dX4_wordOf_80 (n := 83) rfl m_X4_75 s_yX10_says (c_X10_says_e (w := w) (J := J) hI hF h0.2.2.1 h0.2.2.2.1 x11 x15 2 (by decide) (by omega) (by omega) (by omega)) (Nat.le_of_ble_eq_true rfl) rfl rfl (Nat.le_of_ble_eq_true rfl) ⟨Nat.le_refl _, Nat.le_refl _⟩ (fun x24 h25 => ?_)
        obtain ⟨h22, h23⟩ := h25
        refine q_if_ne C 102 dX4_wordOf_83 (n := 86) rfl rfl (by omega) (fun h26 => ?_) (fun h26 => ?_)
        · refine q_iconst C dX4_wordOf_102 (n := 103) rfl ?_
          exact q_iret C dX4_wordOf_103 ⟨rfl, rfl⟩ (by rw [hPo]; exact ⟨1, rfl, rfl, by omega, (fun hlt => by have h1 := h3.resolve_right (by omega); have h1b := h1.1; have h3 := h10.resolve_right (by omega); have h3b := h3.1; have h4 := h14.resolve_right (by omega); exact zRole.c1 (by omega) h1 (by omega) h3 h4 (Or.inl ⟨Or.inr (Or.inl (h23.mp (by omega))), rfl⟩))⟩)
        · refine q_aload_n C dX4_wordOf_86 (n := 87) rfl rfl ?_
          refine q_getR C dX4_wordOf_87 (n := 90) rfl f_X4_9 h0.1 (hF _ _ _ h0.2.1) ?_
          refine q_iload C dX4_wordOf_90 (n := 92) rfl rfl ?_
          refine q_iload C dX4_wordOf_92 (n := 94) rfl rfl ?_
          refine q_ldcS C dX4_wordOf_94 (n := 96) rfl (k := 3) (by decide) ?_
          refine q_callSp C dX4_wordOf_96 (n := 99) rfl m_X4_75 s_yX10_says (c_X10_says_e (w := w) (J := J) hI hF h0.2.2.1 h0.2.2.2.1 x11 x15 3 (by decide) (by omega) (by omega) (by omega)) (Nat.le_of_ble_eq_true rfl) rfl rfl (Nat.le_of_ble_eq_true rfl) ⟨Nat.le_refl _, Nat.le_refl _⟩ (fun x29 h30 => ?_)
          obtain ⟨h27, h28⟩ := h30
          refine q_if_eq C 104 dX4_wordOf_99 (n := 102) rfl rfl (by omega) (fun h31 => ?_) (fun h31 => ?_)
          · refine q_aload_n C dX4_wordOf_104 (n := 105) rfl rfl ?_
            refine q_getR C dX4_wordOf_105 (n := 108) rfl f_X4_9 h0.1 (hF _ _ _ h0.2.1) ?_
            refine q_iload C dX4_wordOf_108 (n := 110) rfl rfl ?_
            refine q_iload C dX4_wordOf_110 (n := 112) rfl rfl ?_
            refine q_ldcS C dX4_wordOf_112 (n := 114) rfl (k := 4) (by decide) ?_
            refine q_callSp C dX4_wordOf_114 (n := 117) rfl m_X4_75 s_yX10_says (c_X10_says_e (w := w) (J := J) hI hF h0.2.2.1 h0.2.2.2.1 x11 x15 4 (by decide) (by omega) (by omega) (by omega)) (Nat.le_of_ble_eq_true rfl) rfl rfl (Nat.le_of_ble_eq_true rfl) ⟨Nat.le_refl _, Nat.le_refl _⟩ (fun x34 h35 => ?_)
            obtain ⟨h32, h33⟩ := h35
            refine q_if_eq C 122 dX4_wordOf_117 (n := 120) rfl rfl (by omega) (fun h36 => ?_) (fun h36 => ?_)
            · refine q_aload_n C dX4_wordOf_122 (n := 123) rfl rfl ?_
              refine q_getR C dX4_wordOf_123 (n := 126) rfl f_X4_9 h0.1 (hF _ _ _ h0.2.1) ?_
              refine q_iload C dX4_wordOf_126 (n := 128) rfl rfl ?_
              refine q_iload C dX4_wordOf_128 (n := 130) rfl rfl ?_
              refine q_ldcS C dX4_wordOf_130 (n := 132) rfl (k := 5) (by decide) ?_
              refine q_callSp C dX4_wordOf_132 (n := 135) rfl m_X4_75 s_yX10_says (c_X10_says_e (w := w) (J := J) hI hF h0.2.2.1 h0.2.2.2.1 x11 x15 5 (by decide) (by omega) (by omega) (by omega)) (Nat.le_of_ble_eq_true rfl) rfl rfl (Nat.le_of_ble_eq_true rfl) ⟨Nat.le_refl _, Nat.le_refl _⟩ (fun x39 h40 => ?_)
              obtain ⟨h37, h38⟩ := h40
              refine q_if_eq C 140 dX4_wordOf_135 (n := 138) rfl rfl (by omega) (fun h41 => ?_) (fun h41 => ?_)
              · refine q_aload_n C dX4_wordOf_140 (n := 141) rfl rfl ?_
                refine q_getR C dX4_wordOf_141 (n := 144) rfl f_X4_9 h0.1 (hF _ _ _ h0.2.1) ?_
                refine q_iload C dX4_wordOf_144 (n := 146) rfl rfl ?_
                refine q_iload C dX4_wordOf_146 (n := 148) rfl rfl ?_
                refine q_ldcS C dX4_wordOf_148 (n := 150) rfl (k := 6) (by decide) ?_
                refine q_callSp C dX4_wordOf_150 (n := 153) rfl m_X4_75 s_yX10_says (c_X10_says_e (w := w) (J := J) hI hF h0.2.2.1 h0.2.2.2.1 x11 x15 6 (by decide) (by omega) (by omega) (by omega)) (Nat.le_of_ble_eq_true rfl) rfl rfl (Nat.le_of_ble_eq_true rfl) ⟨Nat.le_refl _, Nat.le_refl _⟩ (fun x44 h45 => ?_)
                obtain ⟨h42, h43⟩ := h45
                refine q_if_eq C 160 dX4_wordOf_153 (n := 156) rfl rfl (by omega) (fun h46 => ?_) (fun h46 => ?_)
                · refine q_iconst C dX4_wordOf_160 (n := 161) rfl ?_
                  exact q_iret C dX4_wordOf_161 ⟨rfl, rfl⟩ (by rw [hPo]; exact ⟨0, rfl, rfl, by omega, (fun hlt => by have h1 := h3.resolve_right (by omega); have h1b := h1.1; have h3 := h10.resolve_right (by omega); have h3b := h3.1; have h4 := h14.resolve_right (by omega); exact zRole.c1 (by omega) h1 (by omega) h3 h4 (Or.inr ⟨(fun q => q.elim (fun q => by have := h18.mpr q; omega) (fun q => q.elim (fun q => by have := h23.mpr q; omega) (fun q => by have := h28.mpr q; omega))), Or.inr ⟨(fun q => by have := h33.mpr q; omega), Or.inr ⟨(fun q => by have := h38.mpr q; omega), Or.inr ⟨(fun q => by have := h43.mpr q; omega), rfl⟩⟩⟩⟩))⟩)
                · refine q_iconst C dX4_wordOf_156 (n := 157) rfl ?_
                  refine q_goto C 161 dX4_wordOf_157 rfl ?_
                  exact q_iret C dX4_wordOf_161 ⟨rfl, rfl⟩ (by rw [hPo]; exact ⟨4, rfl, rfl, by omega, (fun hlt => by have h1 := h3.resolve_right (by omega); have h1b := h1.1; have h3 := h10.resolve_right (by omega); have h3b := h3.1; have h4 := h14.resolve_right (by omega); exact zRole.c1 (by omega) h1 (by omega) h3 h4 (Or.inr ⟨(fun q => q.elim (fun q => by have := h18.mpr q; omega) (fun q => q.elim (fun q => by have := h23.mpr q; omega) (fun q => by have := h28.mpr q; omega))), Or.inr ⟨(fun q => by have := h33.mpr q; omega), Or.inr ⟨(fun q => by have := h38.mpr q; omega), Or.inl ⟨(h43.mp (by omega)), rfl⟩⟩⟩⟩))⟩)
              · refine q_iconst C dX4_wordOf_138 (n := 139) rfl ?_
                exact q_iret C dX4_wordOf_139 ⟨rfl, rfl⟩ (by rw [hPo]; exact ⟨3, rfl, rfl, by omega, (fun hlt => by have h1 := h3.resolve_right (by omega); have h1b := h1.1; have h3 := h10.resolve_right (by omega); have h3b := h3.1; have h4 := h14.resolve_right (by omega); exact zRole.c1 (by omega) h1 (by omega) h3 h4 (Or.inr ⟨(fun q => q.elim (fun q => by have := h18.mpr q; omega) (fun q => q.elim (fun q => by have := h23.mpr q; omega) (fun q => by have := h28.mpr q; omega))), Or.inr ⟨(fun q => by have := h33.mpr q; omega), Or.inl ⟨(h38.mp (by omega)), rfl⟩⟩⟩))⟩)
            · refine q_iconst C dX4_wordOf_120 (n := 121) rfl ?_
              exact q_iret C dX4_wordOf_121 ⟨rfl, rfl⟩ (by rw [hPo]; exact ⟨2, rfl, rfl, by omega, (fun hlt => by have h1 := h3.resolve_right (by omega); have h1b := h1.1; have h3 := h10.resolve_right (by omega); have h3b := h3.1; have h4 := h14.resolve_right (by omega); exact zRole.c1 (by omega) h1 (by omega) h3 h4 (Or.inr ⟨(fun q => q.elim (fun q => by have := h18.mpr q; omega) (fun q => q.elim (fun q => by have := h23.mpr q; omega) (fun q => by have := h28.mpr q; omega))), Or.inl ⟨(h33.mp (by omega)), rfl⟩⟩))⟩)
          · refine q_iconst C dX4_wordOf_102 (n := 103) rfl ?_
            exact q_iret C dX4_wordOf_103 ⟨rfl, rfl⟩ (by rw [hPo]; exact ⟨1, rfl, rfl, by omega, (fun hlt => by have h1 := h3.resolve_right (by omega); have h1b := h1.1; have h3 := h10.resolve_right (by omega); have h3b := h3.1; have h4 := h14.resolve_right (by omega); exact zRole.c1 (by omega) h1 (by omega) h3 h4 (Or.inl ⟨Or.inr (Or.inr (h28.mp (by omega))), rfl⟩))⟩)
    · refine q_iconst C dX4_wordOf_33 (n := 34) rfl ?_
      exact q_iret C dX4_wordOf_34 ⟨rfl, rfl⟩ (by rw [hPo]; exact ⟨0, rfl, rfl, by omega, (fun hlt => by have h1 := h3.resolve_right (by omega); have h1b := h1.1; exact zRole.c0 (by omega) h1 (by omega))⟩)
theorem c_X4_guardedBy_w {w : zWp} {T : zTl} {M : zMm} {J : zJm} {R : zRm'} {G : zGt} {F : zRm'} {a : Nat} (hI : zI G M) (hF : zF F R) (h0 : zPage T F G a) (v1 : Int) (p1 : 0 ≤ v1 ∧ v1 ≤ 39) : zCt w 10 0 0 yX4_guardedBy cX4_guardedBy 7 (some .int) [.ref (w.2.1 + a), zi v1] (T, M, J, R) (zPi T R G (fun x M2 => (zKr a 4 M M2) ∧ (x = 0 ∨ 0 < x ∧ x ≤ 30 ∧ M2 a 5 + x ≤ 401) ∧ (M2 a 3 = M a 3) ∧ (∀ i, M2 (a + 2) i = M (a + 2) i) ∧ (M2 a 4 = M a 4) ∧ (∀ i, M2 (a + 1) i = M (a + 1) i) ∧ (∀ i, M2 (a + 3) i = M (a + 3) i))) := by
  refine zCt.of rfl (Nat.le_of_ble_eq_true rfl) ?_
  intro p e s m args below meth c C
  obtain ⟨Po, hPo⟩ : ∃ Po, Po = zPi T R G (fun x M2 => (zKr a 4 M M2) ∧ (x = 0 ∨ 0 < x ∧ x ≤ 30 ∧ M2 a 5 + x ≤ 401) ∧ (M2 a 3 = M a 3) ∧ (∀ i, M2 (a + 2) i = M (a + 2) i) ∧ (M2 a 4 = M a 4) ∧ (∀ i, M2 (a + 1) i = M (a + 1) i) ∧ (∀ i, M2 (a + 3) i = M (a + 3) i)) := ⟨_, rfl⟩
  rw [← hPo]
  have hK0 : zKr a 4 M M := zKr.rf
  show zK w p e 10 0 0 s m args below meth c 7 T Po 0 [.ref (w.2.1 + a), zi v1, .null, .null, .null, .null, .null] [] (T, M, J, R)
  refine q_aload_n C dX4_guardedBy_0 (n := 1) rfl rfl ?_
  refine q_getR C dX4_guardedBy_1 (n := 4) rfl f_X4_15 h0.1 (hF _ _ _ h0.2.2.2.2.1) ?_
  refine q_iload_n C dX4_guardedBy_4 (n := 5) rfl rfl ?_
  refine q_iconst C dX4_guardedBy_5 (n := 6) rfl ?_
  refine q_iadd C dX4_guardedBy_6 (n := 7) rfl (v := v1 + 1) rfl ?_
  have g1 := zI.at hI (h0.2.2.2.2.2.2.1 (v1 + 1))
  refine q_iald C dX4_guardedBy_7 (n := 8) rfl h0.2.2.2.2.2.1 (by omega) (v := M (a + 2) (v1 + 1)) rfl ?_
  refine q_iconst C dX4_guardedBy_8 (n := 9) rfl ?_
  refine q_isub C dX4_guardedBy_9 (n := 10) rfl (v := (M (a + 2) (v1 + 1)) - 1) rfl ?_
  refine q_istore_n C [.ref (w.2.1 + a), zi v1, zi ((M (a + 2) (v1 + 1)) - 1), .null, .null, .null, .null] dX4_guardedBy_10 (n := 11) rfl rfl rfl ?_
  refine q_aload_n C dX4_guardedBy_11 (n := 12) rfl rfl ?_
  refine q_aload_n C dX4_guardedBy_12 (n := 13) rfl rfl ?_
  refine q_iload_n C dX4_guardedBy_13 (n := 14) rfl rfl ?_
  refine q_callVp C dX4_guardedBy_14 (n := 17) rfl m_X4_67 v_yX4_firstOf h0.1 ⟨by decide, rfl⟩ (c_X4_firstOf (w := w) (J := J) hI hF h0 v1 (by omega)) (Nat.le_of_ble_eq_true rfl) rfl rfl (Nat.le_of_ble_eq_true rfl) ⟨Nat.le_refl _, Nat.le_refl _⟩ (fun x3 h4 => ?_)
  refine q_iconst C dX4_guardedBy_17 (n := 18) rfl ?_
  refine q_iadd C dX4_guardedBy_18 (n := 19) rfl (v := x3 + 1) rfl ?_
  refine q_iload_n C dX4_guardedBy_19 (n := 20) rfl rfl ?_
  refine q_callVp C dX4_guardedBy_20 (n := 23) rfl m_X4_49 v_yX4_skipBlanks h0.1 ⟨by decide, rfl⟩ (c_X4_skipBlanks (w := w) (J := J) hI hF h0 (x3 + 1) ((M (a + 2) (v1 + 1)) - 1) (by omega) (by omega)) (Nat.le_of_ble_eq_true rfl) rfl rfl (Nat.le_of_ble_eq_true rfl) ⟨Nat.le_refl _, Nat.le_refl _⟩ (fun x6 h7 => ?_)
  refine q_istore_n C [.ref (w.2.1 + a), zi v1, zi ((M (a + 2) (v1 + 1)) - 1), zi x6, .null, .null, .null] dX4_guardedBy_23 (n := 24) rfl rfl rfl ?_
  refine q_aload_n C dX4_guardedBy_24 (n := 25) rfl rfl ?_
  refine q_iload_n C dX4_guardedBy_25 (n := 26) rfl rfl ?_
  refine q_iload_n C dX4_guardedBy_26 (n := 27) rfl rfl ?_
  refine q_callVp C dX4_guardedBy_27 (n := 30) rfl m_X4_70 v_yX4_skipWord h0.1 ⟨by decide, rfl⟩ (c_X4_skipWord (w := w) (J := J) hI hF h0 x6 ((M (a + 2) (v1 + 1)) - 1) (by omega) (by omega)) (Nat.le_of_ble_eq_true rfl) rfl rfl (Nat.le_of_ble_eq_true rfl) ⟨Nat.le_refl _, Nat.le_refl _⟩ (fun x9 h10 => ?_)
  refine q_istore C [.ref (w.2.1 + a), zi v1, zi ((M (a + 2) (v1 + 1)) - 1), zi x6, zi x9, .null, .null] dX4_guardedBy_30 (n := 32) rfl rfl rfl ?_
  refine q_aload_n C dX4_guardedBy_32 (n := 33) rfl rfl ?_
  refine q_getR C dX4_guardedBy_33 (n := 36) rfl f_X4_9 h0.1 (hF _ _ _ h0.2.1) ?_
  refine q_iload_n C dX4_guardedBy_36 (n := 37) rfl rfl ?_
  refine q_iload C dX4_guardedBy_37 (n := 39) rfl rfl ?_
  refine q_ldcS C dX4_guardedBy_39 (n := 41) rfl (k := 3) (by decide) ?_
  refine q_callSp C dX4_guardedBy_41 (n := 44) rfl m_X4_75 s_yX10_says (c_X10_says (w := w) (J := J) hI hF h0.2.2.1 h0.2.2.2.1 x6 x9 3 (by decide) (by omega) (by omega) (by omega)) (Nat.le_of_ble_eq_true rfl) rfl rfl (Nat.le_of_ble_eq_true rfl) ⟨Nat.le_refl _, Nat.le_refl _⟩ (fun x12 h13 => ?_)
  refine q_if_ne C 49 dX4_guardedBy_44 (n := 47) rfl rfl (by omega) (fun h14 => ?_) (fun h14 => ?_)
  · refine q_aload_n C dX4_guardedBy_49 (n := 50) rfl rfl ?_
    refine q_aload_n C dX4_guardedBy_50 (n := 51) rfl rfl ?_
    refine q_iload C dX4_guardedBy_51 (n := 53) rfl rfl ?_
    refine q_iload_n C dX4_guardedBy_53 (n := 54) rfl rfl ?_
    refine q_callVp C dX4_guardedBy_54 (n := 57) rfl m_X4_49 v_yX4_skipBlanks h0.1 ⟨by decide, rfl⟩ (c_X4_skipBlanks (w := w) (J := J) hI hF h0 x9 ((M (a + 2) (v1 + 1)) - 1) (by omega) (by omega)) (Nat.le_of_ble_eq_true rfl) rfl rfl (Nat.le_of_ble_eq_true rfl) ⟨Nat.le_refl _, Nat.le_refl _⟩ (fun x16 h17 => ?_)
    refine q_putI C dX4_guardedBy_57 (n := 60) rfl f_X4_30 h0.1 ⟨rfl, rfl⟩ (fun M18 (e19 : M18 = zup M a 5 x16) => ?_)
    have hI20 : zI G M18 := hI.put e19 h0.2.2.2.2.2.2.2.2.2.2.2.2.1 rfl (by omega)
    have hK21 := hK0.put e19 (by omega)
    refine q_aload_n C dX4_guardedBy_60 (n := 61) rfl rfl ?_
    refine q_aload_n C dX4_guardedBy_61 (n := 62) rfl rfl ?_
    refine q_getI C dX4_guardedBy_62 (n := 65) rfl f_X4_30 h0.1 (v := x16) (zup_s e19) ?_
    refine q_iload_n C dX4_guardedBy_65 (n := 66) rfl rfl ?_
    refine q_callVp C dX4_guardedBy_66 (n := 69) rfl m_X4_70 v_yX4_skipWord h0.1 ⟨by decide, rfl⟩ (c_X4_skipWord (w := w) (J := J) hI20 hF h0 x16 ((M (a + 2) (v1 + 1)) - 1) (by omega) (by omega)) (Nat.le_of_ble_eq_true rfl) rfl rfl (Nat.le_of_ble_eq_true rfl) ⟨Nat.le_refl _, Nat.le_refl _⟩ (fun x23 h24 => ?_)
    refine q_aload_n C dX4_guardedBy_69 (n := 70) rfl rfl ?_
    refine q_getI C dX4_guardedBy_70 (n := 73) rfl f_X4_30 h0.1 (v := x16) (zup_s e19) ?_
    refine q_isub C dX4_guardedBy_73 (n := 74) rfl (v := x23 - x16) rfl ?_
    refine q_istore C [.ref (w.2.1 + a), zi v1, zi ((M (a + 2) (v1 + 1)) - 1), zi x6, zi x9, zi (x23 - x16), .null] dX4_guardedBy_74 (n := 76) rfl rfl rfl ?_
    refine q_iload C dX4_guardedBy_76 (n := 78) rfl rfl ?_
    have J_29 : ∀ (u25 : Int), (-2147483648 ≤ u25 ∧ u25 ≤ 2147483647) → (u25 = 0 ∨ u25 = 1) → (u25 = 0 ∨ 0 < (x23 - x16) ∧ (x23 - x16) ≤ 30) → zK w p e 10 0 0 s m args below meth c 7 T Po 108 [.ref (w.2.1 + a), .null, zi ((M (a + 2) (v1 + 1)) - 1), .null, .null, zi (x23 - x16), .null] [zi u25] (T, M18, J, R) := by
      intro u25 h26 h27 h28
      refine q_istore C [.ref (w.2.1 + a), .null, zi ((M (a + 2) (v1 + 1)) - 1), .null, .null, zi (x23 - x16), zi u25] dX4_guardedBy_108 (n := 110) rfl rfl rfl ?_
      refine q_iload C dX4_guardedBy_110 (n := 112) rfl rfl ?_
      have J_33 : ∀ (u30 : Int), (-2147483648 ≤ u30 ∧ u30 ≤ 2147483647) → (u30 = 0 ∨ u30 = (x23 - x16) ∧ 0 < (x23 - x16) ∧ (x23 - x16) ≤ 30) → zK w p e 10 0 0 s m args below meth c 7 T Po 137 [.null, .null, .null, .null, .null, .null, .null] [zi u30] (T, M18, J, R) := by
        intro u30 h31 h32
        exact q_iret C dX4_guardedBy_137 ⟨rfl, rfl⟩ (by rw [hPo]; exact ⟨u30, M18, J, rfl, rfl, hI20, hK21, (by have hz : M18 a 5 = x16 := (zup_s e19); omega), (by have hz : M18 a 3 = M a 3 := (zup_n e19 (by omega)); omega), (fun i => (zup_p e19 (by omega) _)), (by have hz34 : M18 a 4 = M a 4 := (zup_n e19 (by omega)); omega), (fun i => (zup_p e19 (by omega) _)), (fun i => (zup_p e19 (by omega) _))⟩)
      refine q_if_eq C 136 dX4_guardedBy_112 (n := 115) rfl rfl (by omega) (fun h35 => ?_) (fun h35 => ?_)
      · refine q_iconst C dX4_guardedBy_136 (n := 137) rfl ?_
        exact zK.weak (J_33 0 (by omega) (by omega)) (zwk_n (zwk_n (zwk_n (zwk_n (zwk_n (zwk_n (zwk_n zwk_e)))))))
      · refine q_aload_n C dX4_guardedBy_115 (n := 116) rfl rfl ?_
        refine q_aload_n C dX4_guardedBy_116 (n := 117) rfl rfl ?_
        refine q_getI C dX4_guardedBy_117 (n := 120) rfl f_X4_30 h0.1 (v := x16) (zup_s e19) ?_
        refine q_iload C dX4_guardedBy_120 (n := 122) rfl rfl ?_
        refine q_iadd C dX4_guardedBy_122 (n := 123) rfl (v := x16 + (x23 - x16)) rfl ?_
        refine q_iload_n C dX4_guardedBy_123 (n := 124) rfl rfl ?_
        refine q_callVp C dX4_guardedBy_124 (n := 127) rfl m_X4_49 v_yX4_skipBlanks h0.1 ⟨by decide, rfl⟩ (c_X4_skipBlanks (w := w) (J := J) hI20 hF h0 (x16 + (x23 - x16)) ((M (a + 2) (v1 + 1)) - 1) (by omega) (by omega)) (Nat.le_of_ble_eq_true rfl) rfl rfl (Nat.le_of_ble_eq_true rfl) ⟨Nat.le_refl _, Nat.le_refl _⟩ (fun x37 h38 => ?_)
        refine q_iload_n C dX4_guardedBy_127 (n := 128) rfl rfl ?_
        refine q_icmp_ne C 136 dX4_guardedBy_128 (n := 131) rfl rfl (by omega) (fun h39 => ?_) (fun h39 => ?_)
        · refine q_iconst C dX4_guardedBy_136 (n := 137) rfl ?_
          exact zK.weak (J_33 0 (by omega) (by omega)) (zwk_n (zwk_n (zwk_n (zwk_n (zwk_n (zwk_n (zwk_n zwk_e)))))))
        · refine q_iload C dX4_guardedBy_131 (n := 133) rfl rfl ?_
          refine q_goto C 137 dX4_guardedBy_133 rfl ?_
          exact zK.weak (J_33 (x23 - x16) (by omega) (by omega)) (zwk_n (zwk_n (zwk_n (zwk_n (zwk_n (zwk_n (zwk_n zwk_e)))))))
    have J_40 : zK w p e 10 0 0 s m args below meth c 7 T Po 107 [.ref (w.2.1 + a), .null, zi ((M (a + 2) (v1 + 1)) - 1), .null, .null, zi (x23 - x16), .null] [] (T, M18, J, R) := by
      refine q_iconst C dX4_guardedBy_107 (n := 108) rfl ?_
      exact zK.weak (J_29 0 (by omega) (by omega) (by omega)) (zwk_c (zwk_n (zwk_c (zwk_n (zwk_n (zwk_c (zwk_n zwk_e)))))))
    refine q_if_le C 107 dX4_guardedBy_78 (n := 81) rfl rfl (by omega) (fun h41 => ?_) (fun h41 => ?_)
    · exact zK.weak (J_40) (zwk_c (zwk_n (zwk_c (zwk_n (zwk_n (zwk_c (zwk_n zwk_e)))))))
    · refine q_iload C dX4_guardedBy_81 (n := 83) rfl rfl ?_
      refine q_bipush C dX4_guardedBy_83 (n := 85) rfl (x := 30) (by decide) ?_
      refine q_icmp_gt C 107 dX4_guardedBy_85 (n := 88) rfl rfl (by omega) (fun h42 => ?_) (fun h42 => ?_)
      · exact zK.weak (J_40) (zwk_c (zwk_n (zwk_c (zwk_n (zwk_n (zwk_c (zwk_n zwk_e)))))))
      · refine q_aload_n C dX4_guardedBy_88 (n := 89) rfl rfl ?_
        refine q_getR C dX4_guardedBy_89 (n := 92) rfl f_X4_9 h0.1 (hF _ _ _ h0.2.1) ?_
        refine q_aload_n C dX4_guardedBy_92 (n := 93) rfl rfl ?_
        refine q_getI C dX4_guardedBy_93 (n := 96) rfl f_X4_30 h0.1 (v := x16) (zup_s e19) ?_
        have g43 := zI.at hI (h0.2.2.2.1 x16)
        refine q_bald C dX4_guardedBy_96 (n := 97) rfl h0.2.2.1 (by omega) (v := M (a + 1) x16) (zup_p e19 (by omega) _) ?_
        refine q_callSp C dX4_guardedBy_97 (n := 100) rfl m_X4_95 s_yX10_isDigit (c_X10_isDigit (w := w) (J := J) hI20 hF (M (a + 1) x16) (by omega)) (Nat.le_of_ble_eq_true rfl) rfl rfl (Nat.le_of_ble_eq_true rfl) ⟨Nat.le_refl _, Nat.le_refl _⟩ (fun x45 h46 => ?_)
        refine q_if_ne C 107 dX4_guardedBy_100 (n := 103) rfl rfl (by omega) (fun h47 => ?_) (fun h47 => ?_)
        · exact zK.weak (J_40) (zwk_c (zwk_n (zwk_c (zwk_n (zwk_n (zwk_c (zwk_n zwk_e)))))))
        · refine q_iconst C dX4_guardedBy_103 (n := 104) rfl ?_
          refine q_goto C 108 dX4_guardedBy_104 rfl ?_
          exact zK.weak (J_29 1 (by omega) (by omega) (by omega)) (zwk_c (zwk_n (zwk_c (zwk_n (zwk_n (zwk_c (zwk_n zwk_e)))))))
  · refine q_iconst C dX4_guardedBy_47 (n := 48) rfl ?_
    exact q_iret C dX4_guardedBy_48 ⟨rfl, rfl⟩ (by rw [hPo]; exact ⟨0, M, J, rfl, rfl, hI, hK0, (by have hz : M a 5 = M a 5 := rfl; omega), (by have hz : M a 3 = M a 3 := rfl; omega), (fun i => rfl), (by omega), (fun i => rfl), (fun i => rfl)⟩)
theorem c_X4_guardOf_w {w : zWp} {T : zTl} {M : zMm} {J : zJm} {R : zRm'} {G : zGt} {F : zRm'} {a : Nat} (hI : zI G M) (hF : zF F R) (h0 : zPage T F G a) : zCt w 11 0 0 yX4_guardOf cX4_guardOf 3 (some .int) [.ref (w.2.1 + a)] (T, M, J, R) (zPi T R G (fun x M2 => (zKr a 4 M M2) ∧ (x = 0 ∨ 0 < x ∧ x ≤ 30 ∧ M2 a 5 + x ≤ 401) ∧ (M2 a 3 = M a 3) ∧ (∀ i, M2 (a + 2) i = M (a + 2) i) ∧ (M2 a 4 = M a 4) ∧ (∀ i, M2 (a + 1) i = M (a + 1) i) ∧ (∀ i, M2 (a + 3) i = M (a + 3) i))) := by
  refine zCt.of rfl (Nat.le_of_ble_eq_true rfl) ?_
  intro p e s m args below meth c C
  obtain ⟨Po, hPo⟩ : ∃ Po, Po = zPi T R G (fun x M2 => (zKr a 4 M M2) ∧ (x = 0 ∨ 0 < x ∧ x ≤ 30 ∧ M2 a 5 + x ≤ 401) ∧ (M2 a 3 = M a 3) ∧ (∀ i, M2 (a + 2) i = M (a + 2) i) ∧ (M2 a 4 = M a 4) ∧ (∀ i, M2 (a + 1) i = M (a + 1) i) ∧ (∀ i, M2 (a + 3) i = M (a + 3) i)) := ⟨_, rfl⟩
  rw [← hPo]
  have hK0 : zKr a 4 M M := zKr.rf
  show zK w p e 11 0 0 s m args below meth c 3 T Po 0 [.ref (w.2.1 + a), .null, .null] [] (T, M, J, R)
  refine q_iconst C dX4_guardOf_0 (n := 1) rfl ?_
  refine q_istore_n C [.ref (w.2.1 + a), zi 0, .null] dX4_guardOf_1 (n := 2) rfl rfl rfl ?_
  have L_4 : ∀ n5 : Nat, ∀ (u1 : Int), (-2147483648 ≤ u1 ∧ u1 ≤ 2147483647) → (0 ≤ u1 ∧ u1 ≤ 40) → (40 - u1 + 1 ≤ (n5 : Int)) → zK w p e 11 0 0 s m args below meth c 3 T Po 2 [.ref (w.2.1 + a), zi u1, .null] [] (T, M, J, R) := by
    intro n5
    induction n5 with
    | zero =>
      intro u1 h2 h3 hm7
      exfalso
      omega
    | succ n5 ih6 =>
      intro u1 h2 h3 hm7
      refine q_iload_n C dX4_guardOf_2 (n := 3) rfl rfl ?_
      refine q_aload_n C dX4_guardOf_3 (n := 4) rfl rfl ?_
      have g8 := zI.at hI h0.2.2.2.2.2.2.2.2.2.2.1
      refine q_getI C dX4_guardOf_4 (n := 7) rfl f_X4_22 h0.1 (v := M a 3) rfl ?_
      have J_9 : zK w p e 11 0 0 s m args below meth c 3 T Po 34 [.ref (w.2.1 + a), zi u1, .null] [] (T, M, J, R) := by
        refine q_aload_n C dX4_guardOf_34 (n := 35) rfl rfl ?_
        refine q_getI C dX4_guardOf_35 (n := 38) rfl f_X4_22 h0.1 (v := M a 3) rfl ?_
        refine q_iconst C dX4_guardOf_38 (n := 39) rfl ?_
        refine q_isub C dX4_guardOf_39 (n := 40) rfl (v := (M a 3) - 1) rfl ?_
        refine q_istore_n C [.ref (w.2.1 + a), zi u1, zi ((M a 3) - 1)] dX4_guardOf_40 (n := 41) rfl rfl rfl ?_
        have L_13 : ∀ n14 : Nat, ∀ (u10 : Int), (-2147483648 ≤ u10 ∧ u10 ≤ 2147483647) → (-1 ≤ u10 ∧ u10 ≤ 39) → (u10 + 2 ≤ (n14 : Int)) → zK w p e 11 0 0 s m args below meth c 3 T Po 41 [.ref (w.2.1 + a), zi u1, zi u10] [] (T, M, J, R) := by
          intro n14
          induction n14 with
          | zero =>
            intro u10 h11 h12 hm16
            exfalso
            omega
          | succ n14 ih15 =>
            intro u10 h11 h12 hm16
            refine q_iload_n C dX4_guardOf_41 (n := 42) rfl rfl ?_
            refine q_iload_n C dX4_guardOf_42 (n := 43) rfl rfl ?_
            have J_17 : zK w p e 11 0 0 s m args below meth c 3 T Po 70 [.ref (w.2.1 + a), zi u1, zi u10] [] (T, M, J, R) := by
              refine q_iload_n C dX4_guardOf_70 (n := 71) rfl rfl ?_
              refine q_iload_n C dX4_guardOf_71 (n := 72) rfl rfl ?_
              refine q_icmp_ge C 94 dX4_guardOf_72 (n := 75) rfl rfl (by omega) (fun h18 => ?_) (fun h18 => ?_)
              · refine q_iconst C dX4_guardOf_94 (n := 95) rfl ?_
                exact q_iret C dX4_guardOf_95 ⟨rfl, rfl⟩ (by rw [hPo]; exact ⟨0, M, J, rfl, rfl, hI, hK0, (by have hz : M a 5 = M a 5 := rfl; omega), (by have hz : M a 3 = M a 3 := rfl; omega), (fun i => rfl), (by omega), (fun i => rfl), (fun i => rfl)⟩)
              · refine q_aload_n C dX4_guardOf_75 (n := 76) rfl rfl ?_
                refine q_iload_n C dX4_guardOf_76 (n := 77) rfl rfl ?_
                refine q_callVp C dX4_guardOf_77 (n := 80) rfl m_X4_89 v_yX4_follower h0.1 ⟨by decide, rfl⟩ (c_X4_follower (w := w) (J := J) hI hF h0 u1 (by omega)) (Nat.le_of_ble_eq_true rfl) rfl rfl (Nat.le_of_ble_eq_true rfl) ⟨Nat.le_refl _, Nat.le_refl _⟩ (fun x20 h21 => ?_)
                refine q_iload_n C dX4_guardOf_80 (n := 81) rfl rfl ?_
                refine q_icmp_ne C 94 dX4_guardOf_81 (n := 84) rfl rfl (by omega) (fun h22 => ?_) (fun h22 => ?_)
                · refine q_iconst C dX4_guardOf_94 (n := 95) rfl ?_
                  exact q_iret C dX4_guardOf_95 ⟨rfl, rfl⟩ (by rw [hPo]; exact ⟨0, M, J, rfl, rfl, hI, hK0, (by have hz : M a 5 = M a 5 := rfl; omega), (by have hz : M a 3 = M a 3 := rfl; omega), (fun i => rfl), (by omega), (fun i => rfl), (fun i => rfl)⟩)
                · refine q_aload_n C dX4_guardOf_84 (n := 85) rfl rfl ?_
                  refine q_getR C dX4_guardOf_85 (n := 88) rfl f_X4_19 h0.1 (hF _ _ _ h0.2.2.2.2.2.2.2.1) ?_
                  refine q_iload_n C dX4_guardOf_88 (n := 89) rfl rfl ?_
                  have g23 := zI.at hI (h0.2.2.2.2.2.2.2.2.2.1 u10)
                  refine q_iald C dX4_guardOf_89 (n := 90) rfl h0.2.2.2.2.2.2.2.2.1 (by omega) (v := M (a + 3) u10) rfl ?_
                  refine q_iconst C dX4_guardOf_90 (n := 91) rfl ?_
                  refine q_icmp_eq C 96 dX4_guardOf_91 (n := 94) rfl rfl (by omega) (fun h24 => ?_) (fun h24 => ?_)
                  · refine q_aload_n C dX4_guardOf_96 (n := 97) rfl rfl ?_
                    refine q_iload_n C dX4_guardOf_97 (n := 98) rfl rfl ?_
                    refine q_callVi C dX4_guardOf_98 (n := 101) rfl m_X4_92 v_yX4_guardedBy h0.1 ⟨by decide, rfl⟩ (c_X4_guardedBy_w (w := w) (J := J) hI hF h0 u1 (by omega)) (Nat.le_of_ble_eq_true rfl) rfl rfl (Nat.le_of_ble_eq_true rfl) ⟨Nat.le_refl _, Nat.le_refl _⟩ (fun x35 M31 J32  hI33 h34 => ?_)
                    obtain ⟨hk36, h25, h26, h27, h28, h29, h30⟩ := h34
                    have hK37 := hK0.tr hk36
                    exact q_iret C dX4_guardOf_101 ⟨rfl, rfl⟩ (by rw [hPo]; exact ⟨x35, M31, J32, rfl, rfl, hI33, hK37, (by have hz : M31 a 5 = M31 a 5 := rfl; omega), (by have hz : M31 a 3 = M a 3 := (h26); omega), (fun i => (h27 i)), (by have hz38 : M31 a 4 = M a 4 := (h28); omega), (fun i => (h29 i)), (fun i => (h30 i))⟩)
                  · refine q_iconst C dX4_guardOf_94 (n := 95) rfl ?_
                    exact q_iret C dX4_guardOf_95 ⟨rfl, rfl⟩ (by rw [hPo]; exact ⟨0, M, J, rfl, rfl, hI, hK0, (by have hz : M a 5 = M a 5 := rfl; omega), (by have hz : M a 3 = M a 3 := rfl; omega), (fun i => rfl), (by omega), (fun i => rfl), (fun i => rfl)⟩)
            refine q_icmp_le C 70 dX4_guardOf_43 (n := 46) rfl rfl (by omega) (fun h39 => ?_) (fun h39 => ?_)
            · exact zK.weak (J_17) (zwk_c (zwk_c (zwk_c zwk_e)))
            · refine q_aload_n C dX4_guardOf_46 (n := 47) rfl rfl ?_
              refine q_iload_n C dX4_guardOf_47 (n := 48) rfl rfl ?_
              refine q_callVp C dX4_guardOf_48 (n := 51) rfl m_X4_67 v_yX4_firstOf h0.1 ⟨by decide, rfl⟩ (c_X4_firstOf (w := w) (J := J) hI hF h0 u10 (by omega)) (Nat.le_of_ble_eq_true rfl) rfl rfl (Nat.le_of_ble_eq_true rfl) ⟨Nat.le_refl _, Nat.le_refl _⟩ (fun x41 h42 => ?_)
              refine q_aload_n C dX4_guardOf_51 (n := 52) rfl rfl ?_
              refine q_getR C dX4_guardOf_52 (n := 55) rfl f_X4_15 h0.1 (hF _ _ _ h0.2.2.2.2.1) ?_
              refine q_iload_n C dX4_guardOf_55 (n := 56) rfl rfl ?_
              refine q_iconst C dX4_guardOf_56 (n := 57) rfl ?_
              refine q_iadd C dX4_guardOf_57 (n := 58) rfl (v := u10 + 1) rfl ?_
              have g43 := zI.at hI (h0.2.2.2.2.2.2.1 (u10 + 1))
              refine q_iald C dX4_guardOf_58 (n := 59) rfl h0.2.2.2.2.2.1 (by omega) (v := M (a + 2) (u10 + 1)) rfl ?_
              refine q_iconst C dX4_guardOf_59 (n := 60) rfl ?_
              refine q_isub C dX4_guardOf_60 (n := 61) rfl (v := (M (a + 2) (u10 + 1)) - 1) rfl ?_
              refine q_icmp_ne C 70 dX4_guardOf_61 (n := 64) rfl rfl (by omega) (fun h44 => ?_) (fun h44 => ?_)
              · exact zK.weak (J_17) (zwk_c (zwk_c (zwk_c zwk_e)))
              · refine q_iinc C [.ref (w.2.1 + a), zi u1, zi (u10 + (-1))] dX4_guardOf_64 (n := 67) rfl rfl rfl rfl ?_
                refine q_goto C 41 dX4_guardOf_67 rfl ?_
                exact zK.weak (ih15 (u10 + (-1)) (by omega) (by omega) (by omega)) (zwk_c (zwk_c (zwk_c zwk_e)))
        exact zK.weak (L_13 _ ((M a 3) - 1) (by omega) (by omega) (Int.self_le_toNat _)) (zwk_c (zwk_c (zwk_c zwk_e)))
      refine q_icmp_ge C 34 dX4_guardOf_7 (n := 10) rfl rfl (by omega) (fun h45 => ?_) (fun h45 => ?_)
      · exact zK.weak (J_9) (zwk_c (zwk_c (zwk_n zwk_e)))
      · refine q_aload_n C dX4_guardOf_10 (n := 11) rfl rfl ?_
        refine q_iload_n C dX4_guardOf_11 (n := 12) rfl rfl ?_
        refine q_callVp C dX4_guardOf_12 (n := 15) rfl m_X4_67 v_yX4_firstOf h0.1 ⟨by decide, rfl⟩ (c_X4_firstOf (w := w) (J := J) hI hF h0 u1 (by omega)) (Nat.le_of_ble_eq_true rfl) rfl rfl (Nat.le_of_ble_eq_true rfl) ⟨Nat.le_refl _, Nat.le_refl _⟩ (fun x47 h48 => ?_)
        refine q_aload_n C dX4_guardOf_15 (n := 16) rfl rfl ?_
        refine q_getR C dX4_guardOf_16 (n := 19) rfl f_X4_15 h0.1 (hF _ _ _ h0.2.2.2.2.1) ?_
        refine q_iload_n C dX4_guardOf_19 (n := 20) rfl rfl ?_
        refine q_iconst C dX4_guardOf_20 (n := 21) rfl ?_
        refine q_iadd C dX4_guardOf_21 (n := 22) rfl (v := u1 + 1) rfl ?_
        have g49 := zI.at hI (h0.2.2.2.2.2.2.1 (u1 + 1))
        refine q_iald C dX4_guardOf_22 (n := 23) rfl h0.2.2.2.2.2.1 (by omega) (v := M (a + 2) (u1 + 1)) rfl ?_
        refine q_iconst C dX4_guardOf_23 (n := 24) rfl ?_
        refine q_isub C dX4_guardOf_24 (n := 25) rfl (v := (M (a + 2) (u1 + 1)) - 1) rfl ?_
        refine q_icmp_ne C 34 dX4_guardOf_25 (n := 28) rfl rfl (by omega) (fun h50 => ?_) (fun h50 => ?_)
        · exact zK.weak (J_9) (zwk_c (zwk_c (zwk_n zwk_e)))
        · refine q_iinc C [.ref (w.2.1 + a), zi (u1 + 1), .null] dX4_guardOf_28 (n := 31) rfl rfl rfl rfl ?_
          refine q_goto C 2 dX4_guardOf_31 rfl ?_
          exact zK.weak (ih6 (u1 + 1) (by omega) (by omega) (by omega)) (zwk_c (zwk_c (zwk_n zwk_e)))
  exact zK.weak (L_4 _ 0 (by omega) (by omega) (Int.self_le_toNat _)) (zwk_c (zwk_c (zwk_n zwk_e)))
theorem c_X4_mark_w {w : zWp} {T : zTl} {M : zMm} {J : zJm} {R : zRm'} {G : zGt} {F : zRm'} {a : Nat} (hI : zI G M) (hF : zF F R) (h0 : zPage T F G a) : zCt w 12 0 0 yX4_mark cX4_mark 2 none [.ref (w.2.1 + a)] (T, M, J, R) (zPv T R G (fun M2 => (zKr a 4 M M2) ∧ (M2 a 3 = M a 3) ∧ (∀ i, M2 (a + 2) i = M (a + 2) i) ∧ (M2 a 6 = 0 ∨ M2 a 5 + M2 a 6 ≤ 401) ∧ (M2 a 4 = M a 4) ∧ (∀ i, M2 (a + 1) i = M (a + 1) i) ∧ (zWv M2 a))) := by
  refine zCt.of rfl (Nat.le_of_ble_eq_true rfl) ?_
  intro p e s m args below meth c C
  obtain ⟨Po, hPo⟩ : ∃ Po, Po = zPv T R G (fun M2 => (zKr a 4 M M2) ∧ (M2 a 3 = M a 3) ∧ (∀ i, M2 (a + 2) i = M (a + 2) i) ∧ (M2 a 6 = 0 ∨ M2 a 5 + M2 a 6 ≤ 401) ∧ (M2 a 4 = M a 4) ∧ (∀ i, M2 (a + 1) i = M (a + 1) i) ∧ (zWv M2 a)) := ⟨_, rfl⟩
  rw [← hPo]
  have hK0 : zKr a 4 M M := zKr.rf
  show zK w p e 12 0 0 s m args below meth c 2 T Po 0 [.ref (w.2.1 + a), .null] [] (T, M, J, R)
  refine q_iconst C dX4_mark_0 (n := 1) rfl ?_
  refine q_istore_n C [.ref (w.2.1 + a), zi 0] dX4_mark_1 (n := 2) rfl rfl rfl ?_
  have L_13 : ∀ n14 : Nat, ∀ (u1 : Int) (M2 : zMm) (J3 : zJm), zI G M2 → zKr a 4 M M2 → (-2147483648 ≤ u1 ∧ u1 ≤ 2147483647) → (0 ≤ u1 ∧ u1 ≤ 40) → (M2 a 3 = M a 3) → (∀ i, M2 (a + 2) i = M (a + 2) i) → (M2 a 4 = M a 4) → (∀ i, M2 (a + 1) i = M (a + 1) i) → (∀ l, 0 ≤ l → l < u1 → M (a + 2) l < M (a + 2) (l + 1) → zRole (zLb (M (a + 1)) (M (a + 2) l) (M (a + 2) (l + 1) - 1 - M (a + 2) l)) (M (a + 2) (l + 1) - 1 - M (a + 2) l) (M2 (a + 3) l)) → (40 - u1 + 1 ≤ (n14 : Int)) → zK w p e 12 0 0 s m args below meth c 2 T Po 2 [.ref (w.2.1 + a), zi u1] [] (T, M2, J3, R) := by
    intro n14
    induction n14 with
    | zero =>
      intro u1 M2 J3 hI4 hK5 h6 h7 h8 h9 h10 h11 h12 hm16
      exfalso
      omega
    | succ n14 ih15 =>
      intro u1 M2 J3 hI4 hK5 h6 h7 h8 h9 h10 h11 h12 hm16
      refine q_iload_n C dX4_mark_2 (n := 3) rfl rfl ?_
      refine q_aload_n C dX4_mark_3 (n := 4) rfl rfl ?_
      have g17 := zI.at hI h0.2.2.2.2.2.2.2.2.2.2.1
      refine q_getI C dX4_mark_4 (n := 7) rfl f_X4_22 h0.1 (v := M a 3) (h8) ?_
      refine q_icmp_ge C 27 dX4_mark_7 (n := 10) rfl rfl (by omega) (fun h18 => ?_) (fun h18 => ?_)
      · refine q_aload_n C dX4_mark_27 (n := 28) rfl rfl ?_
        refine q_aload_n C dX4_mark_28 (n := 29) rfl rfl ?_
        refine q_callVi C dX4_mark_29 (n := 32) rfl m_X4_63 v_yX4_guardOf h0.1 ⟨by decide, rfl⟩ (c_X4_guardOf_w (w := w) (J := J3) hI4 hF h0) (Nat.le_of_ble_eq_true rfl) rfl rfl (Nat.le_of_ble_eq_true rfl) ⟨Nat.le_refl _, Nat.le_refl _⟩ (fun x29 M25 J26  hI27 h28 => ?_)
        obtain ⟨hk30, h19, h20, h21, h22, h23, h24⟩ := h28
        have hK31 := hK5.tr hk30
        have hz32 : M2 a 3 = M a 3 := (h8)
        have hz33 : M2 a 4 = M a 4 := (h10)
        refine q_putI C dX4_mark_32 (n := 35) rfl f_X4_33 h0.1 ⟨rfl, rfl⟩ (fun M34 (e35 : M34 = zup M25 a 6 x29) => ?_)
        have hI36 : zI G M34 := hI27.put e35 h0.2.2.2.2.2.2.2.2.2.2.2.2.2 rfl (by omega)
        have hK37 := hK31.put e35 (by omega)
        exact q_vret C dX4_mark_35 ⟨rfl, rfl⟩ (by rw [hPo]; exact ⟨M34, J26, rfl, rfl, hI36, hK37, (by have hz : M34 a 3 = M a 3 := ((zup_n e35 (by omega)).trans ((h20).trans (h8))); omega), (fun i => ((zup_p e35 (by omega) _).trans ((h21 i).trans (h9 i)))), (by have hz38 : M34 a 5 = M25 a 5 := (zup_n e35 (by omega)); have hz39 : M34 a 6 = x29 := (zup_s e35); omega), (by have hz40 : M34 a 4 = M a 4 := ((zup_n e35 (by omega)).trans ((h22).trans (h10))); omega), (fun i => ((zup_p e35 (by omega) _).trans ((h23 i).trans (h11 i)))), (zWv.mk h12 (by omega) ⟨((zup_n e35 (by omega)).trans ((h20).trans (h8))), fun i => ((zup_p e35 (by omega) _).trans ((h23 i).trans (h11 i))), fun i => ((zup_p e35 (by omega) _).trans ((h21 i).trans (h9 i)))⟩ (fun i => ((zup_p e35 (by omega) _).trans (h24 i))))⟩)
      · refine q_aload_n C dX4_mark_10 (n := 11) rfl rfl ?_
        refine q_getR C dX4_mark_11 (n := 14) rfl f_X4_19 h0.1 (hF _ _ _ h0.2.2.2.2.2.2.2.1) ?_
        refine q_iload_n C dX4_mark_14 (n := 15) rfl rfl ?_
        refine q_aload_n C dX4_mark_15 (n := 16) rfl rfl ?_
        refine q_iload_n C dX4_mark_16 (n := 17) rfl rfl ?_
        refine q_callVp C dX4_mark_17 (n := 20) rfl m_X4_59 v_yX4_wordOf h0.1 ⟨by decide, rfl⟩ (c_X4_wordOf_e (w := w) (J := J3) hI4 hF h0 u1 (by omega)) (Nat.le_of_ble_eq_true rfl) rfl rfl (Nat.le_of_ble_eq_true rfl) ⟨Nat.le_refl _, Nat.le_refl _⟩ (fun x43 h44 => ?_)
        obtain ⟨h41, h42⟩ := h44
        have hz45 : M2 (a + 2) u1 = M (a + 2) u1 := (h9 u1)
        have hz46 : M2 (a + 2) (u1 + 1) = M (a + 2) (u1 + 1) := (h9 (u1 + 1))
        have hwo := h42
        rw [show M2 (a + 1) = M (a + 1) from funext (fun i => (h11 i))] at hwo
        rw [show M2 (a + 2) = M (a + 2) from funext (fun i => (h9 i))] at hwo
        refine q_iast C dX4_mark_20 (n := 21) rfl h0.2.2.2.2.2.2.2.2.1 (by omega)  (fun M47 e48 => ?_)
        have hI49 : zI G M47 := hI4.put e48 (h0.2.2.2.2.2.2.2.2.2.1 u1) rfl (by omega)
        have hK50 := hK5.put e48 (by omega)
        refine q_iinc C [.ref (w.2.1 + a), zi (u1 + 1)] dX4_mark_21 (n := 24) rfl rfl rfl rfl ?_
        refine q_goto C 2 dX4_mark_24 rfl ?_
        exact zK.weak (ih15 (u1 + 1) M47 J3 hI49 hK50 (by omega) (by omega) (by have hz51 : M47 a 3 = M a 3 := ((zup_p e48 (by omega) _).trans (h8)); omega) (fun i => ((zup_p e48 (by omega) _).trans (h9 i))) (by have hz52 : M47 a 4 = M a 4 := ((zup_p e48 (by omega) _).trans (h10)); omega) (fun i => ((zup_p e48 (by omega) _).trans (h11 i))) (fun l l0 l1 => (Decidable.em (l = u1)).elim (fun z => by rw [z, zup_s e48]; exact hwo) (fun z => by rw [zup_n e48 (by omega)]; exact h12 l l0 (by omega))) (by omega)) (zwk_c (zwk_c zwk_e))
  exact zK.weak (L_13 _ 0 M J hI hK0 (by omega) (by omega) (by omega) (fun i => rfl) (by omega) (fun i => rfl) (fun l l0 l1 => by omega) (Int.self_le_toNat _)) (zwk_c (zwk_c zwk_e))
theorem c_X4_read_w {w : zWp} {T : zTl} {M : zMm} {J : zJm} {R : zRm'} {G : zGt} {F : zRm'} {a b tb : Nat} (hI : zI G M) (hF : zF F R) (h0 : zPage T F G a) (t_b0 : T[b]? = some (51, 440)) (g_b0 : ∀ k, G b k = (tb, (-128), 127)) (v2 : Int) (p1 : 0 ≤ v2 ∧ v2 ≤ 400) (p2 : tb < 20) (p3 : zMo M a) (p4 : v2 = 0 ∨ zTen (M b) (v2 - 1).toNat + 1 ≤ 40) : zCt w 13 0 0 yX4_read cX4_read 5 none [.ref (w.2.1 + a), .ref (w.2.1 + b), zi v2] (T, M, J, R) (zPv T R G (fun M2 => (zKr a 4 M M2) ∧ (zPr M2 a) ∧ (v2 = 0 ∧ M2 a 3 = 0 ∨ 1 ≤ v2 ∧ M2 a 3 = zTen (M b) (v2 - 1).toNat + 1) ∧ (M2 a 4 = 1) ∧ (zLs M2 a (M b) v2) ∧ (zBe M2 a (M b) v2) ∧ (zWv M2 a))) := by
  refine zCt.of rfl (Nat.le_of_ble_eq_true rfl) ?_
  intro p e s m args below meth c C
  obtain ⟨Po, hPo⟩ : ∃ Po, Po = zPv T R G (fun M2 => (zKr a 4 M M2) ∧ (zPr M2 a) ∧ (v2 = 0 ∧ M2 a 3 = 0 ∨ 1 ≤ v2 ∧ M2 a 3 = zTen (M b) (v2 - 1).toNat + 1) ∧ (M2 a 4 = 1) ∧ (zLs M2 a (M b) v2) ∧ (zBe M2 a (M b) v2) ∧ (zWv M2 a)) := ⟨_, rfl⟩
  rw [← hPo]
  have hK0 : zKr a 4 M M := zKr.rf
  have hbd : b + 1 ≤ a ∨ a + 4 ≤ b := zPgB h0 t_b0
  have gz0 := zTen_0 (g := M b)
  show zK w p e 13 0 0 s m args below meth c 5 T Po 0 [.ref (w.2.1 + a), .ref (w.2.1 + b), zi v2, .null, .null] [] (T, M, J, R)
  refine q_aload_n C dX4_read_0 (n := 1) rfl rfl ?_
  refine q_iconst C dX4_read_1 (n := 2) rfl ?_
  refine q_putZ C dX4_read_2 (n := 5) rfl f_X4_26 h0.1 ⟨rfl, rfl⟩ (by omega) (fun M1 (e2 : M1 = zup M a 4 1) => ?_)
  have hI3 : zI G M1 := hI.put e2 h0.2.2.2.2.2.2.2.2.2.2.2.1 rfl (by omega)
  have hK4 := hK0.put e2 (by omega)
  refine q_aload_n C dX4_read_5 (n := 6) rfl rfl ?_
  refine q_iconst C dX4_read_6 (n := 7) rfl ?_
  refine q_putI C dX4_read_7 (n := 10) rfl f_X4_22 h0.1 ⟨rfl, rfl⟩ (fun M5 (e6 : M5 = zup M1 a 3 0) => ?_)
  have hI7 : zI G M5 := hI3.put e6 h0.2.2.2.2.2.2.2.2.2.2.1 rfl (by omega)
  have hK8 := hK4.put e6 (by omega)
  refine q_iconst C dX4_read_10 (n := 11) rfl ?_
  refine q_istore_n C [.ref (w.2.1 + a), .ref (w.2.1 + b), zi v2, zi 0, .null] dX4_read_11 (n := 12) rfl rfl rfl ?_
  refine q_iconst C dX4_read_12 (n := 13) rfl ?_
  refine q_istore C [.ref (w.2.1 + a), .ref (w.2.1 + b), zi v2, zi 0, zi 0] dX4_read_13 (n := 15) rfl rfl rfl ?_
  have L_27 : ∀ n28 : Nat, ∀ (u9 : Int) (u10 : Int) (M11 : zMm) (J12 : zJm), zI G M11 → zKr a 4 M M11 → (-2147483648 ≤ u9 ∧ u9 ≤ 2147483647) → (-2147483648 ≤ u10 ∧ u10 ≤ 2147483647) → (0 ≤ u10 ∧ u10 ≤ v2) → (u9 = u10) → (zMo M11 a) → (M11 (a + 2) (M11 a 3) ≤ u9) → (∀ i, M11 b i = M b i) → (M11 a 3 = zTen (M b) (u10 : Int).toNat) → (M11 (a + 2) (M11 a 3) = u9 ∧ (u10 = 0 ∨ M b (u10 - 1) = 10) ∨ M11 (a + 2) (M11 a 3) < u9 ∧ 1 ≤ u10 ∧ M b (u10 - 1) ≠ 10) → (M11 a 4 = 1) → (zRl M11 a (M b) u10) → (zBg M11 a (M b) u10) → (440 - u10 + 1 ≤ (n28 : Int)) → zK w p e 13 0 0 s m args below meth c 5 T Po 15 [.ref (w.2.1 + a), .ref (w.2.1 + b), zi v2, zi u9, zi u10] [] (T, M11, J12, R) := by
    intro n28
    induction n28 with
    | zero =>
      intro u9 u10 M11 J12 hI13 hK14 h15 h16 h17 h18 h19 h20 h21 h22 h23 h24 h25 h26 hm30
      exfalso
      omega
    | succ n28 ih29 =>
      intro u9 u10 M11 J12 hI13 hK14 h15 h16 h17 h18 h19 h20 h21 h22 h23 h24 h25 h26 hm30
      have gE := zTen_e (g := M b) (i := u10) (v := v2) (by omega)
      refine q_iload C dX4_read_15 (n := 17) rfl rfl ?_
      refine q_iload_n C dX4_read_17 (n := 18) rfl rfl ?_
      have J_32 : (v2 ≤ u10) → zK w p e 13 0 0 s m args below meth c 5 T Po 68 [.ref (w.2.1 + a), .null, .null, zi u9, .null] [] (T, M11, J12, R) := by
        intro h31
        refine q_iload_n C dX4_read_68 (n := 69) rfl rfl ?_
        refine q_aload_n C dX4_read_69 (n := 70) rfl rfl ?_
        refine q_getR C dX4_read_70 (n := 73) rfl f_X4_15 h0.1 (hF _ _ _ h0.2.2.2.2.1) ?_
        refine q_aload_n C dX4_read_73 (n := 74) rfl rfl ?_
        have g33 := zI.at hI13 h0.2.2.2.2.2.2.2.2.2.2.1
        refine q_getI C dX4_read_74 (n := 77) rfl f_X4_22 h0.1 (v := M11 a 3) rfl ?_
        have g34 := zI.at hI13 (h0.2.2.2.2.2.2.1 (M11 a 3))
        refine q_iald C dX4_read_77 (n := 78) rfl h0.2.2.2.2.2.1 (by omega) (v := M11 (a + 2) (M11 a 3)) rfl ?_
        have J_44 : ∀ (M35 : zMm) (J36 : zJm), zI G M35 → zKr a 4 M M35 → (zMo M35 a) → (v2 = 0 ∧ M35 a 3 = 0 ∨ 1 ≤ v2 ∧ M35 a 3 = zTen (M b) (v2 - 1).toNat + 1) → (M35 a 4 = 1) → (zLs M35 a (M b) v2) → (zBe M35 a (M b) v2) → zK w p e 13 0 0 s m args below meth c 5 T Po 103 [.ref (w.2.1 + a), .null, .null, .null, .null] [] (T, M35, J36, R) := by
          intro M35 J36 hI37 hK38 h39 h40 h41 h42 h43
          refine q_aload_n C dX4_read_103 (n := 104) rfl rfl ?_
          refine q_callVv C dX4_read_104 (n := 107) rfl m_X4_40 v_yX4_mark h0.1 ⟨by decide, rfl⟩ (c_X4_mark_w (w := w) (J := J36) hI37 hF h0) (Nat.le_of_ble_eq_true rfl) rfl rfl (Nat.le_of_ble_eq_true rfl) ⟨Nat.le_refl _, Nat.le_refl _⟩ (fun M51 J52  hI53 h54 => ?_)
          obtain ⟨hk55, h45, h46, h47, h48, h49, h50⟩ := h54
          have hK56 := hK38.tr hk55
          exact q_vret C dX4_read_107 ⟨rfl, rfl⟩ (by rw [hPo]; exact ⟨M51, J52, rfl, rfl, hI53, hK56, ⟨(h39.cg (h45) (fun i => (h46 i))), h47⟩, (by have hz57 : M51 a 3 = M35 a 3 := (h45); omega), (by have hz58 : M51 a 4 = M35 a 4 := (h48); omega), (zLs.cg h42 ⟨(h48), (h45), fun i => (h46 i)⟩ (fun _ => rfl) rfl), (zBe.cg h43 ⟨(h45), fun i => (h49 i), fun i => (h46 i)⟩ (fun _ => rfl) rfl), h50⟩)
        refine q_icmp_le C 103 dX4_read_78 (n := 81) rfl rfl (by omega) (fun h59 => ?_) (fun h59 => ?_)
        · exact zK.weak (J_44 M11 J12 hI13 hK14 h19 (by omega) (by omega) (zRl.ls h25 (by omega)) (zBg.fin h26 (by omega))) (zwk_c (zwk_n (zwk_n (zwk_n (zwk_n zwk_e)))))
        · refine q_iload_n C dX4_read_81 (n := 82) rfl rfl ?_
          refine q_sipush C dX4_read_82 (n := 85) rfl (x := 401) (by decide) ?_
          refine q_icmp_ge C 103 dX4_read_85 (n := 88) rfl rfl (by omega) (fun h60 => ?_) (fun h60 => ?_)
          · exact zK.weak (J_44 M11 J12 hI13 hK14 h19 (by omega) (by omega) (zRl.ls h25 (by omega)) (zBg.fin h26 (by omega))) (zwk_c (zwk_n (zwk_n (zwk_n (zwk_n zwk_e)))))
          · refine q_aload_n C dX4_read_88 (n := 89) rfl rfl ?_
            refine q_getR C dX4_read_89 (n := 92) rfl f_X4_9 h0.1 (hF _ _ _ h0.2.1) ?_
            refine q_iload_n C dX4_read_92 (n := 93) rfl rfl ?_
            refine q_bipush C dX4_read_93 (n := 95) rfl (x := 10) (by decide) ?_
            refine q_bast C dX4_read_95 (n := 96) rfl h0.2.2.1 (by omega) (by omega) (fun M61 e62 => ?_)
            have hI63 : zI G M61 := hI13.put e62 (h0.2.2.2.1 u9) rfl (by omega)
            have hK64 := hK14.put e62 (by omega)
            refine q_aload_n C dX4_read_96 (n := 97) rfl rfl ?_
            refine q_iload_n C dX4_read_97 (n := 98) rfl rfl ?_
            refine q_iconst C dX4_read_98 (n := 99) rfl ?_
            refine q_iadd C dX4_read_99 (n := 100) rfl (v := u9 + 1) rfl ?_
            refine q_callVv C dX4_read_100 (n := 103) rfl m_X4_36 v_yX4_closeLine h0.1 ⟨by decide, rfl⟩ (c_X4_closeLine_v (w := w) (J := J12) hI63 hF h0 (u9 + 1) (by omega) (by have h3 : M61 a 3 = M11 a 3 := (zup_p e62 (by omega) _); have h2 : ∀ i, M61 (a + 2) i = M11 (a + 2) i := (fun i => (zup_p e62 (by omega) _)); rw [h3, h2]; omega) (h19.cg (zup_p e62 (by omega) _) (fun i => (zup_p e62 (by omega) _)))) (Nat.le_of_ble_eq_true rfl) rfl rfl (Nat.le_of_ble_eq_true rfl) ⟨Nat.le_refl _, Nat.le_refl _⟩ (fun M71 J72  hI73 h74 => ?_)
            obtain ⟨hk75, h65, h66, h67, h68, h69, h70⟩ := h74
            have hK76 := hK64.tr hk75
            have hz77 : M61 a 3 = M11 a 3 := (zup_p e62 (by omega) _)
            have hz78 : M61 a 4 = M11 a 4 := (zup_p e62 (by omega) _)
            exact zK.weak (J_44 M71 J72 hI73 hK76 h65 (by omega) (by have hz79 : M71 a 4 = M11 a 4 := ((h68).trans (zup_p e62 (by omega) _)); omega) (zRl.fin2 (zRl.cg h25 (zup_p e62 (by omega) _) (fun i => (zup_p e62 (by omega) _))) h69 (by omega) (by omega) (by omega) (by omega)) (zBg.fin2 (zBg.cg h26 rfl (fun i => rfl) (fun i => rfl)) (by have t := e62; rw [show (u9 : Int) = u10 by omega] at t; exact t) h69 h70 (by omega) (by omega) (by omega) (by omega))) (zwk_c (zwk_n (zwk_n (zwk_n (zwk_n zwk_e)))))
      refine q_icmp_ge C 68 dX4_read_18 (n := 21) rfl rfl (by omega) (fun h80 => ?_) (fun h80 => ?_)
      · exact zK.weak (J_32 (by omega)) (zwk_c (zwk_n (zwk_n (zwk_c (zwk_n zwk_e)))))
      · refine q_iload C dX4_read_21 (n := 23) rfl rfl ?_
        refine q_aload_n C dX4_read_23 (n := 24) rfl rfl ?_
        refine q_alen C dX4_read_24 (n := 25) rfl ⟨by decide, by decide⟩ t_b0 ?_
        show zK w p e 13 0 0 s m args below meth c 5 T Po 25 [.ref (w.2.1 + a), .ref (w.2.1 + b), zi v2, zi u9, zi u10] [zi 440, zi u10] (T, M11, J12, R)
        refine q_icmp_ge C 68 dX4_read_25 (n := 28) rfl rfl (by omega) (fun h81 => ?_) (fun h81 => ?_)
        · exact zK.weak (J_32 (by omega)) (zwk_c (zwk_n (zwk_n (zwk_c (zwk_n zwk_e)))))
        · refine q_iload_n C dX4_read_28 (n := 29) rfl rfl ?_
          refine q_sipush C dX4_read_29 (n := 32) rfl (x := 401) (by decide) ?_
          refine q_icmp_ge C 68 dX4_read_32 (n := 35) rfl rfl (by omega) (fun h82 => ?_) (fun h82 => ?_)
          · exact zK.weak (J_32 (by omega)) (zwk_c (zwk_n (zwk_n (zwk_c (zwk_n zwk_e)))))
          · refine q_aload_n C dX4_read_35 (n := 36) rfl rfl ?_
            refine q_getR C dX4_read_36 (n := 39) rfl f_X4_9 h0.1 (hF _ _ _ h0.2.1) ?_
            refine q_iload_n C dX4_read_39 (n := 40) rfl rfl ?_
            refine q_aload_n C dX4_read_40 (n := 41) rfl rfl ?_
            refine q_iload C dX4_read_41 (n := 43) rfl rfl ?_
            have g83 := zI.at hI (g_b0 u10)
            refine q_bald C dX4_read_43 (n := 44) rfl t_b0 (by omega) (v := M b u10) (h21 u10) ?_
            refine q_bast C dX4_read_44 (n := 45) rfl h0.2.2.1 (by omega) (by omega) (fun M84 e85 => ?_)
            have hI86 : zI G M84 := hI13.put e85 (h0.2.2.2.1 u9) rfl (by omega)
            have hK87 := hK14.put e85 (by omega)
            have gs := zTen_s (g := M b) (i := u10) (by omega)
            have gm := zTen_le (g := M b) (i := u10) (j := v2 - 1) (by omega)
            refine q_iinc C [.ref (w.2.1 + a), .ref (w.2.1 + b), zi v2, zi (u9 + 1), zi u10] dX4_read_45 (n := 48) rfl rfl rfl rfl ?_
            refine q_aload_n C dX4_read_48 (n := 49) rfl rfl ?_
            refine q_iload C dX4_read_49 (n := 51) rfl rfl ?_
            refine q_bald C dX4_read_51 (n := 52) rfl t_b0 (by omega) (v := M b u10) ((zup_p e85 (by omega) _).trans (h21 u10)) ?_
            refine q_bipush C dX4_read_52 (n := 54) rfl (x := 10) (by decide) ?_
            have J_100 : ∀ (M88 : zMm) (J89 : zJm), zI G M88 → zKr a 4 M M88 → (zMo M88 a) → (M88 (a + 2) (M88 a 3) ≤ (u9 + 1)) → (∀ i, M88 b i = M b i) → (M88 a 3 = zTen (M b) (u10 + 1 : Int).toNat) → (M88 (a + 2) (M88 a 3) = (u9 + 1) ∧ M b u10 = 10 ∨ M88 (a + 2) (M88 a 3) < (u9 + 1) ∧ M b u10 ≠ 10) → (M88 a 4 = 1) → (zRl M88 a (M b) (u10 + 1)) → (zBg M88 a (M b) (u10 + 1)) → zK w p e 13 0 0 s m args below meth c 5 T Po 62 [.ref (w.2.1 + a), .ref (w.2.1 + b), zi v2, zi (u9 + 1), zi u10] [] (T, M88, J89, R) := by
              intro M88 J89 hI90 hK91 h92 h93 h94 h95 h96 h97 h98 h99
              refine q_iinc C [.ref (w.2.1 + a), .ref (w.2.1 + b), zi v2, zi (u9 + 1), zi (u10 + 1)] dX4_read_62 (n := 65) rfl rfl rfl rfl ?_
              refine q_goto C 15 dX4_read_65 rfl ?_
              exact zK.weak (ih29 (u9 + 1) (u10 + 1) M88 J89 hI90 hK91 (by omega) (by omega) (by omega) (by omega) h92 (by omega) (fun i => (h94 i)) (by omega) (by rw [show (u10 + 1 : Int) - 1 = u10 by omega]; omega) (by omega) h98 h99 (by omega)) (zwk_c (zwk_c (zwk_c (zwk_c (zwk_c zwk_e)))))
            refine q_icmp_ne C 62 dX4_read_54 (n := 57) rfl rfl (by omega) (fun h101 => ?_) (fun h101 => ?_)
            · exact zK.weak (J_100 M84 J12 hI86 hK87 (h19.cg (zup_p e85 (by omega) _) (fun i => (zup_p e85 (by omega) _))) (by have h3 : M84 a 3 = M11 a 3 := (zup_p e85 (by omega) _); have h2 : ∀ i, M84 (a + 2) i = M11 (a + 2) i := (fun i => (zup_p e85 (by omega) _)); rw [h3, h2]; omega) (fun i => ((zup_p e85 (by omega) _).trans (h21 i))) (by have hz102 : M84 a 3 = M11 a 3 := (zup_p e85 (by omega) _); omega) (by have h3 : M84 a 3 = M11 a 3 := (zup_p e85 (by omega) _); have h2 : ∀ i, M84 (a + 2) i = M11 (a + 2) i := (fun i => (zup_p e85 (by omega) _)); rw [h3, h2]; omega) (by have hz103 : M84 a 4 = M11 a 4 := (zup_p e85 (by omega) _); omega) (zRl.byte (zRl.cg h25 (zup_p e85 (by omega) _) (fun i => (zup_p e85 (by omega) _))) (by omega)) (zBg.byte (zBg.cg h26 rfl (fun i => rfl) (fun i => rfl)) (by have t := e85; rw [show (u9 : Int) = u10 by omega] at t; exact t) (by omega) (by omega) (by omega) (by omega))) (zwk_c (zwk_c (zwk_c (zwk_c (zwk_c zwk_e)))))
            · refine q_aload_n C dX4_read_57 (n := 58) rfl rfl ?_
              refine q_iload_n C dX4_read_58 (n := 59) rfl rfl ?_
              refine q_callVv C dX4_read_59 (n := 62) rfl m_X4_36 v_yX4_closeLine h0.1 ⟨by decide, rfl⟩ (c_X4_closeLine_v (w := w) (J := J12) hI86 hF h0 (u9 + 1) (by omega) (by have h3 : M84 a 3 = M11 a 3 := (zup_p e85 (by omega) _); have h2 : ∀ i, M84 (a + 2) i = M11 (a + 2) i := (fun i => (zup_p e85 (by omega) _)); rw [h3, h2]; omega) (h19.cg (zup_p e85 (by omega) _) (fun i => (zup_p e85 (by omega) _)))) (Nat.le_of_ble_eq_true rfl) rfl rfl (Nat.le_of_ble_eq_true rfl) ⟨Nat.le_refl _, Nat.le_refl _⟩ (fun M110 J111  hI112 h113 => ?_)
              obtain ⟨hk114, h104, h105, h106, h107, h108, h109⟩ := h113
              have hK115 := hK87.tr hk114
              have hz116 : M84 a 3 = M11 a 3 := (zup_p e85 (by omega) _)
              have hz117 : M84 a 4 = M11 a 4 := (zup_p e85 (by omega) _)
              exact zK.weak (J_100 M110 J111 hI112 hK115 h104 (by omega) (fun i => ((hk114 _ _ (by omega)).trans ((zup_p e85 (by omega) _).trans (h21 i)))) (by omega) (by omega) (by have hz118 : M110 a 4 = M11 a 4 := ((h107).trans (zup_p e85 (by omega) _)); omega) (zRl.close (zRl.cg h25 (zup_p e85 (by omega) _) (fun i => (zup_p e85 (by omega) _))) (by omega) h108 (by omega) (by omega) (by omega)) (zBg.close (zBg.cg h26 rfl (fun i => rfl) (fun i => rfl)) (by have t := e85; rw [show (u9 : Int) = u10 by omega] at t; exact t) (by omega) h108 h109 (by omega) (by omega) (by omega) (by omega))) (zwk_c (zwk_c (zwk_c (zwk_c (zwk_c zwk_e)))))
  exact zK.weak (L_27 _ 0 0 M5 J hI7 hK8 (by omega) (by omega) (by omega) (by omega) (zMo.nil (by have hz : M5 a 3 = 0 := (zup_s e6); omega) (((zup_p e6 (by omega) _).trans (zup_p e2 (by omega) _)).trans p3.2)) (by have h3 : M5 a 3 = 0 := (zup_s e6); rw [h3]; have h2 : M5 (a + 2) 0 = 0 := (((zup_p e6 (by omega) _).trans (zup_p e2 (by omega) _)).trans p3.2); omega) (fun i => ((zup_p e6 (by omega) _).trans (zup_p e2 (by omega) _))) (by have hz119 : M5 a 3 = 0 := (zup_s e6); omega) (Or.inl ⟨by have h3 : M5 a 3 = 0 := (zup_s e6); rw [h3]; exact (((zup_p e6 (by omega) _).trans (zup_p e2 (by omega) _)).trans p3.2), Or.inl rfl⟩) (by have hz120 : M5 a 4 = 1 := ((zup_n e6 (by omega)).trans (zup_s e2)); omega) (zRl.nil (zup_s e6) (((zup_p e6 (by omega) _).trans (zup_p e2 (by omega) _)).trans p3.2)) (zBg.nil (zup_s e6) (((zup_p e6 (by omega) _).trans (zup_p e2 (by omega) _)).trans p3.2)) (Int.self_le_toNat _)) (zwk_c (zwk_c (zwk_c (zwk_c (zwk_c zwk_e)))))
theorem c_X4_change_w {w : zWp} {T : zTl} {M : zMm} {J : zJm} {R : zRm'} {G : zGt} {F : zRm'} {a b tb : Nat} (hI : zI G M) (hF : zF F R) (h0 : zPage T F G a) (v1 : Int) (t_b0 : T[b]? = some (51, 440)) (g_b0 : ∀ k, G b k = (tb, (-128), 127)) (v3 : Int) (p1 : 0 ≤ v1 ∧ v1 ≤ M a 3) (p2 : 0 ≤ v3 ∧ v3 ≤ 440) (p3 : tb < 20) (p4 : zPr M a) : zCt w 13 0 0 yX4_change cX4_change 8 (some .boolean) [.ref (w.2.1 + a), zi v1, .ref (w.2.1 + b), zi v3] (T, M, J, R) (zPi T R G (fun x M2 => (zKr a 4 M M2) ∧ (x = 0 ∨ x = 1) ∧ (zPr M2 a) ∧ (x = 0 → M2 = M) ∧ (zChx M a v1 v3 x) ∧ (x = 1 → zChg M M2 a v1 v3) ∧ (x = 1 → zEb M M2 a v1 v3 (M b)) ∧ (x = 1 → zWv M2 a) ∧ (x = 1 → zEc M M2 a v1 v3))) := by
  refine zCt.of rfl (Nat.le_of_ble_eq_true rfl) ?_
  intro p e s m args below meth c C
  obtain ⟨Po, hPo⟩ : ∃ Po, Po = zPi T R G (fun x M2 => (zKr a 4 M M2) ∧ (x = 0 ∨ x = 1) ∧ (zPr M2 a) ∧ (x = 0 → M2 = M) ∧ (zChx M a v1 v3 x) ∧ (x = 1 → zChg M M2 a v1 v3) ∧ (x = 1 → zEb M M2 a v1 v3 (M b)) ∧ (x = 1 → zWv M2 a) ∧ (x = 1 → zEc M M2 a v1 v3)) := ⟨_, rfl⟩
  rw [← hPo]
  have hK0 : zKr a 4 M M := zKr.rf
  have hbd : b + 1 ≤ a ∨ a + 4 ≤ b := zPgB h0 t_b0
  show zK w p e 13 0 0 s m args below meth c 8 T Po 0 [.ref (w.2.1 + a), zi v1, .ref (w.2.1 + b), zi v3, .null, .null, .null, .null] [] (T, M, J, R)
  have q0 := zI.at hI h0.2.2.2.2.2.2.2.2.2.2.1
  have q1 := p4.1.lt (i := v1) (j := M a 3) (by omega) (by omega) (by omega)
  have q2 : v1 < M a 3 → M (a + 2) v1 ≤ M (a + 2) (v1 + 1) := fun h => p4.1.1 v1 (by omega) h
  have q3 : v1 < M a 3 → M (a + 2) (v1 + 1) ≤ M (a + 2) (M a 3) := fun h => p4.1.lt (by omega) (by omega) (by omega)
  have qSL : ¬ v1 = M a 3 ∨ M (a + 2) v1 = M (a + 2) (M a 3) := (Decidable.em (v1 = M a 3)).symm.imp id (fun h => by rw [h])
  refine q_iload_n C dX4_change_0 (n := 1) rfl rfl ?_
  refine q_aload_n C dX4_change_1 (n := 2) rfl rfl ?_
  have g1 := zI.at hI h0.2.2.2.2.2.2.2.2.2.2.1
  refine q_getI C dX4_change_2 (n := 5) rfl f_X4_22 h0.1 (v := M a 3) rfl ?_
  have J_6 : ∀ (u2 : Int), (-2147483648 ≤ u2 ∧ u2 ≤ 2147483647) → (u2 = 0 ∨ u2 = 1) → (u2 = 1 ∧ v1 = M a 3 ∨ u2 = 0 ∧ ¬ v1 = M a 3) → zK w p e 13 0 0 s m args below meth c 8 T Po 13 [.ref (w.2.1 + a), zi v1, .ref (w.2.1 + b), zi v3, .null, .null, .null, .null] [zi u2] (T, M, J, R) := by
    intro u2 h3 h4 h5
    refine q_istore C [.ref (w.2.1 + a), zi v1, .ref (w.2.1 + b), zi v3, zi u2, .null, .null, .null] dX4_change_13 (n := 15) rfl rfl rfl ?_
    refine q_iload C dX4_change_15 (n := 17) rfl rfl ?_
    have J_10 : ∀ (u7 : Int), (-2147483648 ≤ u7 ∧ u7 ≤ 2147483647) → ((u7 = M (a + 2) (M a 3) ∧ v1 = M a 3) ∨ (u7 = M (a + 2) (v1 + 1) ∧ v1 < M a 3)) → zK w p e 13 0 0 s m args below meth c 8 T Po 40 [.ref (w.2.1 + a), zi v1, .ref (w.2.1 + b), zi v3, zi u2, .null, .null, .null] [zi u7] (T, M, J, R) := by
      intro u7 h8 h9
      refine q_istore C [.ref (w.2.1 + a), zi v1, .ref (w.2.1 + b), zi v3, zi u2, zi u7, .null, .null] dX4_change_40 (n := 42) rfl rfl rfl ?_
      refine q_aload_n C dX4_change_42 (n := 43) rfl rfl ?_
      refine q_getR C dX4_change_43 (n := 46) rfl f_X4_15 h0.1 (hF _ _ _ h0.2.2.2.2.1) ?_
      refine q_iload_n C dX4_change_46 (n := 47) rfl rfl ?_
      have g11 := zI.at hI (h0.2.2.2.2.2.2.1 v1)
      refine q_iald C dX4_change_47 (n := 48) rfl h0.2.2.2.2.2.1 (by omega) (v := M (a + 2) v1) rfl ?_
      refine q_iload_n C dX4_change_48 (n := 49) rfl rfl ?_
      refine q_iadd C dX4_change_49 (n := 50) rfl (v := (M (a + 2) v1) + v3) rfl ?_
      refine q_iconst C dX4_change_50 (n := 51) rfl ?_
      refine q_iadd C dX4_change_51 (n := 52) rfl (v := ((M (a + 2) v1) + v3) + 1) rfl ?_
      refine q_iload C dX4_change_52 (n := 54) rfl rfl ?_
      refine q_isub C dX4_change_54 (n := 55) rfl (v := (((M (a + 2) v1) + v3) + 1) - u7) rfl ?_
      refine q_istore C [.ref (w.2.1 + a), zi v1, .ref (w.2.1 + b), zi v3, zi u2, zi u7, zi ((((M (a + 2) v1) + v3) + 1) - u7), .null] dX4_change_55 (n := 57) rfl rfl rfl ?_
      refine q_aload_n C dX4_change_57 (n := 58) rfl rfl ?_
      refine q_getR C dX4_change_58 (n := 61) rfl f_X4_15 h0.1 (hF _ _ _ h0.2.2.2.2.1) ?_
      refine q_aload_n C dX4_change_61 (n := 62) rfl rfl ?_
      refine q_getI C dX4_change_62 (n := 65) rfl f_X4_22 h0.1 (v := M a 3) rfl ?_
      have g12 := zI.at hI (h0.2.2.2.2.2.2.1 (M a 3))
      refine q_iald C dX4_change_65 (n := 66) rfl h0.2.2.2.2.2.1 (by omega) (v := M (a + 2) (M a 3)) rfl ?_
      refine q_iload C dX4_change_66 (n := 68) rfl rfl ?_
      refine q_iadd C dX4_change_68 (n := 69) rfl (v := (M (a + 2) (M a 3)) + ((((M (a + 2) v1) + v3) + 1) - u7)) rfl ?_
      refine q_sipush C dX4_change_69 (n := 72) rfl (x := 400) (by decide) ?_
      refine q_icmp_gt C 89 dX4_change_72 (n := 75) rfl rfl (by omega) (fun h13 => ?_) (fun h13 => ?_)
      · refine q_iconst C dX4_change_89 (n := 90) rfl ?_
        exact q_zret C dX4_change_90 ⟨rfl, rfl⟩ (by omega) (by rw [hPo]; exact ⟨0, M, J, rfl, rfl, hI, hK0, by omega, p4, (fun _ => rfl), (by unfold zChx; omega), (fun h => absurd h (by decide)), (fun h => absurd h (by decide)), (fun h => absurd h (by decide)), (fun h => absurd h (by decide))⟩)
      · refine q_iload C dX4_change_75 (n := 77) rfl rfl ?_
        have J_15 : (u2 = 0 ∨ M a 3 < 40) → zK w p e 13 0 0 s m args below meth c 8 T Po 91 [.ref (w.2.1 + a), zi v1, .ref (w.2.1 + b), zi v3, zi u2, zi u7, zi ((((M (a + 2) v1) + v3) + 1) - u7), .null] [] (T, M, J, R) := by
          intro h14
          refine q_iload C dX4_change_91 (n := 93) rfl rfl ?_
          have J_23 : ∀ (M16 : zMm) (J17 : zJm), zI G M16 → zKr a 4 M M16 → (zCg M16 a v1 v3 u7 ((((M (a + 2) v1) + v3) + 1) - u7)) → (zCh0 M M16 a v1) → (∀ x, M16 (a + 1) x = M (a + 1) x) → zK w p e 13 0 0 s m args below meth c 8 T Po 117 [.ref (w.2.1 + a), zi v1, .ref (w.2.1 + b), zi v3, .null, zi u7, zi ((((M (a + 2) v1) + v3) + 1) - u7), .null] [] (T, M16, J17, R) := by
            intro M16 J17 hI18 hK19 h20 h21 h22
            obtain ⟨c1, c2, c3, c4, c5, c6⟩ := id h20
            have c7 := c1.lt (i := v1 + 1) (j := M16 a 3) (by omega) (by omega) (by omega)
            have c8 := c1.1 v1 (by omega) (by omega)
            have c9 := zI.at hI18 (h0.2.2.2.2.2.2.1 (v1 + 1))
            have c10 := zI.at hI18 (h0.2.2.2.2.2.2.1 v1)
            have c11 := zI.at hI18 (h0.2.2.2.2.2.2.1 (M16 a 3))
            refine q_aload_n C dX4_change_117 (n := 118) rfl rfl ?_
            refine q_getR C dX4_change_118 (n := 121) rfl f_X4_9 h0.1 (hF _ _ _ h0.2.1) ?_
            refine q_iload C dX4_change_121 (n := 123) rfl rfl ?_
            refine q_aload_n C dX4_change_123 (n := 124) rfl rfl ?_
            refine q_getR C dX4_change_124 (n := 127) rfl f_X4_9 h0.1 (hF _ _ _ h0.2.1) ?_
            refine q_iload C dX4_change_127 (n := 129) rfl rfl ?_
            refine q_iload C dX4_change_129 (n := 131) rfl rfl ?_
            refine q_iadd C dX4_change_131 (n := 132) rfl (v := u7 + ((((M (a + 2) v1) + v3) + 1) - u7)) rfl ?_
            refine q_aload_n C dX4_change_132 (n := 133) rfl rfl ?_
            refine q_getR C dX4_change_133 (n := 136) rfl f_X4_15 h0.1 (hF _ _ _ h0.2.2.2.2.1) ?_
            refine q_aload_n C dX4_change_136 (n := 137) rfl rfl ?_
            have g24 := zI.at hI18 h0.2.2.2.2.2.2.2.2.2.2.1
            refine q_getI C dX4_change_137 (n := 140) rfl f_X4_22 h0.1 (v := M16 a 3) rfl ?_
            have g25 := zI.at hI18 (h0.2.2.2.2.2.2.1 (M16 a 3))
            refine q_iald C dX4_change_140 (n := 141) rfl h0.2.2.2.2.2.1 (by omega) (v := M16 (a + 2) (M16 a 3)) rfl ?_
            refine q_iload C dX4_change_141 (n := 143) rfl rfl ?_
            refine q_isub C dX4_change_143 (n := 144) rfl (v := (M16 (a + 2) (M16 a 3)) - u7) rfl ?_
            refine q_copyB C dX4_change_144 (n := 147) rfl x_X4_43 h0.2.2.1 h0.2.2.1 (by omega) (fun j => by have := zI.at hI18 (h0.2.2.2.1 j); omega) (Nat.le_of_ble_eq_true rfl) (Nat.le_of_ble_eq_true rfl) (fun M26 e27 => ?_)
            have hI28 : zI G M26 := hI18.cp e27 h0.2.2.2.1 h0.2.2.2.1 rfl (by omega)
            have hK29 := hK19.cp e27 (by omega)
            refine q_aload_n C dX4_change_147 (n := 148) rfl rfl ?_
            refine q_iconst C dX4_change_148 (n := 149) rfl ?_
            refine q_aload_n C dX4_change_149 (n := 150) rfl rfl ?_
            refine q_getR C dX4_change_150 (n := 153) rfl f_X4_9 h0.1 (hF _ _ _ h0.2.1) ?_
            refine q_aload_n C dX4_change_153 (n := 154) rfl rfl ?_
            refine q_getR C dX4_change_154 (n := 157) rfl f_X4_15 h0.1 (hF _ _ _ h0.2.2.2.2.1) ?_
            refine q_iload_n C dX4_change_157 (n := 158) rfl rfl ?_
            have g30 := zI.at hI18 (h0.2.2.2.2.2.2.1 v1)
            refine q_iald C dX4_change_158 (n := 159) rfl h0.2.2.2.2.2.1 (by omega) (v := M16 (a + 2) v1) (zcp_p e27 (by omega) _) ?_
            refine q_iload_n C dX4_change_159 (n := 160) rfl rfl ?_
            refine q_copyB C dX4_change_160 (n := 163) rfl x_X4_43 t_b0 h0.2.2.1 (by omega) (fun j => by have := zI.at hI28 (g_b0 j); omega) (Nat.le_of_ble_eq_true rfl) (Nat.le_of_ble_eq_true rfl) (fun M31 e32 => ?_)
            have hI33 : zI G M31 := hI28.cp e32 g_b0 h0.2.2.2.1 rfl (by omega)
            have hK34 := hK29.cp e32 (by omega)
            refine q_aload_n C dX4_change_163 (n := 164) rfl rfl ?_
            refine q_getR C dX4_change_164 (n := 167) rfl f_X4_9 h0.1 (hF _ _ _ h0.2.1) ?_
            refine q_aload_n C dX4_change_167 (n := 168) rfl rfl ?_
            refine q_getR C dX4_change_168 (n := 171) rfl f_X4_15 h0.1 (hF _ _ _ h0.2.2.2.2.1) ?_
            refine q_iload_n C dX4_change_171 (n := 172) rfl rfl ?_
            refine q_iald C dX4_change_172 (n := 173) rfl h0.2.2.2.2.2.1 (by omega) (v := M16 (a + 2) v1) ((zcp_p e32 (by omega) _).trans (zcp_p e27 (by omega) _)) ?_
            refine q_iload_n C dX4_change_173 (n := 174) rfl rfl ?_
            refine q_iadd C dX4_change_174 (n := 175) rfl (v := (M16 (a + 2) v1) + v3) rfl ?_
            refine q_bipush C dX4_change_175 (n := 177) rfl (x := 10) (by decide) ?_
            refine q_bast C dX4_change_177 (n := 178) rfl h0.2.2.1 (by omega) (by omega) (fun M35 e36 => ?_)
            have hI37 : zI G M35 := hI33.put e36 (h0.2.2.2.1 ((M16 (a + 2) v1) + v3)) rfl (by omega)
            have hK38 := hK34.put e36 (by omega)
            have hcb := zCb.of h20 e27 e32 e36 ⟨rfl, by omega, by omega⟩ ⟨rfl, by omega, rfl⟩ (by omega) (by omega)
            refine q_iload_n C dX4_change_178 (n := 179) rfl rfl ?_
            refine q_iconst C dX4_change_179 (n := 180) rfl ?_
            refine q_iadd C dX4_change_180 (n := 181) rfl (v := v1 + 1) rfl ?_
            refine q_istore C [.ref (w.2.1 + a), zi v1, .ref (w.2.1 + b), zi v3, .null, zi u7, zi ((((M (a + 2) v1) + v3) + 1) - u7), zi (v1 + 1)] dX4_change_181 (n := 183) rfl rfl rfl ?_
            have L_48 : ∀ n49 : Nat, ∀ (u39 : Int) (M40 : zMm) (J41 : zJm), zI G M40 → zKr a 4 M M40 → (-2147483648 ≤ u39 ∧ u39 ≤ 2147483647) → (zCl M35 M40 a v1 v3 u7 ((((M (a + 2) v1) + v3) + 1) - u7) u39) → (M40 a 4 = M35 a 4) → (∀ x, M40 (a + 1) x = M35 (a + 1) x) → (42 - u39 ≤ (n49 : Int)) → zK w p e 13 0 0 s m args below meth c 8 T Po 183 [.ref (w.2.1 + a), .null, .null, .null, .null, .null, zi ((((M (a + 2) v1) + v3) + 1) - u7), zi u39] [] (T, M40, J41, R) := by
              intro n49
              induction n49 with
              | zero =>
                intro u39 M40 J41 hI42 hK43 h44 h45 h46 h47 hm51
                exfalso
                have s1 := zCl.size h45
                omega
              | succ n49 ih50 =>
                intro u39 M40 J41 hI42 hK43 h44 h45 h46 h47 hm51
                have s1 := zCl.size h45
                refine q_iload C dX4_change_183 (n := 185) rfl rfl ?_
                refine q_aload_n C dX4_change_185 (n := 186) rfl rfl ?_
                have g52 := zI.at hI42 h0.2.2.2.2.2.2.2.2.2.2.1
                refine q_getI C dX4_change_186 (n := 189) rfl f_X4_22 h0.1 (v := M40 a 3) rfl ?_
                refine q_icmp_gt C 210 dX4_change_189 (n := 192) rfl rfl (by omega) (fun h53 => ?_) (fun h53 => ?_)
                · have s3 := h45.fin (by omega)
                  refine q_aload_n C dX4_change_210 (n := 211) rfl rfl ?_
                  refine q_callVv C dX4_change_211 (n := 214) rfl m_X4_40 v_yX4_mark h0.1 ⟨by decide, rfl⟩ (c_X4_mark_w (w := w) (J := J41) hI42 hF h0) (Nat.le_of_ble_eq_true rfl) rfl rfl (Nat.le_of_ble_eq_true rfl) ⟨Nat.le_refl _, Nat.le_refl _⟩ (fun M60 J61  hI62 h63 => ?_)
                  obtain ⟨hk64, h54, h55, h56, h57, h58, h59⟩ := h63
                  have hK65 := hK43.tr hk64
                  have hz66 : M40 a 4 = M16 a 4 := ((h46).trans ((zup_p e36 (by omega) _).trans ((zcp_p e32 (by omega) _).trans (zcp_p e27 (by omega) _))))
                  refine q_iconst C dX4_change_214 (n := 215) rfl ?_
                  exact q_zret C dX4_change_215 ⟨rfl, rfl⟩ (by omega) (by rw [hPo]; exact ⟨1, M60, J61, rfl, rfl, hI62, hK65, by omega, ⟨(s3.cg (h54) (fun i => (h55 i))), h56⟩, (fun h => absurd h (by decide)), (by unfold zChx; omega), (fun _ => zChg.mk (zCh0.tr h21 ⟨((zup_p e36 (by omega) _).trans ((zcp_p e32 (by omega) _).trans (zcp_p e27 (by omega) _))), ((zup_p e36 (by omega) _).trans ((zcp_p e32 (by omega) _).trans (zcp_p e27 (by omega) _))), fun i => ((zup_p e36 (by omega) _).trans ((zcp_p e32 (by omega) _).trans (zcp_p e27 (by omega) _)))⟩) h45 (by omega) (by omega) ⟨(h57), (h54), fun i => (h55 i)⟩), (fun _ => zEb.cg zStw.rf (zEb.mk h21 h22 hcb ((zup_p e36 (by omega) _).trans ((zcp_p e32 (by omega) _).trans (zcp_p e27 (by omega) _))) (fun j => ((zup_p e36 (by omega) _).trans ((zcp_p e32 (by omega) _).trans (zcp_p e27 (by omega) _)))) h45 (by omega) (fun x => h47 x) ⟨(h54), fun i => (h58 i), fun i => (h55 i)⟩ (fun j => (zI.at hI (h0.2.2.2.2.2.2.1 j)).1)) zStw.rf rfl (fun j => (hK19 _ _ (by omega)))), (fun _ => h59), (fun _ => zEc.mk h21 ((zup_p e36 (by omega) _).trans ((zcp_p e32 (by omega) _).trans (zcp_p e27 (by omega) _))) (fun j => ((zup_p e36 (by omega) _).trans ((zcp_p e32 (by omega) _).trans (zcp_p e27 (by omega) _)))) h45 (by omega) ⟨(h54), fun i => (h58 i), fun i => (h55 i)⟩)⟩)
                · refine q_aload_n C dX4_change_192 (n := 193) rfl rfl ?_
                  refine q_getR C dX4_change_193 (n := 196) rfl f_X4_15 h0.1 (hF _ _ _ h0.2.2.2.2.1) ?_
                  refine q_iload C dX4_change_196 (n := 198) rfl rfl ?_
                  refine q_dup2 C dX4_change_198 (n := 199) rfl ⟨rfl, rfl⟩ ?_
                  have g67 := zI.at hI42 (h0.2.2.2.2.2.2.1 u39)
                  refine q_iald C dX4_change_199 (n := 200) rfl h0.2.2.2.2.2.1 (by omega) (v := M40 (a + 2) u39) rfl ?_
                  refine q_iload C dX4_change_200 (n := 202) rfl rfl ?_
                  refine q_iadd C dX4_change_202 (n := 203) rfl (v := (M40 (a + 2) u39) + ((((M (a + 2) v1) + v3) + 1) - u7)) rfl ?_
                  have s2 := h45.bound (fun j => (zI.at hI37 (h0.2.2.2.2.2.2.1 j)).1) (by omega)
                  refine q_iast C dX4_change_203 (n := 204) rfl h0.2.2.2.2.2.1 (by omega)  (fun M68 e69 => ?_)
                  have hI70 : zI G M68 := hI42.put e69 (h0.2.2.2.2.2.2.1 u39) rfl (by omega)
                  have hK71 := hK43.put e69 (by omega)
                  refine q_iinc C [.ref (w.2.1 + a), .null, .null, .null, .null, .null, zi ((((M (a + 2) v1) + v3) + 1) - u7), zi (u39 + 1)] dX4_change_204 (n := 207) rfl rfl rfl rfl ?_
                  refine q_goto C 183 dX4_change_207 rfl ?_
                  exact zK.weak (ih50 (u39 + 1) M68 J41 hI70 hK71 (by omega) (h45.step (by omega) e69) (((zup_p e69 (by omega) _)).trans h46) (fun x => ((zup_p e69 (by omega) _)).trans (h47 x)) (by omega)) (zwk_c (zwk_n (zwk_n (zwk_n (zwk_n (zwk_n (zwk_c (zwk_c zwk_e))))))))
            exact zK.weak (L_48 _ (v1 + 1) M35 J17 hI37 hK38 (by omega) (zCl.start (h20.cg ((zup_p e36 (by omega) _).trans ((zcp_p e32 (by omega) _).trans (zcp_p e27 (by omega) _))) (fun i => ((zup_p e36 (by omega) _).trans ((zcp_p e32 (by omega) _).trans (zcp_p e27 (by omega) _))))) rfl) rfl (fun x => rfl) (Int.self_le_toNat _)) (zwk_c (zwk_n (zwk_n (zwk_n (zwk_n (zwk_n (zwk_c (zwk_c zwk_e))))))))
          refine q_if_eq C 117 dX4_change_93 (n := 96) rfl rfl (by omega) (fun h72 => ?_) (fun h72 => ?_)
          · exact zK.weak (J_23 M J hI hK0 ⟨p4.1, ⟨by omega, by omega, by omega⟩, by omega, by omega, by omega, by omega⟩ ⟨rfl, Or.inr ⟨by omega, rfl⟩, fun _ _ => rfl⟩ (fun _ => rfl)) (zwk_c (zwk_c (zwk_c (zwk_c (zwk_n (zwk_c (zwk_c (zwk_n zwk_e))))))))
          · refine q_aload_n C dX4_change_96 (n := 97) rfl rfl ?_
            refine q_dup C dX4_change_97 (n := 98) rfl rfl ?_
            refine q_getI C dX4_change_98 (n := 101) rfl f_X4_22 h0.1 (v := M a 3) rfl ?_
            refine q_iconst C dX4_change_101 (n := 102) rfl ?_
            refine q_iadd C dX4_change_102 (n := 103) rfl (v := (M a 3) + 1) rfl ?_
            refine q_putI C dX4_change_103 (n := 106) rfl f_X4_22 h0.1 ⟨rfl, rfl⟩ (fun M73 (e74 : M73 = zup M a 3 ((M a 3) + 1)) => ?_)
            have hI75 : zI G M73 := hI.put e74 h0.2.2.2.2.2.2.2.2.2.2.1 rfl (by omega)
            have hK76 := hK0.put e74 (by omega)
            refine q_aload_n C dX4_change_106 (n := 107) rfl rfl ?_
            refine q_getR C dX4_change_107 (n := 110) rfl f_X4_15 h0.1 (hF _ _ _ h0.2.2.2.2.1) ?_
            refine q_aload_n C dX4_change_110 (n := 111) rfl rfl ?_
            refine q_getI C dX4_change_111 (n := 114) rfl f_X4_22 h0.1 (v := (M a 3) + 1) (zup_s e74) ?_
            refine q_iload C dX4_change_114 (n := 116) rfl rfl ?_
            refine q_iast C dX4_change_116 (n := 117) rfl h0.2.2.2.2.2.1 (by omega)  (fun M77 e78 => ?_)
            have hI79 : zI G M77 := hI75.put e78 (h0.2.2.2.2.2.2.1 ((M a 3) + 1)) rfl (by omega)
            have hK80 := hK76.put e78 (by omega)
            exact zK.weak (J_23 M77 J hI79 hK80 (zCg.B p4.1 rfl (by omega) (by omega) (by omega) (by omega) (by omega) (by omega) (by omega) e74 e78) ⟨(zup_p e78 (by omega) _).trans (zup_n e74 (by omega)), Or.inl ⟨by omega, (zup_p e78 (by omega) _).trans (zup_s e74)⟩, fun j hj => (zup_n e78 (by omega)).trans (zup_p e74 (by omega) _)⟩ (fun x => ((zup_p e78 (by omega) _).trans (zup_p e74 (by omega) _)))) (zwk_c (zwk_c (zwk_c (zwk_c (zwk_n (zwk_c (zwk_c (zwk_n zwk_e))))))))
        refine q_if_eq C 91 dX4_change_77 (n := 80) rfl rfl (by omega) (fun h81 => ?_) (fun h81 => ?_)
        · exact zK.weak (J_15 (by omega)) (zwk_c (zwk_c (zwk_c (zwk_c (zwk_c (zwk_c (zwk_c (zwk_n zwk_e))))))))
        · refine q_aload_n C dX4_change_80 (n := 81) rfl rfl ?_
          refine q_getI C dX4_change_81 (n := 84) rfl f_X4_22 h0.1 (v := M a 3) rfl ?_
          refine q_bipush C dX4_change_84 (n := 86) rfl (x := 40) (by decide) ?_
          refine q_icmp_lt C 91 dX4_change_86 (n := 89) rfl rfl (by omega) (fun h82 => ?_) (fun h82 => ?_)
          · exact zK.weak (J_15 (by omega)) (zwk_c (zwk_c (zwk_c (zwk_c (zwk_c (zwk_c (zwk_c (zwk_n zwk_e))))))))
          · refine q_iconst C dX4_change_89 (n := 90) rfl ?_
            exact q_zret C dX4_change_90 ⟨rfl, rfl⟩ (by omega) (by rw [hPo]; exact ⟨0, M, J, rfl, rfl, hI, hK0, by omega, p4, (fun _ => rfl), (by unfold zChx; omega), (fun h => absurd h (by decide)), (fun h => absurd h (by decide)), (fun h => absurd h (by decide)), (fun h => absurd h (by decide))⟩)
    refine q_if_eq C 32 dX4_change_17 (n := 20) rfl rfl (by omega) (fun h83 => ?_) (fun h83 => ?_)
    · refine q_aload_n C dX4_change_32 (n := 33) rfl rfl ?_
      refine q_getR C dX4_change_33 (n := 36) rfl f_X4_15 h0.1 (hF _ _ _ h0.2.2.2.2.1) ?_
      refine q_iload_n C dX4_change_36 (n := 37) rfl rfl ?_
      refine q_iconst C dX4_change_37 (n := 38) rfl ?_
      refine q_iadd C dX4_change_38 (n := 39) rfl (v := v1 + 1) rfl ?_
      have g84 := zI.at hI (h0.2.2.2.2.2.2.1 (v1 + 1))
      refine q_iald C dX4_change_39 (n := 40) rfl h0.2.2.2.2.2.1 (by omega) (v := M (a + 2) (v1 + 1)) rfl ?_
      exact zK.weak (J_10 (M (a + 2) (v1 + 1)) (by omega) (by omega)) (zwk_c (zwk_c (zwk_c (zwk_c (zwk_c (zwk_n (zwk_n (zwk_n zwk_e))))))))
    · refine q_aload_n C dX4_change_20 (n := 21) rfl rfl ?_
      refine q_getR C dX4_change_21 (n := 24) rfl f_X4_15 h0.1 (hF _ _ _ h0.2.2.2.2.1) ?_
      refine q_aload_n C dX4_change_24 (n := 25) rfl rfl ?_
      refine q_getI C dX4_change_25 (n := 28) rfl f_X4_22 h0.1 (v := M a 3) rfl ?_
      have g85 := zI.at hI (h0.2.2.2.2.2.2.1 (M a 3))
      refine q_iald C dX4_change_28 (n := 29) rfl h0.2.2.2.2.2.1 (by omega) (v := M (a + 2) (M a 3)) rfl ?_
      refine q_goto C 40 dX4_change_29 rfl ?_
      exact zK.weak (J_10 (M (a + 2) (M a 3)) (by omega) (by omega)) (zwk_c (zwk_c (zwk_c (zwk_c (zwk_c (zwk_n (zwk_n (zwk_n zwk_e))))))))
  refine q_icmp_ne C 12 dX4_change_5 (n := 8) rfl rfl (by omega) (fun h86 => ?_) (fun h86 => ?_)
  · refine q_iconst C dX4_change_12 (n := 13) rfl ?_
    exact zK.weak (J_6 0 (by omega) (by omega) (by omega)) (zwk_c (zwk_c (zwk_c (zwk_c (zwk_n (zwk_n (zwk_n (zwk_n zwk_e))))))))
  · refine q_iconst C dX4_change_8 (n := 9) rfl ?_
    refine q_goto C 13 dX4_change_9 rfl ?_
    exact zK.weak (J_6 1 (by omega) (by omega) (by omega)) (zwk_c (zwk_c (zwk_c (zwk_c (zwk_n (zwk_n (zwk_n (zwk_n zwk_e))))))))
theorem c_X4_takeOut_w {w : zWp} {T : zTl} {M : zMm} {J : zJm} {R : zRm'} {G : zGt} {F : zRm'} {a : Nat} (hI : zI G M) (hF : zF F R) (h0 : zPage T F G a) (v1 : Int) (p1 : 0 ≤ v1 ∧ v1 < M a 3) (p2 : zPr M a) : zCt w 13 0 0 yX4_takeOut cX4_takeOut 4 none [.ref (w.2.1 + a), zi v1] (T, M, J, R) (zPv T R G (fun M2 => (zKr a 4 M M2) ∧ (zPr M2 a) ∧ (zTko M M2 a v1) ∧ (zTb M M2 a v1) ∧ (zWv M2 a) ∧ (zTc M M2 a v1))) := by
  refine zCt.of rfl (Nat.le_of_ble_eq_true rfl) ?_
  intro p e s m args below meth c C
  obtain ⟨Po, hPo⟩ : ∃ Po, Po = zPv T R G (fun M2 => (zKr a 4 M M2) ∧ (zPr M2 a) ∧ (zTko M M2 a v1) ∧ (zTb M M2 a v1) ∧ (zWv M2 a) ∧ (zTc M M2 a v1)) := ⟨_, rfl⟩
  rw [← hPo]
  have hK0 : zKr a 4 M M := zKr.rf
  show zK w p e 13 0 0 s m args below meth c 4 T Po 0 [.ref (w.2.1 + a), zi v1, .null, .null] [] (T, M, J, R)
  have q0 := zI.at hI h0.2.2.2.2.2.2.2.2.2.2.1
  have q1 := p2.1.1 v1 (by omega) (by omega)
  have q2 := p2.1.lt (i := v1 + 1) (j := M a 3) (by omega) (by omega) (by omega)
  refine q_aload_n C dX4_takeOut_0 (n := 1) rfl rfl ?_
  refine q_getR C dX4_takeOut_1 (n := 4) rfl f_X4_15 h0.1 (hF _ _ _ h0.2.2.2.2.1) ?_
  refine q_iload_n C dX4_takeOut_4 (n := 5) rfl rfl ?_
  refine q_iconst C dX4_takeOut_5 (n := 6) rfl ?_
  refine q_iadd C dX4_takeOut_6 (n := 7) rfl (v := v1 + 1) rfl ?_
  have g1 := zI.at hI (h0.2.2.2.2.2.2.1 (v1 + 1))
  refine q_iald C dX4_takeOut_7 (n := 8) rfl h0.2.2.2.2.2.1 (by omega) (v := M (a + 2) (v1 + 1)) rfl ?_
  refine q_aload_n C dX4_takeOut_8 (n := 9) rfl rfl ?_
  refine q_getR C dX4_takeOut_9 (n := 12) rfl f_X4_15 h0.1 (hF _ _ _ h0.2.2.2.2.1) ?_
  refine q_iload_n C dX4_takeOut_12 (n := 13) rfl rfl ?_
  have g2 := zI.at hI (h0.2.2.2.2.2.2.1 v1)
  refine q_iald C dX4_takeOut_13 (n := 14) rfl h0.2.2.2.2.2.1 (by omega) (v := M (a + 2) v1) rfl ?_
  refine q_isub C dX4_takeOut_14 (n := 15) rfl (v := (M (a + 2) (v1 + 1)) - (M (a + 2) v1)) rfl ?_
  refine q_istore_n C [.ref (w.2.1 + a), zi v1, zi ((M (a + 2) (v1 + 1)) - (M (a + 2) v1)), .null] dX4_takeOut_15 (n := 16) rfl rfl rfl ?_
  refine q_aload_n C dX4_takeOut_16 (n := 17) rfl rfl ?_
  refine q_getR C dX4_takeOut_17 (n := 20) rfl f_X4_9 h0.1 (hF _ _ _ h0.2.1) ?_
  refine q_aload_n C dX4_takeOut_20 (n := 21) rfl rfl ?_
  refine q_getR C dX4_takeOut_21 (n := 24) rfl f_X4_15 h0.1 (hF _ _ _ h0.2.2.2.2.1) ?_
  refine q_iload_n C dX4_takeOut_24 (n := 25) rfl rfl ?_
  refine q_iconst C dX4_takeOut_25 (n := 26) rfl ?_
  refine q_iadd C dX4_takeOut_26 (n := 27) rfl (v := v1 + 1) rfl ?_
  refine q_iald C dX4_takeOut_27 (n := 28) rfl h0.2.2.2.2.2.1 (by omega) (v := M (a + 2) (v1 + 1)) rfl ?_
  refine q_aload_n C dX4_takeOut_28 (n := 29) rfl rfl ?_
  refine q_getR C dX4_takeOut_29 (n := 32) rfl f_X4_9 h0.1 (hF _ _ _ h0.2.1) ?_
  refine q_aload_n C dX4_takeOut_32 (n := 33) rfl rfl ?_
  refine q_getR C dX4_takeOut_33 (n := 36) rfl f_X4_15 h0.1 (hF _ _ _ h0.2.2.2.2.1) ?_
  refine q_iload_n C dX4_takeOut_36 (n := 37) rfl rfl ?_
  refine q_iald C dX4_takeOut_37 (n := 38) rfl h0.2.2.2.2.2.1 (by omega) (v := M (a + 2) v1) rfl ?_
  refine q_aload_n C dX4_takeOut_38 (n := 39) rfl rfl ?_
  refine q_getR C dX4_takeOut_39 (n := 42) rfl f_X4_15 h0.1 (hF _ _ _ h0.2.2.2.2.1) ?_
  refine q_aload_n C dX4_takeOut_42 (n := 43) rfl rfl ?_
  have g3 := zI.at hI h0.2.2.2.2.2.2.2.2.2.2.1
  refine q_getI C dX4_takeOut_43 (n := 46) rfl f_X4_22 h0.1 (v := M a 3) rfl ?_
  have g4 := zI.at hI (h0.2.2.2.2.2.2.1 (M a 3))
  refine q_iald C dX4_takeOut_46 (n := 47) rfl h0.2.2.2.2.2.1 (by omega) (v := M (a + 2) (M a 3)) rfl ?_
  refine q_aload_n C dX4_takeOut_47 (n := 48) rfl rfl ?_
  refine q_getR C dX4_takeOut_48 (n := 51) rfl f_X4_15 h0.1 (hF _ _ _ h0.2.2.2.2.1) ?_
  refine q_iload_n C dX4_takeOut_51 (n := 52) rfl rfl ?_
  refine q_iconst C dX4_takeOut_52 (n := 53) rfl ?_
  refine q_iadd C dX4_takeOut_53 (n := 54) rfl (v := v1 + 1) rfl ?_
  refine q_iald C dX4_takeOut_54 (n := 55) rfl h0.2.2.2.2.2.1 (by omega) (v := M (a + 2) (v1 + 1)) rfl ?_
  refine q_isub C dX4_takeOut_55 (n := 56) rfl (v := (M (a + 2) (M a 3)) - (M (a + 2) (v1 + 1))) rfl ?_
  refine q_copyB C dX4_takeOut_56 (n := 59) rfl x_X4_43 h0.2.2.1 h0.2.2.1 (by omega) (fun j => by have := zI.at hI (h0.2.2.2.1 j); omega) (Nat.le_of_ble_eq_true rfl) (Nat.le_of_ble_eq_true rfl) (fun M5 e6 => ?_)
  have hI7 : zI G M5 := hI.cp e6 h0.2.2.2.1 h0.2.2.2.1 rfl (by omega)
  have hK8 := hK0.cp e6 (by omega)
  refine q_iload_n C dX4_takeOut_59 (n := 60) rfl rfl ?_
  refine q_iconst C dX4_takeOut_60 (n := 61) rfl ?_
  refine q_iadd C dX4_takeOut_61 (n := 62) rfl (v := v1 + 1) rfl ?_
  refine q_istore_n C [.ref (w.2.1 + a), zi v1, zi ((M (a + 2) (v1 + 1)) - (M (a + 2) v1)), zi (v1 + 1)] dX4_takeOut_62 (n := 63) rfl rfl rfl ?_
  have L_18 : ∀ n19 : Nat, ∀ (u9 : Int) (M10 : zMm) (J11 : zJm), zI G M10 → zKr a 4 M M10 → (-2147483648 ≤ u9 ∧ u9 ≤ 2147483647) → (zTk M5 M10 a v1 ((M (a + 2) (v1 + 1)) - (M (a + 2) v1)) u9) → (M10 a 4 = M5 a 4) → (∀ x, M10 (a + 1) x = M5 (a + 1) x) → (42 - u9 ≤ (n19 : Int)) → zK w p e 13 0 0 s m args below meth c 4 T Po 63 [.ref (w.2.1 + a), .null, zi ((M (a + 2) (v1 + 1)) - (M (a + 2) v1)), zi u9] [] (T, M10, J11, R) := by
    intro n19
    induction n19 with
    | zero =>
      intro u9 M10 J11 hI12 hK13 h14 h15 h16 h17 hm21
      exfalso
      have s1 := zTk.size h15
      omega
    | succ n19 ih20 =>
      intro u9 M10 J11 hI12 hK13 h14 h15 h16 h17 hm21
      have s1 := zTk.size h15
      refine q_iload_n C dX4_takeOut_63 (n := 64) rfl rfl ?_
      refine q_aload_n C dX4_takeOut_64 (n := 65) rfl rfl ?_
      have g22 := zI.at hI12 h0.2.2.2.2.2.2.2.2.2.2.1
      refine q_getI C dX4_takeOut_65 (n := 68) rfl f_X4_22 h0.1 (v := M10 a 3) rfl ?_
      refine q_icmp_ge C 93 dX4_takeOut_68 (n := 71) rfl rfl (by omega) (fun h23 => ?_) (fun h23 => ?_)
      · refine q_aload_n C dX4_takeOut_93 (n := 94) rfl rfl ?_
        refine q_dup C dX4_takeOut_94 (n := 95) rfl rfl ?_
        refine q_getI C dX4_takeOut_95 (n := 98) rfl f_X4_22 h0.1 (v := M10 a 3) rfl ?_
        refine q_iconst C dX4_takeOut_98 (n := 99) rfl ?_
        refine q_isub C dX4_takeOut_99 (n := 100) rfl (v := (M10 a 3) - 1) rfl ?_
        refine q_putI C dX4_takeOut_100 (n := 103) rfl f_X4_22 h0.1 ⟨rfl, rfl⟩ (fun M24 (e25 : M24 = zup M10 a 3 ((M10 a 3) - 1)) => ?_)
        have hI26 : zI G M24 := hI12.put e25 h0.2.2.2.2.2.2.2.2.2.2.1 rfl (by omega)
        have hK27 := hK13.put e25 (by omega)
        have s3 := h15.fin (by omega) e25 (by omega)
        refine q_aload_n C dX4_takeOut_103 (n := 104) rfl rfl ?_
        refine q_callVv C dX4_takeOut_104 (n := 107) rfl m_X4_40 v_yX4_mark h0.1 ⟨by decide, rfl⟩ (c_X4_mark_w (w := w) (J := J11) hI26 hF h0) (Nat.le_of_ble_eq_true rfl) rfl rfl (Nat.le_of_ble_eq_true rfl) ⟨Nat.le_refl _, Nat.le_refl _⟩ (fun M34 J35  hI36 h37 => ?_)
        obtain ⟨hk38, h28, h29, h30, h31, h32, h33⟩ := h37
        have hK39 := hK27.tr hk38
        have hz40 : M24 a 3 = (M10 a 3) - 1 := (zup_s e25)
        have hz41 : M24 a 4 = M a 4 := ((zup_n e25 (by omega)).trans ((h16).trans (zcp_p e6 (by omega) _)))
        exact q_vret C dX4_takeOut_107 ⟨rfl, rfl⟩ (by rw [hPo]; exact ⟨M34, J35, rfl, rfl, hI36, hK39, ⟨(s3.cg (h28) (fun i => (h29 i))), h30⟩, (zTko.mk ⟨(zcp_p e6 (by omega) _), (zcp_p e6 (by omega) _), fun i => (zcp_p e6 (by omega) _)⟩ h15 (by omega) (by omega) e25 (by omega) ⟨(h31), (h28), fun i => (h29 i)⟩), (zTb.mk h15 e6 ⟨by omega, by omega, by omega⟩ h17 (by omega) e25 (by omega) ⟨(h28), fun i => (h32 i), fun i => (h29 i)⟩ (fun j => (zI.at hI (h0.2.2.2.2.2.2.1 j)).1)), h33, (zTc.mk h15 (zcp_p e6 (by omega) _) (fun j => (zcp_p e6 (by omega) _)) (by omega) e25 ⟨(h28), fun i => (h32 i), fun i => (h29 i)⟩)⟩)
      · refine q_aload_n C dX4_takeOut_71 (n := 72) rfl rfl ?_
        refine q_getR C dX4_takeOut_72 (n := 75) rfl f_X4_15 h0.1 (hF _ _ _ h0.2.2.2.2.1) ?_
        refine q_iload_n C dX4_takeOut_75 (n := 76) rfl rfl ?_
        refine q_aload_n C dX4_takeOut_76 (n := 77) rfl rfl ?_
        refine q_getR C dX4_takeOut_77 (n := 80) rfl f_X4_15 h0.1 (hF _ _ _ h0.2.2.2.2.1) ?_
        refine q_iload_n C dX4_takeOut_80 (n := 81) rfl rfl ?_
        refine q_iconst C dX4_takeOut_81 (n := 82) rfl ?_
        refine q_iadd C dX4_takeOut_82 (n := 83) rfl (v := u9 + 1) rfl ?_
        have g42 := zI.at hI12 (h0.2.2.2.2.2.2.1 (u9 + 1))
        refine q_iald C dX4_takeOut_83 (n := 84) rfl h0.2.2.2.2.2.1 (by omega) (v := M10 (a + 2) (u9 + 1)) rfl ?_
        refine q_iload_n C dX4_takeOut_84 (n := 85) rfl rfl ?_
        refine q_isub C dX4_takeOut_85 (n := 86) rfl (v := (M10 (a + 2) (u9 + 1)) - ((M (a + 2) (v1 + 1)) - (M (a + 2) v1))) rfl ?_
        have s2 := h15.bound (fun j => zI.at hI7 (h0.2.2.2.2.2.2.1 j)) (by omega)
        refine q_iast C dX4_takeOut_86 (n := 87) rfl h0.2.2.2.2.2.1 (by omega)  (fun M43 e44 => ?_)
        have hI45 : zI G M43 := hI12.put e44 (h0.2.2.2.2.2.2.1 u9) rfl (by omega)
        have hK46 := hK13.put e44 (by omega)
        refine q_iinc C [.ref (w.2.1 + a), .null, zi ((M (a + 2) (v1 + 1)) - (M (a + 2) v1)), zi (u9 + 1)] dX4_takeOut_87 (n := 90) rfl rfl rfl rfl ?_
        refine q_goto C 63 dX4_takeOut_90 rfl ?_
        exact zK.weak (ih20 (u9 + 1) M43 J11 hI45 hK46 (by omega) (h15.step (by omega) e44) (((zup_p e44 (by omega) _)).trans h16) (fun x => ((zup_p e44 (by omega) _)).trans (h17 x)) (by omega)) (zwk_c (zwk_n (zwk_c (zwk_c zwk_e))))
  exact zK.weak (L_18 _ (v1 + 1) M5 J hI7 hK8 (by omega) (zTk.start (p2.1.cg (zcp_p e6 (by omega) _) (fun i => (zcp_p e6 (by omega) _))) (by have h3 : M5 a 3 = M a 3 := (zcp_p e6 (by omega) _); omega) (by have h1 : M5 (a + 2) (v1 + 1) = M (a + 2) (v1 + 1) := (zcp_p e6 (by omega) _); have h2 : M5 (a + 2) v1 = M (a + 2) v1 := (zcp_p e6 (by omega) _); omega) rfl) rfl (fun x => rfl) (Int.self_le_toNat _)) (zwk_c (zwk_n (zwk_c (zwk_c zwk_e))))
theorem c_X4_copy_w {w : zWp} {T : zTl} {M : zMm} {J : zJm} {R : zRm'} {G : zGt} {F : zRm'} {a o : Nat} (hI : zI G M) (hF : zF F R) (h0 : zPage T F G a) (h_oth : zPage T F G o) (p1 : zPr M o) (p2 : o + 4 ≤ a ∨ a + 4 ≤ o) : zCt w 1 0 0 yX4_copy cX4_copy 2 none [.ref (w.2.1 + a), .ref (w.2.1 + o)] (T, M, J, R) (zPv T R G (fun M2 => (zKr a 4 M M2) ∧ (zPr M2 a) ∧ (zPcw M M2 a o) ∧ (zPd M M2 a o))) := by
  refine zCt.of rfl (Nat.le_of_ble_eq_true rfl) ?_
  intro p e s m args below meth c C
  obtain ⟨Po, hPo⟩ : ∃ Po, Po = zPv T R G (fun M2 => (zKr a 4 M M2) ∧ (zPr M2 a) ∧ (zPcw M M2 a o) ∧ (zPd M M2 a o)) := ⟨_, rfl⟩
  rw [← hPo]
  have hK0 : zKr a 4 M M := zKr.rf
  show zK w p e 1 0 0 s m args below meth c 2 T Po 0 [.ref (w.2.1 + a), .ref (w.2.1 + o)] [] (T, M, J, R)
  refine q_aload_n C dX4_copy_0 (n := 1) rfl rfl ?_
  refine q_getR C dX4_copy_1 (n := 4) rfl f_X4_9 h_oth.1 (hF _ _ _ h_oth.2.1) ?_
  refine q_iconst C dX4_copy_4 (n := 5) rfl ?_
  refine q_aload_n C dX4_copy_5 (n := 6) rfl rfl ?_
  refine q_getR C dX4_copy_6 (n := 9) rfl f_X4_9 h0.1 (hF _ _ _ h0.2.1) ?_
  refine q_iconst C dX4_copy_9 (n := 10) rfl ?_
  refine q_sipush C dX4_copy_10 (n := 13) rfl (x := 401) (by decide) ?_
  refine q_copyB C dX4_copy_13 (n := 16) rfl x_X4_43 h_oth.2.2.1 h0.2.2.1 (by omega) (fun j => by have := zI.at hI (h_oth.2.2.2.1 j); omega) (Nat.le_of_ble_eq_true rfl) (Nat.le_of_ble_eq_true rfl) (fun M1 e2 => ?_)
  have hI3 : zI G M1 := hI.cp e2 h_oth.2.2.2.1 h0.2.2.2.1 rfl (by omega)
  have hK4 := hK0.cp e2 (by omega)
  refine q_aload_n C dX4_copy_16 (n := 17) rfl rfl ?_
  refine q_getR C dX4_copy_17 (n := 20) rfl f_X4_15 h_oth.1 (hF _ _ _ h_oth.2.2.2.2.1) ?_
  refine q_iconst C dX4_copy_20 (n := 21) rfl ?_
  refine q_aload_n C dX4_copy_21 (n := 22) rfl rfl ?_
  refine q_getR C dX4_copy_22 (n := 25) rfl f_X4_15 h0.1 (hF _ _ _ h0.2.2.2.2.1) ?_
  refine q_iconst C dX4_copy_25 (n := 26) rfl ?_
  refine q_bipush C dX4_copy_26 (n := 28) rfl (x := 41) (by decide) ?_
  refine q_copyI C dX4_copy_28 (n := 31) rfl x_X4_43 h_oth.2.2.2.2.2.1 h0.2.2.2.2.2.1 (by omega) (Nat.le_of_ble_eq_true rfl) (Nat.le_of_ble_eq_true rfl) (fun M5 e6 => ?_)
  have hI7 : zI G M5 := hI3.cp e6 h_oth.2.2.2.2.2.2.1 h0.2.2.2.2.2.2.1 rfl (by omega)
  have hK8 := hK4.cp e6 (by omega)
  refine q_aload_n C dX4_copy_31 (n := 32) rfl rfl ?_
  refine q_getR C dX4_copy_32 (n := 35) rfl f_X4_19 h_oth.1 (hF _ _ _ h_oth.2.2.2.2.2.2.2.1) ?_
  refine q_iconst C dX4_copy_35 (n := 36) rfl ?_
  refine q_aload_n C dX4_copy_36 (n := 37) rfl rfl ?_
  refine q_getR C dX4_copy_37 (n := 40) rfl f_X4_19 h0.1 (hF _ _ _ h0.2.2.2.2.2.2.2.1) ?_
  refine q_iconst C dX4_copy_40 (n := 41) rfl ?_
  refine q_bipush C dX4_copy_41 (n := 43) rfl (x := 40) (by decide) ?_
  refine q_copyI C dX4_copy_43 (n := 46) rfl x_X4_43 h_oth.2.2.2.2.2.2.2.2.1 h0.2.2.2.2.2.2.2.2.1 (by omega) (Nat.le_of_ble_eq_true rfl) (Nat.le_of_ble_eq_true rfl) (fun M9 e10 => ?_)
  have hI11 : zI G M9 := hI7.cp e10 h_oth.2.2.2.2.2.2.2.2.2.1 h0.2.2.2.2.2.2.2.2.2.1 rfl (by omega)
  have hK12 := hK8.cp e10 (by omega)
  refine q_aload_n C dX4_copy_46 (n := 47) rfl rfl ?_
  refine q_aload_n C dX4_copy_47 (n := 48) rfl rfl ?_
  have g13 := zI.at hI h_oth.2.2.2.2.2.2.2.2.2.2.1
  refine q_getI C dX4_copy_48 (n := 51) rfl f_X4_22 h_oth.1 (v := M o 3) ((zcp_p e10 (by omega) _).trans ((zcp_p e6 (by omega) _).trans (zcp_p e2 (by omega) _))) ?_
  refine q_putI C dX4_copy_51 (n := 54) rfl f_X4_22 h0.1 ⟨rfl, rfl⟩ (fun M14 (e15 : M14 = zup M9 a 3 (M o 3)) => ?_)
  have hI16 : zI G M14 := hI11.put e15 h0.2.2.2.2.2.2.2.2.2.2.1 rfl (by omega)
  have hK17 := hK12.put e15 (by omega)
  refine q_aload_n C dX4_copy_54 (n := 55) rfl rfl ?_
  refine q_aload_n C dX4_copy_55 (n := 56) rfl rfl ?_
  have g18 := zI.at hI h_oth.2.2.2.2.2.2.2.2.2.2.2.1
  refine q_getI C dX4_copy_56 (n := 59) rfl f_X4_26 h_oth.1 (v := M o 4) ((zup_p e15 (by omega) _).trans ((zcp_p e10 (by omega) _).trans ((zcp_p e6 (by omega) _).trans (zcp_p e2 (by omega) _)))) ?_
  refine q_putZ C dX4_copy_59 (n := 62) rfl f_X4_26 h0.1 ⟨rfl, rfl⟩ (by omega) (fun M19 (e20 : M19 = zup M14 a 4 (M o 4)) => ?_)
  have hI21 : zI G M19 := hI16.put e20 h0.2.2.2.2.2.2.2.2.2.2.2.1 rfl (by omega)
  have hK22 := hK17.put e20 (by omega)
  refine q_aload_n C dX4_copy_62 (n := 63) rfl rfl ?_
  refine q_aload_n C dX4_copy_63 (n := 64) rfl rfl ?_
  have g23 := zI.at hI h_oth.2.2.2.2.2.2.2.2.2.2.2.2.1
  refine q_getI C dX4_copy_64 (n := 67) rfl f_X4_30 h_oth.1 (v := M o 5) ((zup_p e20 (by omega) _).trans ((zup_p e15 (by omega) _).trans ((zcp_p e10 (by omega) _).trans ((zcp_p e6 (by omega) _).trans (zcp_p e2 (by omega) _))))) ?_
  refine q_putI C dX4_copy_67 (n := 70) rfl f_X4_30 h0.1 ⟨rfl, rfl⟩ (fun M24 (e25 : M24 = zup M19 a 5 (M o 5)) => ?_)
  have hI26 : zI G M24 := hI21.put e25 h0.2.2.2.2.2.2.2.2.2.2.2.2.1 rfl (by omega)
  have hK27 := hK22.put e25 (by omega)
  refine q_aload_n C dX4_copy_70 (n := 71) rfl rfl ?_
  refine q_aload_n C dX4_copy_71 (n := 72) rfl rfl ?_
  have g28 := zI.at hI h_oth.2.2.2.2.2.2.2.2.2.2.2.2.2
  refine q_getI C dX4_copy_72 (n := 75) rfl f_X4_33 h_oth.1 (v := M o 6) ((zup_p e25 (by omega) _).trans ((zup_p e20 (by omega) _).trans ((zup_p e15 (by omega) _).trans ((zcp_p e10 (by omega) _).trans ((zcp_p e6 (by omega) _).trans (zcp_p e2 (by omega) _)))))) ?_
  refine q_putI C dX4_copy_75 (n := 78) rfl f_X4_33 h0.1 ⟨rfl, rfl⟩ (fun M29 (e30 : M29 = zup M24 a 6 (M o 6)) => ?_)
  have hI31 : zI G M29 := hI26.put e30 h0.2.2.2.2.2.2.2.2.2.2.2.2.2 rfl (by omega)
  have hK32 := hK27.put e30 (by omega)
  exact q_vret C dX4_copy_78 ⟨rfl, rfl⟩ (by rw [hPo]; exact ⟨M29, J, rfl, rfl, hI31, hK32, (p1.copy ((zup_n e30 (by omega)).trans ((zup_n e25 (by omega)).trans ((zup_n e20 (by omega)).trans (zup_s e15)))) ((zup_n e30 (by omega)).trans (zup_s e25)) (zup_s e30) (by omega) (by omega) (fun i i0 i1 => ((zup_p e30 (by omega) _).trans ((zup_p e25 (by omega) _).trans ((zup_p e20 (by omega) _).trans ((zup_p e15 (by omega) _).trans (zcp_p e10 (by omega) _))))).trans ((zcp_at e6 (by omega)).trans (by rw [show (0 : Int) + (i - 0) = i by omega]; exact (zcp_p e2 (by omega) _))))), ⟨((zup_n e30 (by omega)).trans ((zup_n e25 (by omega)).trans (zup_s e20))), ((zup_n e30 (by omega)).trans ((zup_n e25 (by omega)).trans ((zup_n e20 (by omega)).trans (zup_s e15)))), fun i i0 i1 => ((zup_p e30 (by omega) _).trans ((zup_p e25 (by omega) _).trans ((zup_p e20 (by omega) _).trans ((zup_p e15 (by omega) _).trans (zcp_p e10 (by omega) _))))).trans ((zcp_at e6 (by omega)).trans (by rw [show (0 : Int) + (i - 0) = i by omega]; exact (zcp_p e2 (by omega) _)))⟩, ⟨⟨((zup_n e30 (by omega)).trans (zup_s e25)), (zup_s e30)⟩, fun i i0 i1 => ((zup_p e30 (by omega) _).trans ((zup_p e25 (by omega) _).trans ((zup_p e20 (by omega) _).trans ((zup_p e15 (by omega) _).trans ((zcp_p e10 (by omega) _).trans (zcp_p e6 (by omega) _)))))).trans ((zcp_at e2 (by omega)).trans (by rw [show (0 : Int) + (i - 0) = i by omega])), fun i i0 i1 => ((zup_p e30 (by omega) _).trans ((zup_p e25 (by omega) _).trans ((zup_p e20 (by omega) _).trans (zup_p e15 (by omega) _)))).trans ((zcp_at e10 (by omega)).trans (by rw [show (0 : Int) + (i - 0) = i by omega]; exact ((zcp_p e6 (by omega) _).trans (zcp_p e2 (by omega) _))))⟩⟩)
theorem c_X7_copy_w {w : zWp} {T : zTl} {M : zMm} {J : zJm} {R : zRm'} {G : zGt} {F : zRm'} {a o : Nat} (hI : zI G M) (hF : zF F R) (h0 : zSource T F G a) (h_oth : zSource T F G o) (p1 : zSA M o) (p2 : o + 25 ≤ a ∨ a + 25 ≤ o) : zCt w 2 0 0 yX7_copy cX7_copy 3 none [.ref (w.2.1 + a), .ref (w.2.1 + o)] (T, M, J, R) (zPv T R G (fun M2 => (zKr a 25 M M2) ∧ (zSA M2 a) ∧ (zSd M M2 a o 4) ∧ (M2 a 3 = M o 3 ∧ M2 a 4 = M o 4) ∧ (zSe M M2 a o 4))) := by
  refine zCt.of rfl (Nat.le_of_ble_eq_true rfl) ?_
  intro p e s m args below meth c C
  obtain ⟨Po, hPo⟩ : ∃ Po, Po = zPv T R G (fun M2 => (zKr a 25 M M2) ∧ (zSA M2 a) ∧ (zSd M M2 a o 4) ∧ (M2 a 3 = M o 3 ∧ M2 a 4 = M o 4) ∧ (zSe M M2 a o 4)) := ⟨_, rfl⟩
  rw [← hPo]
  have hK0 : zKr a 25 M M := zKr.rf
  show zK w p e 2 0 0 s m args below meth c 3 T Po 0 [.ref (w.2.1 + a), .ref (w.2.1 + o), .null] [] (T, M, J, R)
  refine q_iconst C dX7_copy_0 (n := 1) rfl ?_
  refine q_istore_n C [.ref (w.2.1 + a), .ref (w.2.1 + o), zi 0] dX7_copy_1 (n := 2) rfl rfl rfl ?_
  have L_12 : ∀ n13 : Nat, ∀ (u1 : Int) (M2 : zMm) (J3 : zJm), zI G M2 → zKr a 25 M M2 → (-2147483648 ≤ u1 ∧ u1 ≤ 2147483647) → (0 ≤ u1 ∧ u1 ≤ 4) → (zSB M2 a u1) → (zSA M2 o) → (zSd M M2 a o u1) → (zSe M M2 a o u1) → (4 - u1 + 1 ≤ (n13 : Int)) → zK w p e 2 0 0 s m args below meth c 3 T Po 2 [.ref (w.2.1 + a), .ref (w.2.1 + o), zi u1] [] (T, M2, J3, R) := by
    intro n13
    induction n13 with
    | zero =>
      intro u1 M2 J3 hI4 hK5 h6 h7 h8 h9 h10 h11 hm15
      exfalso
      omega
    | succ n13 ih14 =>
      intro u1 M2 J3 hI4 hK5 h6 h7 h8 h9 h10 h11 hm15
      refine q_iload_n C dX7_copy_2 (n := 3) rfl rfl ?_
      refine q_iconst C dX7_copy_3 (n := 4) rfl ?_
      refine q_icmp_ge C 28 dX7_copy_4 (n := 7) rfl rfl (by omega) (fun h16 => ?_) (fun h16 => ?_)
      · have hsa := zSB.all h8 (by omega)
        have hsd : zSd M M2 a o 4 := fun k k0 k1 => h10 k k0 (by omega)
        have hse : zSe M M2 a o 4 := fun k k0 k1 => h11 k k0 (by omega)
        refine q_iconst C dX7_copy_28 (n := 29) rfl ?_
        refine q_istore_n C [.ref (w.2.1 + a), .ref (w.2.1 + o), zi 0] dX7_copy_29 (n := 30) rfl rfl rfl ?_
        have L_27 : ∀ n28 : Nat, ∀ (u17 : Int) (M18 : zMm) (J19 : zJm), zI G M18 → zKr a 25 M M18 → (-2147483648 ≤ u17 ∧ u17 ≤ 2147483647) → (0 ≤ u17 ∧ u17 ≤ 3) → (zSA M18 a) → (zSd M M18 a o 4) → (zSe M M18 a o 4) → (3 - u17 + 1 ≤ (n28 : Int)) → zK w p e 2 0 0 s m args below meth c 3 T Po 30 [.ref (w.2.1 + a), .ref (w.2.1 + o), zi u17] [] (T, M18, J19, R) := by
          intro n28
          induction n28 with
          | zero =>
            intro u17 M18 J19 hI20 hK21 h22 h23 h24 h25 h26 hm30
            exfalso
            omega
          | succ n28 ih29 =>
            intro u17 M18 J19 hI20 hK21 h22 h23 h24 h25 h26 hm30
            refine q_iload_n C dX7_copy_30 (n := 31) rfl rfl ?_
            refine q_iconst C dX7_copy_31 (n := 32) rfl ?_
            refine q_icmp_ge C 72 dX7_copy_32 (n := 35) rfl rfl (by omega) (fun h31 => ?_) (fun h31 => ?_)
            · refine q_aload_n C dX7_copy_72 (n := 73) rfl rfl ?_
              refine q_aload_n C dX7_copy_73 (n := 74) rfl rfl ?_
              have g32 := zI.at hI h_oth.2.2.2.2.2.2.2.2.2.2.1
              refine q_getI C dX7_copy_74 (n := 77) rfl f_X7_26 h_oth.1 (v := M o 3) (hK21 _ _ (by omega)) ?_
              refine q_putI C dX7_copy_77 (n := 80) rfl f_X7_26 h0.1 ⟨rfl, rfl⟩ (fun M33 (e34 : M33 = zup M18 a 3 (M o 3)) => ?_)
              have hI35 : zI G M33 := hI20.put e34 h0.2.2.2.2.2.2.2.2.2.2.1 rfl (by omega)
              have hK36 := hK21.put e34 (by omega)
              refine q_aload_n C dX7_copy_80 (n := 81) rfl rfl ?_
              refine q_aload_n C dX7_copy_81 (n := 82) rfl rfl ?_
              have g37 := zI.at hI h_oth.2.2.2.2.2.2.2.2.2.2.2.1
              refine q_getI C dX7_copy_82 (n := 85) rfl f_X7_30 h_oth.1 (v := M o 4) ((zup_p e34 (by omega) _).trans (hK21 _ _ (by omega))) ?_
              refine q_putI C dX7_copy_85 (n := 88) rfl f_X7_30 h0.1 ⟨rfl, rfl⟩ (fun M38 (e39 : M38 = zup M33 a 4 (M o 4)) => ?_)
              have hI40 : zI G M38 := hI35.put e39 h0.2.2.2.2.2.2.2.2.2.2.2.1 rfl (by omega)
              have hK41 := hK36.put e39 (by omega)
              exact q_vret C dX7_copy_88 ⟨rfl, rfl⟩ (by rw [hPo]; exact ⟨M38, J19, rfl, rfl, hI40, hK41, (zSA.up (zSA.up h24 e34 (by omega)) e39 (by omega)), (zSd.up (zSd.up h25 e34 (by omega) (by omega)) e39 (by omega) (by omega)), (by have hz42 : M38 a 3 = M o 3 := ((zup_n e39 (by omega)).trans (zup_s e34)); have hz43 : M38 a 4 = M o 4 := (zup_s e39); omega), (zSe.up (zSe.up h26 e34 (by omega) (by omega)) e39 (by omega) (by omega))⟩)
            · refine q_aload_n C dX7_copy_35 (n := 36) rfl rfl ?_
              refine q_getR C dX7_copy_36 (n := 39) rfl f_X7_19 h_oth.1 (hF _ _ _ h_oth.2.2.2.2.1) ?_
              refine q_iload_n C dX7_copy_39 (n := 40) rfl rfl ?_
              refine q_aald7 C dX7_copy_40 (n := 41) rfl h_oth.2.2.2.2.2.1 (by omega) (hF _ _ _ (h_oth.2.2.2.2.2.2.1 u17 (by omega) (by omega)).1) ?_
              refine q_iconst C dX7_copy_41 (n := 42) rfl ?_
              refine q_aload_n C dX7_copy_42 (n := 43) rfl rfl ?_
              refine q_getR C dX7_copy_43 (n := 46) rfl f_X7_19 h0.1 (hF _ _ _ h0.2.2.2.2.1) ?_
              refine q_iload_n C dX7_copy_46 (n := 47) rfl rfl ?_
              refine q_aald7 C dX7_copy_47 (n := 48) rfl h0.2.2.2.2.2.1 (by omega) (hF _ _ _ (h0.2.2.2.2.2.2.1 u17 (by omega) (by omega)).1) ?_
              refine q_iconst C dX7_copy_48 (n := 49) rfl ?_
              refine q_bipush C dX7_copy_49 (n := 51) rfl (x := 30) (by decide) ?_
              refine q_copyB C dX7_copy_51 (n := 54) rfl x_X7_55 (h_oth.2.2.2.2.2.2.1 u17 (by omega) (by omega)).2.1 (h0.2.2.2.2.2.2.1 u17 (by omega) (by omega)).2.1 (by omega) (fun j => by have := zI.at hI20 ((h_oth.2.2.2.2.2.2.1 u17 (by omega) (by omega)).2.2 j); omega) (Nat.le_of_ble_eq_true rfl) (Nat.le_of_ble_eq_true rfl) (fun M44 e45 => ?_)
              have hI46 : zI G M44 := hI20.cp e45 (h_oth.2.2.2.2.2.2.1 u17 (by omega) (by omega)).2.2 (h0.2.2.2.2.2.2.1 u17 (by omega) (by omega)).2.2 rfl (by omega)
              have hK47 := hK21.cp e45 (by omega)
              refine q_aload_n C dX7_copy_54 (n := 55) rfl rfl ?_
              refine q_getR C dX7_copy_55 (n := 58) rfl f_X7_22 h0.1 (hF _ _ _ h0.2.2.2.2.2.2.2.1) ?_
              refine q_iload_n C dX7_copy_58 (n := 59) rfl rfl ?_
              refine q_aload_n C dX7_copy_59 (n := 60) rfl rfl ?_
              refine q_getR C dX7_copy_60 (n := 63) rfl f_X7_22 h_oth.1 (hF _ _ _ h_oth.2.2.2.2.2.2.2.1) ?_
              refine q_iload_n C dX7_copy_63 (n := 64) rfl rfl ?_
              have g48 := zI.at hI46 (h_oth.2.2.2.2.2.2.2.2.2.1 u17)
              refine q_iald C dX7_copy_64 (n := 65) rfl h_oth.2.2.2.2.2.2.2.2.1 (by omega) (v := M44 (o + 6) u17) rfl ?_
              refine q_iast C dX7_copy_65 (n := 66) rfl h0.2.2.2.2.2.2.2.2.1 (by omega)  (fun M49 e50 => ?_)
              have hI51 : zI G M49 := hI46.put e50 (h0.2.2.2.2.2.2.2.2.2.1 u17) rfl (by omega)
              have hK52 := hK47.put e50 (by omega)
              refine q_iinc C [.ref (w.2.1 + a), .ref (w.2.1 + o), zi (u17 + 1)] dX7_copy_66 (n := 69) rfl rfl rfl rfl ?_
              refine q_goto C 30 dX7_copy_69 rfl ?_
              exact zK.weak (ih29 (u17 + 1) M49 J19 hI51 hK52 (by omega) (by omega) (zSA.up (zSA.cp h24 e45 (by omega)) e50 (by omega)) (zSd.up (zSd.cp h25 e45 (by omega) (by omega)) e50 (by omega) (by omega)) (zSe.up (zSe.cp h26 e45 (by omega) (by omega)) e50 (by omega) (by omega)) (by omega)) (zwk_c (zwk_c (zwk_c zwk_e)))
        exact zK.weak (L_27 _ 0 M2 J3 hI4 hK5 (by omega) (by omega) hsa (hsd) (hse) (Int.self_le_toNat _)) (zwk_c (zwk_c (zwk_c zwk_e)))
      · refine q_aload_n C dX7_copy_7 (n := 8) rfl rfl ?_
        refine q_getR C dX7_copy_8 (n := 11) rfl f_X7_11 h0.1 (hF _ _ _ h0.2.1) ?_
        refine q_iload_n C dX7_copy_11 (n := 12) rfl rfl ?_
        refine q_aald C dX7_copy_12 (n := 13) rfl ⟨by decide, by decide⟩ h0.2.2.1 (by omega) (hF _ _ _ (h0.2.2.2.1 u1 (by omega) (by omega)).1) ?_
        refine q_aload_n C dX7_copy_13 (n := 14) rfl rfl ?_
        refine q_getR C dX7_copy_14 (n := 17) rfl f_X7_11 h_oth.1 (hF _ _ _ h_oth.2.1) ?_
        refine q_iload_n C dX7_copy_17 (n := 18) rfl rfl ?_
        refine q_aald C dX7_copy_18 (n := 19) rfl ⟨by decide, by decide⟩ h_oth.2.2.1 (by omega) (hF _ _ _ (h_oth.2.2.2.1 u1 (by omega) (by omega)).1) ?_
        refine q_callVv C dX7_copy_19 (n := 22) rfl m_X7_82 v_yX4_copy (h0.2.2.2.1 u1 (by omega) (by omega)).2.1 ⟨by decide, rfl⟩ (c_X4_copy_w (w := w) (J := J3) hI4 hF (h0.2.2.2.1 u1 (by omega) (by omega)).2 (h_oth.2.2.2.1 u1 (by omega) (by omega)).2 (h9 u1 (by omega) (by omega)) (by omega)) (Nat.le_of_ble_eq_true rfl) rfl rfl (Nat.le_of_ble_eq_true rfl) ⟨Nat.le_refl _, Nat.le_refl _⟩ (fun M56 J57  hI58 h59 => ?_)
        obtain ⟨hk60, h53, h54, h55⟩ := h59
        have hK61 := hK5.tr (zKr.sub hk60 (by omega))
        refine q_iinc C [.ref (w.2.1 + a), .ref (w.2.1 + o), zi (u1 + 1)] dX7_copy_22 (n := 25) rfl rfl rfl rfl ?_
        refine q_goto C 2 dX7_copy_25 rfl ?_
        exact zK.weak (ih14 (u1 + 1) M56 J57 hI58 hK61 (by omega) (by omega) (zSB.pg h8 hk60 (by omega) h53) (zSA.off h9 hk60 (by omega)) (zSd.pg h10 hk60 (by omega) h54 hK5 p2) (zSe.pg h11 hk60 (by omega) h55 hK5 p2) (by omega)) (zwk_c (zwk_c (zwk_c zwk_e)))
  exact zK.weak (L_12 _ 0 M J hI hK0 (by omega) (by omega) (fun j j0 j1 => by omega) p1 (fun k k0 k1 => by omega) (fun k k0 k1 => by omega) (Int.self_le_toNat _)) (zwk_c (zwk_c (zwk_c zwk_e)))
theorem c_X11_file_w {w : zWp} {T : zTl} {M : zMm} {J : zJm} {R : zRm'} {G : zGt} {F : zRm'} {a : Nat} (hI : zI G M) (hF : zF F R) (h0 : zHideSets T F G a) (v1 : Int) (hst : R a 8 = none ∨ ∃ sy, R a 8 = some sy ∧ zStudy T F G sy) (hg30 : ∀ (c : Nat) (k : Int), a ≤ c → c < a + 836 → (G c k).1 < 30) (p1 : -2147483648 ≤ v1 ∧ v1 ≤ 2147483647) (p2 : zCI M a) : zCt w 14 0 0 yX11_file cX11_file 4 (some .int) [.ref (w.2.1 + a), zi v1] (T, M, J, R) (zPi T R G (fun x M2 => (zKp G 30 M M2) ∧ (M2 a 1 = 0) ∧ (∀ j : Int, M2 (a + 28) j = M (a + 28) j) ∧ (zFA (M (a + 1)) (M a 1) v1 x) ∧ (zCI M2 a) ∧ (x < 0 ∧ zOu a 0 0 M M2 ∨ 0 ≤ x ∧ (0 ≤ v1 ∧ v1 ≤ 3) ∧ zNf M2 (a + 2 + 9 + 4 * v1.toNat) (M (a + 1)) (M a 1) x ∧ zOu a (a + 2 + 9 + 4 * v1.toNat) 4 M M2) ∧ (x < 0 ∨ zBe M2 (a + 2 + 9 + 4 * v1.toNat) (M (a + 1)) (M a 1) ∧ zWv M2 (a + 2 + 9 + 4 * v1.toNat)))) := by
  refine zCt.of rfl (Nat.le_of_ble_eq_true rfl) ?_
  intro p e s m args below meth c C
  obtain ⟨Po, hPo⟩ : ∃ Po, Po = zPi T R G (fun x M2 => (zKp G 30 M M2) ∧ (M2 a 1 = 0) ∧ (∀ j : Int, M2 (a + 28) j = M (a + 28) j) ∧ (zFA (M (a + 1)) (M a 1) v1 x) ∧ (zCI M2 a) ∧ (x < 0 ∧ zOu a 0 0 M M2 ∨ 0 ≤ x ∧ (0 ≤ v1 ∧ v1 ≤ 3) ∧ zNf M2 (a + 2 + 9 + 4 * v1.toNat) (M (a + 1)) (M a 1) x ∧ zOu a (a + 2 + 9 + 4 * v1.toNat) 4 M M2) ∧ (x < 0 ∨ zBe M2 (a + 2 + 9 + 4 * v1.toNat) (M (a + 1)) (M a 1) ∧ zWv M2 (a + 2 + 9 + 4 * v1.toNat))) := ⟨_, rfl⟩
  rw [← hPo]
  have hK0 : zKp G 30 M M := zKp.rf
  show zK w p e 14 0 0 s m args below meth c 4 T Po 0 [.ref (w.2.1 + a), zi v1, .null, .null] [] (T, M, J, R)
  refine q_aload_n C dX11_file_0 (n := 1) rfl rfl ?_
  refine q_callVi C dX11_file_1 (n := 4) rfl m_X11_54 v_yX11_takeTape h0.1 ⟨by decide, rfl⟩ (c_X11_takeTape (w := w) (J := J) hI hF h0) (Nat.le_of_ble_eq_true rfl) rfl rfl (Nat.le_of_ble_eq_true rfl) ⟨Nat.le_refl _, Nat.le_refl _⟩ (fun x9 M5 J6  hI7 h8 => ?_)
  obtain ⟨hk10, h1, h2, h3, h4⟩ := h8
  have hK11 := hK0.tr hk10 (by decide)
  refine q_istore_n C [.ref (w.2.1 + a), zi v1, zi x9, .null] dX11_file_4 (n := 5) rfl rfl rfl ?_
  refine q_iload_n C dX11_file_5 (n := 6) rfl rfl ?_
  refine q_if_lt C 14 dX11_file_6 (n := 9) rfl rfl (by omega) (fun h12 => ?_) (fun h12 => ?_)
  · refine q_bipush C dX11_file_14 (n := 16) rfl (x := (-2)) (by decide) ?_
    have hci13 : zCI M5 a := (zCI.kp p2 h0 hk10 (by decide))
    exact q_iret C dX11_file_16 ⟨rfl, rfl⟩ (by rw [hPo]; exact ⟨(-2), M5, J6, rfl, rfl, hI7, hK11, (by have hz : M5 a 1 = M5 a 1 := rfl; omega), (fun j => (hk10 _ _ (zle_t (h0.2.2.2.2.2.2.2.2.2.2.2.2.1 j) (by decide)))), (Or.inl ⟨by omega, rfl⟩), hci13, (Or.inl ⟨by omega, (zOu.kp (zOu.rf (r := 0) (n := 0)) h0 hk10 (by decide))⟩), (Or.inl (by omega))⟩)
  · refine q_iload_n C dX11_file_9 (n := 10) rfl rfl ?_
    refine q_iconst C dX11_file_10 (n := 11) rfl ?_
    refine q_icmp_lt C 17 dX11_file_11 (n := 14) rfl rfl (by omega) (fun h14 => ?_) (fun h14 => ?_)
    · refine q_iload_n C dX11_file_17 (n := 18) rfl rfl ?_
      refine q_sipush C dX11_file_18 (n := 21) rfl (x := 400) (by decide) ?_
      refine q_icmp_le C 27 dX11_file_21 (n := 24) rfl rfl (by omega) (fun h15 => ?_) (fun h15 => ?_)
      · refine q_aload_n C dX11_file_27 (n := 28) rfl rfl ?_
        refine q_iload_n C dX11_file_28 (n := 29) rfl rfl ?_
        refine q_bipush C dX11_file_29 (n := 31) rfl (x := 10) (by decide) ?_
        refine q_callVp C dX11_file_31 (n := 34) rfl m_X11_58 v_yX11_wrongByte h0.1 ⟨by decide, rfl⟩ (c_X11_wrongByte (w := w) (J := J6) hI7 hF h0 x9 10 (by omega) (by omega)) (Nat.le_of_ble_eq_true rfl) rfl rfl (Nat.le_of_ble_eq_true rfl) ⟨Nat.le_refl _, Nat.le_refl _⟩ (fun x18 h19 => ?_)
        obtain ⟨h16, h17⟩ := h19
        refine q_istore_n C [.ref (w.2.1 + a), zi v1, zi x9, zi x18] dX11_file_34 (n := 35) rfl rfl rfl ?_
        refine q_iload_n C dX11_file_35 (n := 36) rfl rfl ?_
        refine q_iconst C dX11_file_36 (n := 37) rfl ?_
        refine q_icmp_eq C 46 dX11_file_37 (n := 40) rfl rfl (by omega) (fun h20 => ?_) (fun h20 => ?_)
        · refine q_aload_n C dX11_file_46 (n := 47) rfl rfl ?_
          refine q_iload_n C dX11_file_47 (n := 48) rfl rfl ?_
          refine q_callVp C dX11_file_48 (n := 51) rfl m_X11_62 v_yX11_linesOnTape h0.1 ⟨by decide, rfl⟩ (c_X11_linesOnTape (w := w) (J := J6) hI7 hF h0 x9 (by omega)) (Nat.le_of_ble_eq_true rfl) rfl rfl (Nat.le_of_ble_eq_true rfl) ⟨Nat.le_refl _, Nat.le_refl _⟩ (fun x23 h24 => ?_)
          obtain ⟨h21, h22⟩ := h24
          refine q_bipush C dX11_file_51 (n := 53) rfl (x := 40) (by decide) ?_
          refine q_icmp_le C 59 dX11_file_53 (n := 56) rfl rfl (by omega) (fun h25 => ?_) (fun h25 => ?_)
          · refine q_aload_n C dX11_file_59 (n := 60) rfl rfl ?_
            refine q_getR C dX11_file_60 (n := 63) rfl f_X11_20 h0.1 (hF _ _ _ h0.2.2.2.2.2.1) ?_
            refine q_getR C dX11_file_63 (n := 66) rfl f_X11_66 h0.2.2.2.2.2.2.1.1 (hF _ _ _ h0.2.2.2.2.2.2.1.2.1) ?_
            refine q_iload_n C dX11_file_66 (n := 67) rfl rfl ?_
            refine q_aald C dX11_file_67 (n := 68) rfl ⟨by decide, by decide⟩ h0.2.2.2.2.2.2.1.2.2.1 (by omega) (hF _ _ _ (h0.2.2.2.2.2.2.1.2.2.2.1 v1 (by omega) (by omega)).1) ?_
            refine q_aload_n C dX11_file_68 (n := 69) rfl rfl ?_
            refine q_getR C dX11_file_69 (n := 72) rfl f_X11_9 h0.1 (hF _ _ _ h0.2.1) ?_
            refine q_iload_n C dX11_file_72 (n := 73) rfl rfl ?_
            have hci26 : zCI M5 a := (zCI.kp p2 h0 hk10 (by decide))
            refine q_callVv C dX11_file_73 (n := 76) rfl m_X11_70 v_yX4_read (h0.2.2.2.2.2.2.1.2.2.2.1 v1 (by omega) (by omega)).2.1 ⟨by decide, rfl⟩ (c_X4_read_w (w := w) (J := J6) hI7 hF (h0.2.2.2.2.2.2.1.2.2.2.1 v1 (by omega) (by omega)).2 h0.2.2.1 h0.2.2.2.1 x9 (by omega) (by omega) ((hci26).1 v1 (by omega) (by omega)).1 (by omega)) (Nat.le_of_ble_eq_true rfl) rfl rfl (Nat.le_of_ble_eq_true rfl) ⟨Nat.le_refl _, Nat.le_refl _⟩ (fun M33 J34  hI35 h36 => ?_)
            obtain ⟨hk37, h27, h28, h29, h30, h31, h32⟩ := h36
            have hK38 := hK11.tr (zKp.ofr hk37 (fun c k h1 h2 => hg30 c k (by omega) (by omega))) (by decide)
            refine q_aload_n C dX11_file_76 (n := 77) rfl rfl ?_
            refine q_callVv C dX11_file_77 (n := 80) rfl m_X11_76 v_yX11_forgetStudy h0.1 ⟨by decide, rfl⟩ (c_X11_forgetStudy (w := w) (J := J34) hI35 hF h0 (by assumption)) (Nat.le_of_ble_eq_true rfl) rfl rfl (Nat.le_of_ble_eq_true rfl) ⟨Nat.le_refl _, Nat.le_refl _⟩ (fun M39 J40  hI41 h42 => ?_)
            have hK44 := hK38.tr h42 (by decide)
            refine q_aload_n C dX11_file_80 (n := 81) rfl rfl ?_
            refine q_getR C dX11_file_81 (n := 84) rfl f_X11_20 h0.1 (hF _ _ _ h0.2.2.2.2.2.1) ?_
            refine q_getR C dX11_file_84 (n := 87) rfl f_X11_66 h0.2.2.2.2.2.2.1.1 (hF _ _ _ h0.2.2.2.2.2.2.1.2.1) ?_
            refine q_iload_n C dX11_file_87 (n := 88) rfl rfl ?_
            refine q_aald C dX11_file_88 (n := 89) rfl ⟨by decide, by decide⟩ h0.2.2.2.2.2.2.1.2.2.1 (by omega) (hF _ _ _ (h0.2.2.2.2.2.2.1.2.2.2.1 v1 (by omega) (by omega)).1) ?_
            have g45 := zI.at hI35 (h0.2.2.2.2.2.2.1.2.2.2.1 v1 (by omega) (by omega)).2.2.2.2.2.2.2.2.2.2.2.1
            refine q_getI C dX11_file_89 (n := 92) rfl f_X11_79 (h0.2.2.2.2.2.2.1.2.2.2.1 v1 (by omega) (by omega)).2.1 (v := M33 (a + 2 + 9 + 4 * (v1 : Int).toNat) 3) (h42 _ _ (zle_t (h0.2.2.2.2.2.2.1.2.2.2.1 v1 (by omega) (by omega)).2.2.2.2.2.2.2.2.2.2.2.1 (by decide))) ?_
            have hci46 : zCI M39 a := (zCI.kp (zCI.pg (k := v1) hci26 hk37 (by omega) h27) h0 h42 (by decide))
            exact q_iret C dX11_file_92 ⟨rfl, rfl⟩ (by rw [hPo]; exact ⟨M33 (a + 2 + 9 + 4 * (v1 : Int).toNat) 3, M39, J40, rfl, rfl, hI41, hK44, (by have hz : M39 a 1 = M5 a 1 := ((h42 _ _ (zle_t h0.2.2.2.2.1 (by decide))).trans (hk37 _ _ (by omega))); omega), (fun j => ((h42 _ _ (zle_t (h0.2.2.2.2.2.2.2.2.2.2.2.2.1 j) (by decide))).trans ((hk37 _ _ (by omega)).trans (hk10 _ _ (zle_t (h0.2.2.2.2.2.2.2.2.2.2.2.2.1 j) (by decide)))))), (zFA.d (by omega) (by omega) (zWb.cg h17 (fun j => (h4 j)) (by omega) rfl) (by omega) (zLi.cg (g := M5 (a + 1)) (l := M33 (a + 2 + 9 + 4 * (v1 : Int).toNat) 3) h28 (fun j => (h4 j)) (by omega)) (Or.inr ⟨by omega, rfl⟩)), hci46, (Or.inr ⟨by omega, by omega, zNf.mk h29 rfl h30 (zSmw.ofo (q := v1) (zOu.kp (zOu.rf (r := 0) (n := 0)) h0 h42 (by decide)) (by omega) (by omega) (Or.inr (by omega))) (fun j => (h4 j)) (by omega), (zOu.kp (zOu.rg (zOu.kp (zOu.rf (r := a + 2 + 9 + 4 * v1.toNat) (n := 4)) h0 hk10 (by decide)) hk37 (by omega)) h0 h42 (by decide))⟩), (Or.inr ⟨zBe.cg h31 (zSw.ofo (q := v1) (zOu.kp (zOu.rf (r := 0) (n := 0)) h0 h42 (by decide)) (Or.inl rfl) (by omega) (Or.inr (by omega))).1 (fun j => (h4 j)) (by omega), zWv.cg h32 (zSw.ofo (q := v1) (zOu.kp (zOu.rf (r := 0) (n := 0)) h0 h42 (by decide)) (Or.inl rfl) (by omega) (Or.inr (by omega))).1 (zSw.ofo (q := v1) (zOu.kp (zOu.rf (r := 0) (n := 0)) h0 h42 (by decide)) (Or.inl rfl) (by omega) (Or.inr (by omega))).2.2⟩)⟩)
          · refine q_bipush C dX11_file_56 (n := 58) rfl (x := (-3)) (by decide) ?_
            have hci47 : zCI M5 a := (zCI.kp p2 h0 hk10 (by decide))
            exact q_iret C dX11_file_58 ⟨rfl, rfl⟩ (by rw [hPo]; exact ⟨(-3), M5, J6, rfl, rfl, hI7, hK11, (by have hz : M5 a 1 = M5 a 1 := rfl; omega), (fun j => (hk10 _ _ (zle_t (h0.2.2.2.2.2.2.2.2.2.2.2.2.1 j) (by decide)))), (zFA.d (by omega) (by omega) (zWb.cg h17 (fun j => (h4 j)) (by omega) rfl) (by omega) (zLi.cg (g := M5 (a + 1)) (l := x23) h22 (fun j => (h4 j)) (by omega)) (Or.inl ⟨by omega, rfl⟩)), hci47, (Or.inl ⟨by omega, (zOu.kp (zOu.rf (r := 0) (n := 0)) h0 hk10 (by decide))⟩), (Or.inl (by omega))⟩)
        · refine q_sipush C dX11_file_40 (n := 43) rfl (x := (-1000)) (by decide) ?_
          refine q_iload_n C dX11_file_43 (n := 44) rfl rfl ?_
          refine q_isub C dX11_file_44 (n := 45) rfl (v := (-1000) - x18) rfl ?_
          have hci48 : zCI M5 a := (zCI.kp p2 h0 hk10 (by decide))
          exact q_iret C dX11_file_45 ⟨rfl, rfl⟩ (by rw [hPo]; exact ⟨(-1000) - x18, M5, J6, rfl, rfl, hI7, hK11, (by have hz : M5 a 1 = M5 a 1 := rfl; omega), (fun j => (hk10 _ _ (zle_t (h0.2.2.2.2.2.2.2.2.2.2.2.2.1 j) (by decide)))), (zFA.c (by omega) (by omega) (zWb.cg h17 (fun j => (h4 j)) (by omega) rfl) ⟨by omega, by omega⟩), hci48, (Or.inl ⟨by omega, (zOu.kp (zOu.rf (r := 0) (n := 0)) h0 hk10 (by decide))⟩), (Or.inl (by omega))⟩)
      · refine q_bipush C dX11_file_24 (n := 26) rfl (x := (-3)) (by decide) ?_
        have hci49 : zCI M5 a := (zCI.kp p2 h0 hk10 (by decide))
        exact q_iret C dX11_file_26 ⟨rfl, rfl⟩ (by rw [hPo]; exact ⟨(-3), M5, J6, rfl, rfl, hI7, hK11, (by have hz : M5 a 1 = M5 a 1 := rfl; omega), (fun j => (hk10 _ _ (zle_t (h0.2.2.2.2.2.2.2.2.2.2.2.2.1 j) (by decide)))), (Or.inr ⟨by omega, Or.inl ⟨by omega, rfl⟩⟩), hci49, (Or.inl ⟨by omega, (zOu.kp (zOu.rf (r := 0) (n := 0)) h0 hk10 (by decide))⟩), (Or.inl (by omega))⟩)
    · refine q_bipush C dX11_file_14 (n := 16) rfl (x := (-2)) (by decide) ?_
      have hci50 : zCI M5 a := (zCI.kp p2 h0 hk10 (by decide))
      exact q_iret C dX11_file_16 ⟨rfl, rfl⟩ (by rw [hPo]; exact ⟨(-2), M5, J6, rfl, rfl, hI7, hK11, (by have hz : M5 a 1 = M5 a 1 := rfl; omega), (fun j => (hk10 _ _ (zle_t (h0.2.2.2.2.2.2.2.2.2.2.2.2.1 j) (by decide)))), (Or.inl ⟨by omega, rfl⟩), hci50, (Or.inl ⟨by omega, (zOu.kp (zOu.rf (r := 0) (n := 0)) h0 hk10 (by decide))⟩), (Or.inl (by omega))⟩)
theorem c_X11_edit_w {w : zWp} {T : zTl} {M : zMm} {J : zJm} {R : zRm'} {G : zGt} {F : zRm'} {a : Nat} (hI : zI G M) (hF : zF F R) (h0 : zHideSets T F G a) (v1 : Int) (v2 : Int) (hst : R a 8 = none ∨ ∃ sy, R a 8 = some sy ∧ zStudy T F G sy) (hg30 : ∀ (c : Nat) (k : Int), a ≤ c → c < a + 836 → (G c k).1 < 30) (p1 : -2147483648 ≤ v1 ∧ v1 ≤ 2147483647) (p2 : -2147483648 ≤ v2 ∧ v2 ≤ 2147483647) (p3 : zCI M a) : zCt w 14 0 0 yX11_edit cX11_edit 5 (some .int) [.ref (w.2.1 + a), zi v1, zi v2] (T, M, J, R) (zPi T R G (fun x M2 => (zKp G 30 M M2) ∧ (M2 a 1 = 0) ∧ (∀ j : Int, M2 (a + 28) j = M (a + 28) j) ∧ (zCI M2 a) ∧ (zEA (M (a + 1)) (M a 1) (0 ≤ v1 ∧ v1 ≤ 3 ∧ M (a + 2 + 9 + 4 * v1.toNat) 4 = 1) v2 (M (a + 2 + 9 + 4 * v1.toNat) 3) (M (a + 2 + 9 + 4 * v1.toNat + 2) (M (a + 2 + 9 + 4 * v1.toNat) 3)) (M (a + 2 + 9 + 4 * v1.toNat + 2) (v2 + 1) - M (a + 2 + 9 + 4 * v1.toNat + 2) v2) x) ∧ (x < 0 ∧ zOu a 0 0 M M2 ∨ 0 ≤ x ∧ (0 ≤ v1 ∧ v1 ≤ 3 ∧ M (a + 2 + 9 + 4 * v1.toNat) 4 = 1) ∧ zChg M M2 (a + 2 + 9 + 4 * v1.toNat) v2 (M a 1) ∧ zOu a (a + 2 + 9 + 4 * v1.toNat) 4 M M2) ∧ (x < 0 ∨ zEb M M2 (a + 2 + 9 + 4 * v1.toNat) v2 (M a 1) (M (a + 1)) ∧ zWv M2 (a + 2 + 9 + 4 * v1.toNat) ∧ zEc M M2 (a + 2 + 9 + 4 * v1.toNat) v2 (M a 1)))) := by
  refine zCt.of rfl (Nat.le_of_ble_eq_true rfl) ?_
  intro p e s m args below meth c C
  obtain ⟨Po, hPo⟩ : ∃ Po, Po = zPi T R G (fun x M2 => (zKp G 30 M M2) ∧ (M2 a 1 = 0) ∧ (∀ j : Int, M2 (a + 28) j = M (a + 28) j) ∧ (zCI M2 a) ∧ (zEA (M (a + 1)) (M a 1) (0 ≤ v1 ∧ v1 ≤ 3 ∧ M (a + 2 + 9 + 4 * v1.toNat) 4 = 1) v2 (M (a + 2 + 9 + 4 * v1.toNat) 3) (M (a + 2 + 9 + 4 * v1.toNat + 2) (M (a + 2 + 9 + 4 * v1.toNat) 3)) (M (a + 2 + 9 + 4 * v1.toNat + 2) (v2 + 1) - M (a + 2 + 9 + 4 * v1.toNat + 2) v2) x) ∧ (x < 0 ∧ zOu a 0 0 M M2 ∨ 0 ≤ x ∧ (0 ≤ v1 ∧ v1 ≤ 3 ∧ M (a + 2 + 9 + 4 * v1.toNat) 4 = 1) ∧ zChg M M2 (a + 2 + 9 + 4 * v1.toNat) v2 (M a 1) ∧ zOu a (a + 2 + 9 + 4 * v1.toNat) 4 M M2) ∧ (x < 0 ∨ zEb M M2 (a + 2 + 9 + 4 * v1.toNat) v2 (M a 1) (M (a + 1)) ∧ zWv M2 (a + 2 + 9 + 4 * v1.toNat) ∧ zEc M M2 (a + 2 + 9 + 4 * v1.toNat) v2 (M a 1))) := ⟨_, rfl⟩
  rw [← hPo]
  have hK0 : zKp G 30 M M := zKp.rf
  show zK w p e 14 0 0 s m args below meth c 5 T Po 0 [.ref (w.2.1 + a), zi v1, zi v2, .null, .null] [] (T, M, J, R)
  refine q_aload_n C dX11_edit_0 (n := 1) rfl rfl ?_
  refine q_callVi C dX11_edit_1 (n := 4) rfl m_X11_54 v_yX11_takeTape h0.1 ⟨by decide, rfl⟩ (c_X11_takeTape (w := w) (J := J) hI hF h0) (Nat.le_of_ble_eq_true rfl) rfl rfl (Nat.le_of_ble_eq_true rfl) ⟨Nat.le_refl _, Nat.le_refl _⟩ (fun x9 M5 J6  hI7 h8 => ?_)
  obtain ⟨hk10, h1, h2, h3, h4⟩ := h8
  have hK11 := hK0.tr hk10 (by decide)
  refine q_istore_n C [.ref (w.2.1 + a), zi v1, zi v2, zi x9, .null] dX11_edit_4 (n := 5) rfl rfl rfl ?_
  refine q_aload_n C dX11_edit_5 (n := 6) rfl rfl ?_
  refine q_getR C dX11_edit_6 (n := 9) rfl f_X11_20 h0.1 (hF _ _ _ h0.2.2.2.2.2.1) ?_
  refine q_iload_n C dX11_edit_9 (n := 10) rfl rfl ?_
  refine q_callVp C dX11_edit_10 (n := 13) rfl m_X11_99 v_yX7_hasFile h0.2.2.2.2.2.2.1.1 ⟨by decide, rfl⟩ (c_X7_hasFile_e (w := w) (J := J6) hI7 hF h0.2.2.2.2.2.2.1 v1 (by omega)) (Nat.le_of_ble_eq_true rfl) rfl rfl (Nat.le_of_ble_eq_true rfl) ⟨Nat.le_refl _, Nat.le_refl _⟩ (fun x14 h15 => ?_)
  obtain ⟨h12, h13⟩ := h15
  have hsf16 : 0 ≤ v1 ∧ v1 ≤ 3 → zSmw M M5 (a + 2 + 9 + 4 * v1.toNat) := fun h => (zSmw.ofo (q := v1) (zOu.kp (zOu.rf (r := 0) (n := 0)) h0 hk10 (by decide)) (by omega) (by omega) (Or.inr (by omega)))
  have hsf17 : 0 ≤ v1 ∧ v1 ≤ 3 → M5 (a + 2 + 9 + 4 * v1.toNat) 4 = M (a + 2 + 9 + 4 * v1.toNat) 4 ∧ M5 (a + 2 + 9 + 4 * v1.toNat) 3 = M (a + 2 + 9 + 4 * v1.toNat) 3 := fun h => ⟨(hsf16 h).1, (hsf16 h).2.1⟩
  refine q_if_eq C 36 dX11_edit_13 (n := 16) rfl rfl (by omega) (fun h18 => ?_) (fun h18 => ?_)
  · refine q_bipush C dX11_edit_36 (n := 38) rfl (x := (-2)) (by decide) ?_
    have hci19 : zCI M5 a := (zCI.kp p3 h0 hk10 (by decide))
    exact q_iret C dX11_edit_38 ⟨rfl, rfl⟩ (by rw [hPo]; exact ⟨(-2), M5, J6, rfl, rfl, hI7, hK11, (by have hz : M5 a 1 = M5 a 1 := rfl; omega), (fun j => (hk10 _ _ (zle_t (h0.2.2.2.2.2.2.2.2.2.2.2.2.1 j) (by decide)))), hci19, (Or.inl ⟨by omega, rfl⟩), (Or.inl ⟨by omega, (zOu.kp (zOu.rf (r := 0) (n := 0)) h0 hk10 (by decide))⟩), (Or.inl (by omega))⟩)
  · refine q_iload_n C dX11_edit_16 (n := 17) rfl rfl ?_
    refine q_if_lt C 36 dX11_edit_17 (n := 20) rfl rfl (by omega) (fun h20 => ?_) (fun h20 => ?_)
    · refine q_bipush C dX11_edit_36 (n := 38) rfl (x := (-2)) (by decide) ?_
      have hci21 : zCI M5 a := (zCI.kp p3 h0 hk10 (by decide))
      exact q_iret C dX11_edit_38 ⟨rfl, rfl⟩ (by rw [hPo]; exact ⟨(-2), M5, J6, rfl, rfl, hI7, hK11, (by have hz : M5 a 1 = M5 a 1 := rfl; omega), (fun j => (hk10 _ _ (zle_t (h0.2.2.2.2.2.2.2.2.2.2.2.2.1 j) (by decide)))), hci21, (Or.inl ⟨by omega, rfl⟩), (Or.inl ⟨by omega, (zOu.kp (zOu.rf (r := 0) (n := 0)) h0 hk10 (by decide))⟩), (Or.inl (by omega))⟩)
    · refine q_iload_n C dX11_edit_20 (n := 21) rfl rfl ?_
      refine q_aload_n C dX11_edit_21 (n := 22) rfl rfl ?_
      refine q_getR C dX11_edit_22 (n := 25) rfl f_X11_20 h0.1 (hF _ _ _ h0.2.2.2.2.2.1) ?_
      refine q_getR C dX11_edit_25 (n := 28) rfl f_X11_66 h0.2.2.2.2.2.2.1.1 (hF _ _ _ h0.2.2.2.2.2.2.1.2.1) ?_
      refine q_iload_n C dX11_edit_28 (n := 29) rfl rfl ?_
      refine q_aald C dX11_edit_29 (n := 30) rfl ⟨by decide, by decide⟩ h0.2.2.2.2.2.2.1.2.2.1 (by omega) (hF _ _ _ (h0.2.2.2.2.2.2.1.2.2.2.1 v1 (by omega) (by omega)).1) ?_
      have g22 := zI.at hI (h0.2.2.2.2.2.2.1.2.2.2.1 v1 (by omega) (by omega)).2.2.2.2.2.2.2.2.2.2.2.1
      refine q_getI C dX11_edit_30 (n := 33) rfl f_X11_79 (h0.2.2.2.2.2.2.1.2.2.2.1 v1 (by omega) (by omega)).2.1 (v := M (a + 2 + 9 + 4 * (v1 : Int).toNat) 3) (hk10 _ _ (zle_t (h0.2.2.2.2.2.2.1.2.2.2.1 v1 (by omega) (by omega)).2.2.2.2.2.2.2.2.2.2.2.1 (by decide))) ?_
      refine q_icmp_le C 39 dX11_edit_33 (n := 36) rfl rfl (by omega) (fun h23 => ?_) (fun h23 => ?_)
      · refine q_aload_n C dX11_edit_39 (n := 40) rfl rfl ?_
        refine q_iload_n C dX11_edit_40 (n := 41) rfl rfl ?_
        refine q_bipush C dX11_edit_41 (n := 43) rfl (x := 32) (by decide) ?_
        refine q_callVp C dX11_edit_43 (n := 46) rfl m_X11_58 v_yX11_wrongByte h0.1 ⟨by decide, rfl⟩ (c_X11_wrongByte (w := w) (J := J6) hI7 hF h0 x9 32 (by omega) (by omega)) (Nat.le_of_ble_eq_true rfl) rfl rfl (Nat.le_of_ble_eq_true rfl) ⟨Nat.le_refl _, Nat.le_refl _⟩ (fun x26 h27 => ?_)
        obtain ⟨h24, h25⟩ := h27
        refine q_istore C [.ref (w.2.1 + a), zi v1, zi v2, zi x9, zi x26] dX11_edit_46 (n := 48) rfl rfl rfl ?_
        refine q_iload C dX11_edit_48 (n := 50) rfl rfl ?_
        refine q_iconst C dX11_edit_50 (n := 51) rfl ?_
        refine q_icmp_eq C 61 dX11_edit_51 (n := 54) rfl rfl (by omega) (fun h28 => ?_) (fun h28 => ?_)
        · refine q_aload_n C dX11_edit_61 (n := 62) rfl rfl ?_
          refine q_getR C dX11_edit_62 (n := 65) rfl f_X11_20 h0.1 (hF _ _ _ h0.2.2.2.2.2.1) ?_
          refine q_getR C dX11_edit_65 (n := 68) rfl f_X11_66 h0.2.2.2.2.2.2.1.1 (hF _ _ _ h0.2.2.2.2.2.2.1.2.1) ?_
          refine q_iload_n C dX11_edit_68 (n := 69) rfl rfl ?_
          refine q_aald C dX11_edit_69 (n := 70) rfl ⟨by decide, by decide⟩ h0.2.2.2.2.2.2.1.2.2.1 (by omega) (hF _ _ _ (h0.2.2.2.2.2.2.1.2.2.2.1 v1 (by omega) (by omega)).1) ?_
          refine q_iload_n C dX11_edit_70 (n := 71) rfl rfl ?_
          refine q_aload_n C dX11_edit_71 (n := 72) rfl rfl ?_
          refine q_getR C dX11_edit_72 (n := 75) rfl f_X11_9 h0.1 (hF _ _ _ h0.2.1) ?_
          refine q_iload_n C dX11_edit_75 (n := 76) rfl rfl ?_
          have hci29 : zCI M5 a := (zCI.kp p3 h0 hk10 (by decide))
          refine q_callVi C dX11_edit_76 (n := 79) rfl m_X11_255 v_yX4_change (h0.2.2.2.2.2.2.1.2.2.2.1 v1 (by omega) (by omega)).2.1 ⟨by decide, rfl⟩ (c_X4_change_w (w := w) (J := J6) hI7 hF (h0.2.2.2.2.2.2.1.2.2.2.1 v1 (by omega) (by omega)).2 v2 h0.2.2.1 h0.2.2.2.1 x9 (by have hz : M5 (a + 2 + 9 + 4 * v1.toNat) 3 = M (a + 2 + 9 + 4 * v1.toNat) 3 := (hk10 _ _ (zle_t (h0.2.2.2.2.2.2.1.2.2.2.1 v1 (by omega) (by omega)).2.2.2.2.2.2.2.2.2.2.2.1 (by decide))); omega) (by omega) (by omega) ((hci29).1 v1 (by omega) (by omega))) (Nat.le_of_ble_eq_true rfl) rfl rfl (Nat.le_of_ble_eq_true rfl) ⟨Nat.le_refl _, Nat.le_refl _⟩ (fun x42 M38 J39  hI40 h41 => ?_)
          obtain ⟨hk43, h30, h31, h32, h33, h34, h35, h36, h37⟩ := h41
          have hK44 := hK11.tr (zKp.ofr hk43 (fun c k h1 h2 => hg30 c k (by omega) (by omega))) (by decide)
          replace h32 := zHide h32
          replace h34 := zHide h34
          replace h35 := zHide h35
          replace h36 := zHide h36
          replace h37 := zHide h37
          refine q_if_ne C 85 dX11_edit_79 (n := 82) rfl rfl (by omega) (fun h45 => ?_) (fun h45 => ?_)
          · refine q_aload_n C dX11_edit_85 (n := 86) rfl rfl ?_
            refine q_callVv C dX11_edit_86 (n := 89) rfl m_X11_76 v_yX11_forgetStudy h0.1 ⟨by decide, rfl⟩ (c_X11_forgetStudy (w := w) (J := J39) hI40 hF h0 (by assumption)) (Nat.le_of_ble_eq_true rfl) rfl rfl (Nat.le_of_ble_eq_true rfl) ⟨Nat.le_refl _, Nat.le_refl _⟩ (fun M46 J47  hI48 h49 => ?_)
            have hK51 := hK44.tr h49 (by decide)
            refine q_aload_n C dX11_edit_89 (n := 90) rfl rfl ?_
            refine q_getR C dX11_edit_90 (n := 93) rfl f_X11_20 h0.1 (hF _ _ _ h0.2.2.2.2.2.1) ?_
            refine q_getR C dX11_edit_93 (n := 96) rfl f_X11_66 h0.2.2.2.2.2.2.1.1 (hF _ _ _ h0.2.2.2.2.2.2.1.2.1) ?_
            refine q_iload_n C dX11_edit_96 (n := 97) rfl rfl ?_
            refine q_aald C dX11_edit_97 (n := 98) rfl ⟨by decide, by decide⟩ h0.2.2.2.2.2.2.1.2.2.1 (by omega) (hF _ _ _ (h0.2.2.2.2.2.2.1.2.2.2.1 v1 (by omega) (by omega)).1) ?_
            have g52 := zI.at hI40 (h0.2.2.2.2.2.2.1.2.2.2.1 v1 (by omega) (by omega)).2.2.2.2.2.2.2.2.2.2.2.1
            refine q_getI C dX11_edit_98 (n := 101) rfl f_X11_79 (h0.2.2.2.2.2.2.1.2.2.2.1 v1 (by omega) (by omega)).2.1 (v := M38 (a + 2 + 9 + 4 * (v1 : Int).toNat) 3) (h49 _ _ (zle_t (h0.2.2.2.2.2.2.1.2.2.2.1 v1 (by omega) (by omega)).2.2.2.2.2.2.2.2.2.2.2.1 (by decide))) ?_
            have hci53 : zCI M46 a := (zCI.kp (zCI.pg (k := v1) hci29 hk43 (by omega) h31) h0 h49 (by decide))
            have hx54 := zChx.cg (n2 := M a 1) h33 (zSmw.ofo (q := v1) (zOu.kp (zOu.rf (r := 0) (n := 0)) h0 hk10 (by decide)) (by omega) (by omega) (Or.inr (by omega))) (by omega)
            unfold zChx at hx54
            have hx55 : ¬ v2 = M (a + 2 + 9 + 4 * v1.toNat) 3 ∨ M (a + 2 + 9 + 4 * v1.toNat + 2) v2 = M (a + 2 + 9 + 4 * v1.toNat + 2) (M (a + 2 + 9 + 4 * v1.toNat) 3) := (Decidable.em (v2 = M (a + 2 + 9 + 4 * v1.toNat) 3)).symm.imp id (fun h => by rw [h])
            have hx56 := (h34 (by omega)).2.1
            have hx57 : zSmw M M5 (a + 2 + 9 + 4 * v1.toNat) := (zSmw.ofo (q := v1) (zOu.kp (zOu.rf (r := 0) (n := 0)) h0 hk10 (by decide)) (by omega) (by omega) (Or.inr (by omega)))
            have hx58 := hx57.2.1
            exact q_iret C dX11_edit_101 ⟨rfl, rfl⟩ (by rw [hPo]; exact ⟨M38 (a + 2 + 9 + 4 * (v1 : Int).toNat) 3, M46, J47, rfl, rfl, hI48, hK51, (by have hz : M46 a 1 = M5 a 1 := ((h49 _ _ (zle_t h0.2.2.2.2.1 (by decide))).trans (hk43 _ _ (by omega))); omega), (fun j => ((h49 _ _ (zle_t (h0.2.2.2.2.2.2.2.2.2.2.2.2.1 j) (by decide))).trans ((hk43 _ _ (by omega)).trans (hk10 _ _ (zle_t (h0.2.2.2.2.2.2.2.2.2.2.2.2.1 j) (by decide)))))), hci53, (Or.inr ⟨⟨by omega, by omega, by omega⟩, _, (zWb.cg h25 (fun j => (h4 j)) (by omega) rfl), Or.inr ⟨by omega, by omega⟩⟩), (Or.inr ⟨by omega, ⟨by omega, by omega, by omega⟩, zChg.cg (zSmw.ofo (q := v1) (zOu.kp (zOu.rf (r := 0) (n := 0)) h0 hk10 (by decide)) (by omega) (by omega) (Or.inr (by omega))) (h34 (by omega)) (zSmw.ofo (q := v1) (zOu.kp (zOu.rf (r := 0) (n := 0)) h0 h49 (by decide)) (by omega) (by omega) (Or.inr (by omega))) (by omega), (zOu.kp (zOu.rg (zOu.kp (zOu.rf (r := a + 2 + 9 + 4 * v1.toNat) (n := 4)) h0 hk10 (by decide)) hk43 (by omega)) h0 h49 (by decide))⟩), (Or.inr ⟨zEb.cg (zSw.ofo (q := v1) (zOu.kp (zOu.rf (r := 0) (n := 0)) h0 hk10 (by decide)) (Or.inl rfl) (by omega) (Or.inr (by omega))).1 (h35 (by omega)) (zSw.ofo (q := v1) (zOu.kp (zOu.rf (r := 0) (n := 0)) h0 h49 (by decide)) (Or.inl rfl) (by omega) (Or.inr (by omega))).1 (by omega) (fun j => (h4 j)), zWv.cg (h36 (by omega)) (zSw.ofo (q := v1) (zOu.kp (zOu.rf (r := 0) (n := 0)) h0 h49 (by decide)) (Or.inl rfl) (by omega) (Or.inr (by omega))).1 (zSw.ofo (q := v1) (zOu.kp (zOu.rf (r := 0) (n := 0)) h0 h49 (by decide)) (Or.inl rfl) (by omega) (Or.inr (by omega))).2.2, zEc.cg (zSw.ofo (q := v1) (zOu.kp (zOu.rf (r := 0) (n := 0)) h0 hk10 (by decide)) (Or.inl rfl) (by omega) (Or.inr (by omega))).1 (h37 (by omega)) (zSw.ofo (q := v1) (zOu.kp (zOu.rf (r := 0) (n := 0)) h0 h49 (by decide)) (Or.inl rfl) (by omega) (Or.inr (by omega))).1 (by omega)⟩)⟩)
          · refine q_bipush C dX11_edit_82 (n := 84) rfl (x := (-3)) (by decide) ?_
            have hci59 : zCI M38 a := (zCI.pg (k := v1) hci29 hk43 (by omega) h31)
            have hx60 := zChx.cg (n2 := M a 1) h33 (zSmw.ofo (q := v1) (zOu.kp (zOu.rf (r := 0) (n := 0)) h0 hk10 (by decide)) (by omega) (by omega) (Or.inr (by omega))) (by omega)
            unfold zChx at hx60
            have hx61 : ¬ v2 = M (a + 2 + 9 + 4 * v1.toNat) 3 ∨ M (a + 2 + 9 + 4 * v1.toNat + 2) v2 = M (a + 2 + 9 + 4 * v1.toNat + 2) (M (a + 2 + 9 + 4 * v1.toNat) 3) := (Decidable.em (v2 = M (a + 2 + 9 + 4 * v1.toNat) 3)).symm.imp id (fun h => by rw [h])
            exact q_iret C dX11_edit_84 ⟨rfl, rfl⟩ (by rw [hPo]; exact ⟨(-3), M38, J39, rfl, rfl, hI40, hK44, (by have hz : M38 a 1 = M5 a 1 := (hk43 _ _ (by omega)); omega), (fun j => ((hk43 _ _ (by omega)).trans (hk10 _ _ (zle_t (h0.2.2.2.2.2.2.2.2.2.2.2.2.1 j) (by decide))))), hci59, (Or.inr ⟨⟨by omega, by omega, by omega⟩, _, (zWb.cg h25 (fun j => (h4 j)) (by omega) rfl), Or.inr ⟨by omega, by omega⟩⟩), (Or.inl ⟨by omega, by rw [h32 (by omega)]; exact (zOu.kp (zOu.rf (r := 0) (n := 0)) h0 hk10 (by decide))⟩), (Or.inl (by omega))⟩)
        · refine q_sipush C dX11_edit_54 (n := 57) rfl (x := (-1000)) (by decide) ?_
          refine q_iload C dX11_edit_57 (n := 59) rfl rfl ?_
          refine q_isub C dX11_edit_59 (n := 60) rfl (v := (-1000) - x26) rfl ?_
          have hci62 : zCI M5 a := (zCI.kp p3 h0 hk10 (by decide))
          exact q_iret C dX11_edit_60 ⟨rfl, rfl⟩ (by rw [hPo]; exact ⟨(-1000) - x26, M5, J6, rfl, rfl, hI7, hK11, (by have hz : M5 a 1 = M5 a 1 := rfl; omega), (fun j => (hk10 _ _ (zle_t (h0.2.2.2.2.2.2.2.2.2.2.2.2.1 j) (by decide)))), hci62, (Or.inr ⟨⟨by omega, by omega, by omega⟩, _, (zWb.cg h25 (fun j => (h4 j)) (by omega) rfl), Or.inl ⟨by omega, rfl⟩⟩), (Or.inl ⟨by omega, (zOu.kp (zOu.rf (r := 0) (n := 0)) h0 hk10 (by decide))⟩), (Or.inl (by omega))⟩)
      · refine q_bipush C dX11_edit_36 (n := 38) rfl (x := (-2)) (by decide) ?_
        have hci63 : zCI M5 a := (zCI.kp p3 h0 hk10 (by decide))
        exact q_iret C dX11_edit_38 ⟨rfl, rfl⟩ (by rw [hPo]; exact ⟨(-2), M5, J6, rfl, rfl, hI7, hK11, (by have hz : M5 a 1 = M5 a 1 := rfl; omega), (fun j => (hk10 _ _ (zle_t (h0.2.2.2.2.2.2.2.2.2.2.2.2.1 j) (by decide)))), hci63, (Or.inl ⟨by omega, rfl⟩), (Or.inl ⟨by omega, (zOu.kp (zOu.rf (r := 0) (n := 0)) h0 hk10 (by decide))⟩), (Or.inl (by omega))⟩)
theorem c_X11_drop_w {w : zWp} {T : zTl} {M : zMm} {J : zJm} {R : zRm'} {G : zGt} {F : zRm'} {a : Nat} (hI : zI G M) (hF : zF F R) (h0 : zHideSets T F G a) (v1 : Int) (v2 : Int) (hst : R a 8 = none ∨ ∃ sy, R a 8 = some sy ∧ zStudy T F G sy) (hg30 : ∀ (c : Nat) (k : Int), a ≤ c → c < a + 836 → (G c k).1 < 30) (p1 : -2147483648 ≤ v1 ∧ v1 ≤ 2147483647) (p2 : -2147483648 ≤ v2 ∧ v2 ≤ 2147483647) (p3 : zCI M a) : zCt w 14 0 0 yX11_drop cX11_drop 3 (some .int) [.ref (w.2.1 + a), zi v1, zi v2] (T, M, J, R) (zPi T R G (fun x M2 => (zKp G 30 M M2) ∧ (M2 a 1 = M a 1) ∧ (∀ j : Int, M2 (a + 1) j = M (a + 1) j) ∧ (∀ j : Int, M2 (a + 28) j = M (a + 28) j) ∧ (zCI M2 a) ∧ (¬ ((0 ≤ v1 ∧ v1 ≤ 3 ∧ M (a + 2 + 9 + 4 * v1.toNat) 4 = 1) ∧ 0 ≤ v2 ∧ v2 < M (a + 2 + 9 + 4 * v1.toNat) 3) ∧ x = -1 ∧ zOu a 0 0 M M2 ∨ ((0 ≤ v1 ∧ v1 ≤ 3 ∧ M (a + 2 + 9 + 4 * v1.toNat) 4 = 1) ∧ 0 ≤ v2 ∧ v2 < M (a + 2 + 9 + 4 * v1.toNat) 3) ∧ x = M (a + 2 + 9 + 4 * v1.toNat) 3 - 1 ∧ zTko M M2 (a + 2 + 9 + 4 * v1.toNat) v2 ∧ zOu a (a + 2 + 9 + 4 * v1.toNat) 4 M M2) ∧ (x = -1 ∨ zTb M M2 (a + 2 + 9 + 4 * v1.toNat) v2 ∧ zWv M2 (a + 2 + 9 + 4 * v1.toNat) ∧ zTc M M2 (a + 2 + 9 + 4 * v1.toNat) v2))) := by
  refine zCt.of rfl (Nat.le_of_ble_eq_true rfl) ?_
  intro p e s m args below meth c C
  obtain ⟨Po, hPo⟩ : ∃ Po, Po = zPi T R G (fun x M2 => (zKp G 30 M M2) ∧ (M2 a 1 = M a 1) ∧ (∀ j : Int, M2 (a + 1) j = M (a + 1) j) ∧ (∀ j : Int, M2 (a + 28) j = M (a + 28) j) ∧ (zCI M2 a) ∧ (¬ ((0 ≤ v1 ∧ v1 ≤ 3 ∧ M (a + 2 + 9 + 4 * v1.toNat) 4 = 1) ∧ 0 ≤ v2 ∧ v2 < M (a + 2 + 9 + 4 * v1.toNat) 3) ∧ x = -1 ∧ zOu a 0 0 M M2 ∨ ((0 ≤ v1 ∧ v1 ≤ 3 ∧ M (a + 2 + 9 + 4 * v1.toNat) 4 = 1) ∧ 0 ≤ v2 ∧ v2 < M (a + 2 + 9 + 4 * v1.toNat) 3) ∧ x = M (a + 2 + 9 + 4 * v1.toNat) 3 - 1 ∧ zTko M M2 (a + 2 + 9 + 4 * v1.toNat) v2 ∧ zOu a (a + 2 + 9 + 4 * v1.toNat) 4 M M2) ∧ (x = -1 ∨ zTb M M2 (a + 2 + 9 + 4 * v1.toNat) v2 ∧ zWv M2 (a + 2 + 9 + 4 * v1.toNat) ∧ zTc M M2 (a + 2 + 9 + 4 * v1.toNat) v2)) := ⟨_, rfl⟩
  rw [← hPo]
  have hK0 : zKp G 30 M M := zKp.rf
  show zK w p e 14 0 0 s m args below meth c 3 T Po 0 [.ref (w.2.1 + a), zi v1, zi v2] [] (T, M, J, R)
  refine q_aload_n C dX11_drop_0 (n := 1) rfl rfl ?_
  refine q_getR C dX11_drop_1 (n := 4) rfl f_X11_20 h0.1 (hF _ _ _ h0.2.2.2.2.2.1) ?_
  refine q_iload_n C dX11_drop_4 (n := 5) rfl rfl ?_
  refine q_iload_n C dX11_drop_5 (n := 6) rfl rfl ?_
  refine q_callVp C dX11_drop_6 (n := 9) rfl m_X11_209 v_yX7_hasLine h0.2.2.2.2.2.2.1.1 ⟨by decide, rfl⟩ (c_X7_hasLine_e (w := w) (J := J) hI hF h0.2.2.2.2.2.2.1 v1 v2 (by omega) (by omega)) (Nat.le_of_ble_eq_true rfl) rfl rfl (Nat.le_of_ble_eq_true rfl) ⟨Nat.le_refl _, Nat.le_refl _⟩ (fun x3 h4 => ?_)
  obtain ⟨h1, h2⟩ := h4
  refine q_if_ne C 14 dX11_drop_9 (n := 12) rfl rfl (by omega) (fun h5 => ?_) (fun h5 => ?_)
  · refine q_aload_n C dX11_drop_14 (n := 15) rfl rfl ?_
    refine q_getR C dX11_drop_15 (n := 18) rfl f_X11_20 h0.1 (hF _ _ _ h0.2.2.2.2.2.1) ?_
    refine q_getR C dX11_drop_18 (n := 21) rfl f_X11_66 h0.2.2.2.2.2.2.1.1 (hF _ _ _ h0.2.2.2.2.2.2.1.2.1) ?_
    refine q_iload_n C dX11_drop_21 (n := 22) rfl rfl ?_
    refine q_aald C dX11_drop_22 (n := 23) rfl ⟨by decide, by decide⟩ h0.2.2.2.2.2.2.1.2.2.1 (by omega) (hF _ _ _ (h0.2.2.2.2.2.2.1.2.2.2.1 v1 (by omega) (by omega)).1) ?_
    refine q_iload_n C dX11_drop_23 (n := 24) rfl rfl ?_
    refine q_callVv C dX11_drop_24 (n := 27) rfl m_X11_259 v_yX4_takeOut (h0.2.2.2.2.2.2.1.2.2.2.1 v1 (by omega) (by omega)).2.1 ⟨by decide, rfl⟩ (c_X4_takeOut_w (w := w) (J := J) hI hF (h0.2.2.2.2.2.2.1.2.2.2.1 v1 (by omega) (by omega)).2 v2 (by omega) ((p3).1 v1 (by omega) (by omega))) (Nat.le_of_ble_eq_true rfl) rfl rfl (Nat.le_of_ble_eq_true rfl) ⟨Nat.le_refl _, Nat.le_refl _⟩ (fun M11 J12  hI13 h14 => ?_)
    obtain ⟨hk15, h6, h7, h8, h9, h10⟩ := h14
    have hK16 := hK0.tr (zKp.ofr hk15 (fun c k h1 h2 => hg30 c k (by omega) (by omega))) (by decide)
    refine q_aload_n C dX11_drop_27 (n := 28) rfl rfl ?_
    refine q_callVv C dX11_drop_28 (n := 31) rfl m_X11_76 v_yX11_forgetStudy h0.1 ⟨by decide, rfl⟩ (c_X11_forgetStudy (w := w) (J := J12) hI13 hF h0 (by assumption)) (Nat.le_of_ble_eq_true rfl) rfl rfl (Nat.le_of_ble_eq_true rfl) ⟨Nat.le_refl _, Nat.le_refl _⟩ (fun M17 J18  hI19 h20 => ?_)
    have hK22 := hK16.tr h20 (by decide)
    refine q_aload_n C dX11_drop_31 (n := 32) rfl rfl ?_
    refine q_getR C dX11_drop_32 (n := 35) rfl f_X11_20 h0.1 (hF _ _ _ h0.2.2.2.2.2.1) ?_
    refine q_getR C dX11_drop_35 (n := 38) rfl f_X11_66 h0.2.2.2.2.2.2.1.1 (hF _ _ _ h0.2.2.2.2.2.2.1.2.1) ?_
    refine q_iload_n C dX11_drop_38 (n := 39) rfl rfl ?_
    refine q_aald C dX11_drop_39 (n := 40) rfl ⟨by decide, by decide⟩ h0.2.2.2.2.2.2.1.2.2.1 (by omega) (hF _ _ _ (h0.2.2.2.2.2.2.1.2.2.2.1 v1 (by omega) (by omega)).1) ?_
    have g23 := zI.at hI13 (h0.2.2.2.2.2.2.1.2.2.2.1 v1 (by omega) (by omega)).2.2.2.2.2.2.2.2.2.2.2.1
    refine q_getI C dX11_drop_40 (n := 43) rfl f_X11_79 (h0.2.2.2.2.2.2.1.2.2.2.1 v1 (by omega) (by omega)).2.1 (v := M11 (a + 2 + 9 + 4 * (v1 : Int).toNat) 3) (h20 _ _ (zle_t (h0.2.2.2.2.2.2.1.2.2.2.1 v1 (by omega) (by omega)).2.2.2.2.2.2.2.2.2.2.2.1 (by decide))) ?_
    have hci24 : zCI M17 a := (zCI.kp (zCI.pg (k := v1) p3 hk15 (by omega) h6) h0 h20 (by decide))
    have hx25 := zTko.cg zSmw.rf h7 (zSmw.ofo (q := v1) (zOu.kp (zOu.rf (r := 0) (n := 0)) h0 h20 (by decide)) (by omega) (by omega) (Or.inr (by omega)))
    have hx26 := hx25.2.1
    have hx27 : zSmw M11 M17 (a + 2 + 9 + 4 * v1.toNat) := (zSmw.ofo (q := v1) (zOu.kp (zOu.rf (r := 0) (n := 0)) h0 h20 (by decide)) (by omega) (by omega) (Or.inr (by omega)))
    have hx28 := hx27.2.1
    exact q_iret C dX11_drop_43 ⟨rfl, rfl⟩ (by rw [hPo]; exact ⟨M11 (a + 2 + 9 + 4 * (v1 : Int).toNat) 3, M17, J18, rfl, rfl, hI19, hK22, (by have hz : M17 a 1 = M a 1 := ((h20 _ _ (zle_t h0.2.2.2.2.1 (by decide))).trans (hk15 _ _ (by omega))); omega), (fun j => ((h20 _ _ (zle_t (h0.2.2.2.1 j) (by decide))).trans (hk15 _ _ (by omega)))), (fun j => ((h20 _ _ (zle_t (h0.2.2.2.2.2.2.2.2.2.2.2.2.1 j) (by decide))).trans (hk15 _ _ (by omega)))), hci24, (Or.inr ⟨⟨⟨by omega, by omega, by omega⟩, by omega, by omega⟩, by omega, hx25, (zOu.kp (zOu.rg (zOu.rf (r := a + 2 + 9 + 4 * v1.toNat) (n := 4)) hk15 (by omega)) h0 h20 (by decide))⟩), (Or.inr ⟨zTb.cg zSw.rf.1 h8 (zSw.ofo (q := v1) (zOu.kp (zOu.rf (r := 0) (n := 0)) h0 h20 (by decide)) (Or.inl rfl) (by omega) (Or.inr (by omega))).1, zWv.cg h9 (zSw.ofo (q := v1) (zOu.kp (zOu.rf (r := 0) (n := 0)) h0 h20 (by decide)) (Or.inl rfl) (by omega) (Or.inr (by omega))).1 (zSw.ofo (q := v1) (zOu.kp (zOu.rf (r := 0) (n := 0)) h0 h20 (by decide)) (Or.inl rfl) (by omega) (Or.inr (by omega))).2.2, zTc.cg zSw.rf.1 h10 (zSw.ofo (q := v1) (zOu.kp (zOu.rf (r := 0) (n := 0)) h0 h20 (by decide)) (Or.inl rfl) (by omega) (Or.inr (by omega))).1⟩)⟩)
  · refine q_iconst C dX11_drop_12 (n := 13) rfl ?_
    exact q_iret C dX11_drop_13 ⟨rfl, rfl⟩ (by rw [hPo]; exact ⟨(-1), M, J, rfl, rfl, hI, hK0, (by have hz : M a 1 = M a 1 := rfl; omega), (fun j => rfl), (fun j => rfl), p3, (Or.inl ⟨by omega, rfl, (zOu.rf (r := 0) (n := 0))⟩), (Or.inl rfl)⟩)
theorem c_X11_image_w {w : zWp} {T : zTl} {M : zMm} {J : zJm} {R : zRm'} {G : zGt} {F : zRm'} {a : Nat} (hI : zI G M) (hF : zF F R) (h0 : zHideSets T F G a) (v1 : Int) (hg30 : ∀ (c : Nat) (k : Int), a ≤ c → c < a + 836 → (G c k).1 < 30) (p1 : -2147483648 ≤ v1 ∧ v1 ≤ 2147483647) (p2 : zCI M a) : zCt w 3 0 0 yX11_image cX11_image 2 (some .boolean) [.ref (w.2.1 + a), zi v1] (T, M, J, R) (zPi T R G (fun x M2 => (zKp G 30 M M2) ∧ (x = 0 ∨ x = 1) ∧ (x = 0 ∧ (v1 < 0 ∨ 2 ≤ v1) ∨ x = 1 ∧ 0 ≤ v1 ∧ v1 < 2) ∧ (M2 a 1 = M a 1) ∧ (∀ j : Int, M2 (a + 1) j = M (a + 1) j) ∧ (∀ j : Int, M2 (a + 28) j = M (a + 28) j ∨ j = v1 ∧ x = 1 ∧ M2 (a + 28) j = 1) ∧ (x = 1 → M2 (a + 28) v1 = 1) ∧ (zCI M2 a) ∧ ((v1 < 0 ∨ 2 ≤ v1) ∧ zOu a 0 0 M M2 ∨ (0 ≤ v1 ∧ v1 < 2) ∧ zScw M M2 (a + 786 + 25 * v1.toNat) (a + 2) ∧ zOu a (a + 786 + 25 * v1.toNat) 25 M M2) ∧ (x = 0 ∨ zSe M M2 (a + 786 + 25 * v1.toNat) (a + 2) 4))) := by
  refine zCt.of rfl (Nat.le_of_ble_eq_true rfl) ?_
  intro p e s m args below meth c C
  obtain ⟨Po, hPo⟩ : ∃ Po, Po = zPi T R G (fun x M2 => (zKp G 30 M M2) ∧ (x = 0 ∨ x = 1) ∧ (x = 0 ∧ (v1 < 0 ∨ 2 ≤ v1) ∨ x = 1 ∧ 0 ≤ v1 ∧ v1 < 2) ∧ (M2 a 1 = M a 1) ∧ (∀ j : Int, M2 (a + 1) j = M (a + 1) j) ∧ (∀ j : Int, M2 (a + 28) j = M (a + 28) j ∨ j = v1 ∧ x = 1 ∧ M2 (a + 28) j = 1) ∧ (x = 1 → M2 (a + 28) v1 = 1) ∧ (zCI M2 a) ∧ ((v1 < 0 ∨ 2 ≤ v1) ∧ zOu a 0 0 M M2 ∨ (0 ≤ v1 ∧ v1 < 2) ∧ zScw M M2 (a + 786 + 25 * v1.toNat) (a + 2) ∧ zOu a (a + 786 + 25 * v1.toNat) 25 M M2) ∧ (x = 0 ∨ zSe M M2 (a + 786 + 25 * v1.toNat) (a + 2) 4)) := ⟨_, rfl⟩
  rw [← hPo]
  have hK0 : zKp G 30 M M := zKp.rf
  show zK w p e 3 0 0 s m args below meth c 2 T Po 0 [.ref (w.2.1 + a), zi v1] [] (T, M, J, R)
  refine q_iload_n C dX11_image_0 (n := 1) rfl rfl ?_
  refine q_if_lt C 13 dX11_image_1 (n := 4) rfl rfl (by omega) (fun h1 => ?_) (fun h1 => ?_)
  · refine q_iconst C dX11_image_13 (n := 14) rfl ?_
    exact q_zret C dX11_image_14 ⟨rfl, rfl⟩ (by omega) (by rw [hPo]; exact ⟨0, M, J, rfl, rfl, hI, hK0, by omega, by omega, (by have hz : M a 1 = M a 1 := rfl; omega), (fun j => rfl), (fun j => Or.inl rfl), (fun h => absurd h (by omega)), p2, (Or.inl ⟨by omega, (zOu.rf (r := 0) (n := 0))⟩), (Or.inl rfl)⟩)
  · refine q_iload_n C dX11_image_4 (n := 5) rfl rfl ?_
    refine q_aload_n C dX11_image_5 (n := 6) rfl rfl ?_
    refine q_getR C dX11_image_6 (n := 9) rfl f_X11_24 h0.1 (hF _ _ _ h0.2.2.2.2.2.2.2.1) ?_
    refine q_alen C dX11_image_9 (n := 10) rfl ⟨by decide, by decide⟩ h0.2.2.2.2.2.2.2.2.1 ?_
    show zK w p e 3 0 0 s m args below meth c 2 T Po 10 [.ref (w.2.1 + a), zi v1] [zi 2, zi v1] (T, M, J, R)
    refine q_icmp_lt C 15 dX11_image_10 (n := 13) rfl rfl (by omega) (fun h2 => ?_) (fun h2 => ?_)
    · refine q_aload_n C dX11_image_15 (n := 16) rfl rfl ?_
      refine q_getR C dX11_image_16 (n := 19) rfl f_X11_24 h0.1 (hF _ _ _ h0.2.2.2.2.2.2.2.1) ?_
      refine q_iload_n C dX11_image_19 (n := 20) rfl rfl ?_
      refine q_aald C dX11_image_20 (n := 21) rfl ⟨by decide, by decide⟩ h0.2.2.2.2.2.2.2.2.1 (by omega) (hF _ _ _ (h0.2.2.2.2.2.2.2.2.2.1 v1 (by omega) (by omega)).1) ?_
      refine q_aload_n C dX11_image_21 (n := 22) rfl rfl ?_
      refine q_getR C dX11_image_22 (n := 25) rfl f_X11_20 h0.1 (hF _ _ _ h0.2.2.2.2.2.1) ?_
      refine q_callVv C dX11_image_25 (n := 28) rfl m_X11_262 v_yX7_copy (h0.2.2.2.2.2.2.2.2.2.1 v1 (by omega) (by omega)).2.1 ⟨by decide, rfl⟩ (c_X7_copy_w (w := w) (J := J) hI hF (h0.2.2.2.2.2.2.2.2.2.1 v1 (by omega) (by omega)).2 h0.2.2.2.2.2.2.1 (p2).1 (by omega)) (Nat.le_of_ble_eq_true rfl) rfl rfl (Nat.le_of_ble_eq_true rfl) ⟨Nat.le_refl _, Nat.le_refl _⟩ (fun M7 J8  hI9 h10 => ?_)
      obtain ⟨hk11, h3, h4, h5, h6⟩ := h10
      have hK12 := hK0.tr (zKp.ofr hk11 (fun c k h1 h2 => hg30 c k (by omega) (by omega))) (by decide)
      refine q_aload_n C dX11_image_28 (n := 29) rfl rfl ?_
      refine q_getR C dX11_image_29 (n := 32) rfl f_X11_28 h0.1 (hF _ _ _ h0.2.2.2.2.2.2.2.2.2.2.1) ?_
      refine q_iload_n C dX11_image_32 (n := 33) rfl rfl ?_
      refine q_iconst C dX11_image_33 (n := 34) rfl ?_
      refine q_zast C dX11_image_34 (n := 35) rfl h0.2.2.2.2.2.2.2.2.2.2.2.1 (by omega) (by omega) (fun M13 e14 => ?_)
      have hI15 : zI G M13 := hI9.put e14 (h0.2.2.2.2.2.2.2.2.2.2.2.2.1 v1) rfl (by omega)
      have hK16 := hK12.put e14 (h0.2.2.2.2.2.2.2.2.2.2.2.2.1 v1) (by decide)
      refine q_iconst C dX11_image_35 (n := 36) rfl ?_
      have hci17 : zCI M13 a := (zCI.up (zCI.img (k := v1) p2 hk11 (by omega) h3) e14 (by decide))
      exact q_zret C dX11_image_36 ⟨rfl, rfl⟩ (by omega) (by rw [hPo]; exact ⟨1, M13, J8, rfl, rfl, hI15, hK16, by omega, by omega, (by have hz : M13 a 1 = M a 1 := ((zup_p e14 (by omega) _).trans (hk11 _ _ (by omega))); omega), (fun j => ((zup_p e14 (by omega) _).trans (hk11 _ _ (by omega)))), (fun j => (Decidable.em (j = v1)).elim (fun hj => Or.inr ⟨hj, by omega, by rw [hj]; exact zup_s e14⟩) (fun hj => Or.inl ((zup_n e14 (fun z => hj z.2)).trans (hk11 _ _ (by omega))))), (fun _ => zup_s e14), hci17, (Or.inr ⟨by omega, zScw.ou (a := a) ⟨h5, h4⟩ (zOu.up (zOu.rf (r := 0) (n := 0)) e14 (by decide)) (by omega), (zOu.up (zOu.rg (zOu.rf (r := (a + 786 + 25 * v1.toNat)) (n := 25)) hk11 (by omega)) e14 (by decide))⟩), (Or.inr (zSe.ou (a := a) h6 (zOu.up (zOu.rf (r := 0) (n := 0)) e14 (by decide)) (by omega) (by omega)))⟩)
    · refine q_iconst C dX11_image_13 (n := 14) rfl ?_
      exact q_zret C dX11_image_14 ⟨rfl, rfl⟩ (by omega) (by rw [hPo]; exact ⟨0, M, J, rfl, rfl, hI, hK0, by omega, by omega, (by have hz : M a 1 = M a 1 := rfl; omega), (fun j => rfl), (fun j => Or.inl rfl), (fun h => absurd h (by omega)), p2, (Or.inl ⟨by omega, (zOu.rf (r := 0) (n := 0))⟩), (Or.inl rfl)⟩)
theorem c_X11_restore_w {w : zWp} {T : zTl} {M : zMm} {J : zJm} {R : zRm'} {G : zGt} {F : zRm'} {a : Nat} (hI : zI G M) (hF : zF F R) (h0 : zHideSets T F G a) (v1 : Int) (hst : R a 8 = none ∨ ∃ sy, R a 8 = some sy ∧ zStudy T F G sy) (hg30 : ∀ (c : Nat) (k : Int), a ≤ c → c < a + 836 → (G c k).1 < 30) (p1 : -2147483648 ≤ v1 ∧ v1 ≤ 2147483647) (p2 : zCI M a) : zCt w 3 0 0 yX11_restore cX11_restore 2 (some .boolean) [.ref (w.2.1 + a), zi v1] (T, M, J, R) (zPi T R G (fun x M2 => (zKp G 30 M M2) ∧ (x = 0 ∨ x = 1) ∧ (x = 1 ∧ 0 ≤ v1 ∧ v1 < 2 ∧ M (a + 28) v1 = 1 ∨ x = 0 ∧ (v1 < 0 ∨ 2 ≤ v1 ∨ M (a + 28) v1 = 0)) ∧ (M2 a 1 = M a 1) ∧ (∀ j : Int, M2 (a + 1) j = M (a + 1) j) ∧ (∀ j : Int, M2 (a + 28) j = M (a + 28) j) ∧ (zCI M2 a) ∧ (x = 0 ∧ zOu a 0 0 M M2 ∨ (x = 1 ∧ 0 ≤ v1 ∧ v1 < 2) ∧ zScw M M2 (a + 2) (a + 786 + 25 * v1.toNat) ∧ zOu a (a + 2) 25 M M2) ∧ (x = 0 ∨ zSe M M2 (a + 2) (a + 786 + 25 * v1.toNat) 4))) := by
  refine zCt.of rfl (Nat.le_of_ble_eq_true rfl) ?_
  intro p e s m args below meth c C
  obtain ⟨Po, hPo⟩ : ∃ Po, Po = zPi T R G (fun x M2 => (zKp G 30 M M2) ∧ (x = 0 ∨ x = 1) ∧ (x = 1 ∧ 0 ≤ v1 ∧ v1 < 2 ∧ M (a + 28) v1 = 1 ∨ x = 0 ∧ (v1 < 0 ∨ 2 ≤ v1 ∨ M (a + 28) v1 = 0)) ∧ (M2 a 1 = M a 1) ∧ (∀ j : Int, M2 (a + 1) j = M (a + 1) j) ∧ (∀ j : Int, M2 (a + 28) j = M (a + 28) j) ∧ (zCI M2 a) ∧ (x = 0 ∧ zOu a 0 0 M M2 ∨ (x = 1 ∧ 0 ≤ v1 ∧ v1 < 2) ∧ zScw M M2 (a + 2) (a + 786 + 25 * v1.toNat) ∧ zOu a (a + 2) 25 M M2) ∧ (x = 0 ∨ zSe M M2 (a + 2) (a + 786 + 25 * v1.toNat) 4)) := ⟨_, rfl⟩
  rw [← hPo]
  have hK0 : zKp G 30 M M := zKp.rf
  show zK w p e 3 0 0 s m args below meth c 2 T Po 0 [.ref (w.2.1 + a), zi v1] [] (T, M, J, R)
  refine q_iload_n C dX11_restore_0 (n := 1) rfl rfl ?_
  have J_2 : (v1 < 0 ∨ 2 ≤ v1 ∨ M (a + 28) v1 = 0) → zK w p e 3 0 0 s m args below meth c 2 T Po 22 [.null, .null] [] (T, M, J, R) := by
    intro h1
    refine q_iconst C dX11_restore_22 (n := 23) rfl ?_
    exact q_zret C dX11_restore_23 ⟨rfl, rfl⟩ (by omega) (by rw [hPo]; exact ⟨0, M, J, rfl, rfl, hI, hK0, by omega, by omega, (by have hz : M a 1 = M a 1 := rfl; omega), (fun j => rfl), (fun j => rfl), p2, (Or.inl ⟨by omega, (zOu.rf (r := 0) (n := 0))⟩), (Or.inl rfl)⟩)
  refine q_if_lt C 22 dX11_restore_1 (n := 4) rfl rfl (by omega) (fun h3 => ?_) (fun h3 => ?_)
  · exact zK.weak (J_2 (by omega)) (zwk_n (zwk_n zwk_e))
  · refine q_iload_n C dX11_restore_4 (n := 5) rfl rfl ?_
    refine q_aload_n C dX11_restore_5 (n := 6) rfl rfl ?_
    refine q_getR C dX11_restore_6 (n := 9) rfl f_X11_24 h0.1 (hF _ _ _ h0.2.2.2.2.2.2.2.1) ?_
    refine q_alen C dX11_restore_9 (n := 10) rfl ⟨by decide, by decide⟩ h0.2.2.2.2.2.2.2.2.1 ?_
    show zK w p e 3 0 0 s m args below meth c 2 T Po 10 [.ref (w.2.1 + a), zi v1] [zi 2, zi v1] (T, M, J, R)
    refine q_icmp_ge C 22 dX11_restore_10 (n := 13) rfl rfl (by omega) (fun h4 => ?_) (fun h4 => ?_)
    · exact zK.weak (J_2 (by omega)) (zwk_n (zwk_n zwk_e))
    · refine q_aload_n C dX11_restore_13 (n := 14) rfl rfl ?_
      refine q_getR C dX11_restore_14 (n := 17) rfl f_X11_28 h0.1 (hF _ _ _ h0.2.2.2.2.2.2.2.2.2.2.1) ?_
      refine q_iload_n C dX11_restore_17 (n := 18) rfl rfl ?_
      have g5 := zI.at hI (h0.2.2.2.2.2.2.2.2.2.2.2.2.1 v1)
      refine q_zald C dX11_restore_18 (n := 19) rfl h0.2.2.2.2.2.2.2.2.2.2.2.1 (by omega) (v := M (a + 28) v1) rfl ?_
      refine q_if_ne C 24 dX11_restore_19 (n := 22) rfl rfl (by omega) (fun h6 => ?_) (fun h6 => ?_)
      · refine q_aload_n C dX11_restore_24 (n := 25) rfl rfl ?_
        refine q_getR C dX11_restore_25 (n := 28) rfl f_X11_20 h0.1 (hF _ _ _ h0.2.2.2.2.2.1) ?_
        refine q_aload_n C dX11_restore_28 (n := 29) rfl rfl ?_
        refine q_getR C dX11_restore_29 (n := 32) rfl f_X11_24 h0.1 (hF _ _ _ h0.2.2.2.2.2.2.2.1) ?_
        refine q_iload_n C dX11_restore_32 (n := 33) rfl rfl ?_
        refine q_aald C dX11_restore_33 (n := 34) rfl ⟨by decide, by decide⟩ h0.2.2.2.2.2.2.2.2.1 (by omega) (hF _ _ _ (h0.2.2.2.2.2.2.2.2.2.1 v1 (by omega) (by omega)).1) ?_
        refine q_callVv C dX11_restore_34 (n := 37) rfl m_X11_262 v_yX7_copy h0.2.2.2.2.2.2.1.1 ⟨by decide, rfl⟩ (c_X7_copy_w (w := w) (J := J) hI hF h0.2.2.2.2.2.2.1 (h0.2.2.2.2.2.2.2.2.2.1 v1 (by omega) (by omega)).2 ((p2).2 v1 (by omega) (by omega)) (by omega)) (Nat.le_of_ble_eq_true rfl) rfl rfl (Nat.le_of_ble_eq_true rfl) ⟨Nat.le_refl _, Nat.le_refl _⟩ (fun M11 J12  hI13 h14 => ?_)
        obtain ⟨hk15, h7, h8, h9, h10⟩ := h14
        have hK16 := hK0.tr (zKp.ofr hk15 (fun c k h1 h2 => hg30 c k (by omega) (by omega))) (by decide)
        refine q_aload_n C dX11_restore_37 (n := 38) rfl rfl ?_
        refine q_callVv C dX11_restore_38 (n := 41) rfl m_X11_76 v_yX11_forgetStudy h0.1 ⟨by decide, rfl⟩ (c_X11_forgetStudy (w := w) (J := J12) hI13 hF h0 (by assumption)) (Nat.le_of_ble_eq_true rfl) rfl rfl (Nat.le_of_ble_eq_true rfl) ⟨Nat.le_refl _, Nat.le_refl _⟩ (fun M17 J18  hI19 h20 => ?_)
        have hK22 := hK16.tr h20 (by decide)
        refine q_iconst C dX11_restore_41 (n := 42) rfl ?_
        have hci23 : zCI M17 a := (zCI.kp (zCI.res p2 hk15 h7) h0 h20 (by decide))
        exact q_zret C dX11_restore_42 ⟨rfl, rfl⟩ (by omega) (by rw [hPo]; exact ⟨1, M17, J18, rfl, rfl, hI19, hK22, by omega, by omega, (by have hz : M17 a 1 = M a 1 := ((h20 _ _ (zle_t h0.2.2.2.2.1 (by decide))).trans (hk15 _ _ (by omega))); omega), (fun j => ((h20 _ _ (zle_t (h0.2.2.2.1 j) (by decide))).trans (hk15 _ _ (by omega)))), (fun j => ((h20 _ _ (zle_t (h0.2.2.2.2.2.2.2.2.2.2.2.2.1 j) (by decide))).trans (hk15 _ _ (by omega)))), hci23, (Or.inr ⟨by omega, zScw.ou (a := a) ⟨h9, h8⟩ (zOu.kp (zOu.rf (r := 0) (n := 0)) h0 h20 (by decide)) (by omega), (zOu.kp (zOu.rg (zOu.rf (r := (a + 2)) (n := 25)) hk15 (by omega)) h0 h20 (by decide))⟩), (Or.inr (zSe.ou (a := a) h10 (zOu.kp (zOu.rf (r := 0) (n := 0)) h0 h20 (by decide)) (by omega) (by omega)))⟩)
      · exact zK.weak (J_2 (by omega)) (zwk_n (zwk_n zwk_e))
theorem c_X4_isWithin_e {w : zWp} {T : zTl} {M : zMm} {J : zJm} {R : zRm'} {G : zGt} {F : zRm'} {a : Nat} (hI : zI G M) (hF : zF F R) (h0 : zPage T F G a) (v1 : Int) (p1 : 0 ≤ v1 ∧ v1 ≤ 40) : zCt w 1 0 0 yX4_isWithin cX4_isWithin 4 (some .boolean) [.ref (w.2.1 + a), zi v1] (T, M, J, R) (zPp T M J R (fun x => (x = 0 ∨ x = 1) ∧ (x = 1 ↔ 0 < zIw (M (a + 3)) v1.toNat))) := by
  refine zCt.of rfl (Nat.le_of_ble_eq_true rfl) ?_
  intro p e s m args below meth c C
  obtain ⟨Po, hPo⟩ : ∃ Po, Po = zPp T M J R (fun x => (x = 0 ∨ x = 1) ∧ (x = 1 ↔ 0 < zIw (M (a + 3)) v1.toNat)) := ⟨_, rfl⟩
  rw [← hPo]
  show zK w p e 1 0 0 s m args below meth c 4 T Po 0 [.ref (w.2.1 + a), zi v1, .null, .null] [] (T, M, J, R)
  have gz : zIw (M (a + 3)) (0 : Int).toNat = 0 := rfl
  refine q_iconst C dX4_isWithin_0 (n := 1) rfl ?_
  refine q_istore_n C [.ref (w.2.1 + a), zi v1, zi 0, .null] dX4_isWithin_1 (n := 2) rfl rfl rfl ?_
  refine q_iconst C dX4_isWithin_2 (n := 3) rfl ?_
  refine q_istore_n C [.ref (w.2.1 + a), zi v1, zi 0, zi 0] dX4_isWithin_3 (n := 4) rfl rfl rfl ?_
  have L_8 : ∀ n9 : Nat, ∀ (u1 : Int) (u2 : Int), (-2147483648 ≤ u1 ∧ u1 ≤ 2147483647) → (-2147483648 ≤ u2 ∧ u2 ≤ 2147483647) → (0 ≤ u2 ∧ u2 ≤ v1) → (0 ≤ u1 ∧ u1 ≤ u2) → (u1 = zIw (M (a + 3)) (u2 : Int).toNat) → (v1 - u2 + 1 ≤ (n9 : Int)) → zK w p e 1 0 0 s m args below meth c 4 T Po 4 [.ref (w.2.1 + a), zi v1, zi u1, zi u2] [] (T, M, J, R) := by
    intro n9
    induction n9 with
    | zero =>
      intro u1 u2 h3 h4 h5 h6 h7 hm11
      exfalso
      omega
    | succ n9 ih10 =>
      intro u1 u2 h3 h4 h5 h6 h7 hm11
      refine q_iload_n C dX4_isWithin_4 (n := 5) rfl rfl ?_
      refine q_iload_n C dX4_isWithin_5 (n := 6) rfl rfl ?_
      refine q_icmp_ge C 48 dX4_isWithin_6 (n := 9) rfl rfl (by omega) (fun h12 => ?_) (fun h12 => ?_)
      · have ge : zIw (M (a + 3)) (u2 : Int).toNat = zIw (M (a + 3)) v1.toNat := by rw [show (u2 : Int) = v1 by omega]
        refine q_iload_n C dX4_isWithin_48 (n := 49) rfl rfl ?_
        refine q_if_le C 56 dX4_isWithin_49 (n := 52) rfl rfl (by omega) (fun h13 => ?_) (fun h13 => ?_)
        · refine q_iconst C dX4_isWithin_56 (n := 57) rfl ?_
          exact q_zret C dX4_isWithin_57 ⟨rfl, rfl⟩ (by omega) (by rw [hPo]; exact ⟨0, rfl, rfl, by omega, by omega⟩)
        · refine q_iconst C dX4_isWithin_52 (n := 53) rfl ?_
          refine q_goto C 57 dX4_isWithin_53 rfl ?_
          exact q_zret C dX4_isWithin_57 ⟨rfl, rfl⟩ (by omega) (by rw [hPo]; exact ⟨1, rfl, rfl, by omega, by omega⟩)
      · have gi := zIw_i (W := M (a + 3)) (i := u2) (by omega)
        refine q_aload_n C dX4_isWithin_9 (n := 10) rfl rfl ?_
        refine q_getR C dX4_isWithin_10 (n := 13) rfl f_X4_19 h0.1 (hF _ _ _ h0.2.2.2.2.2.2.2.1) ?_
        refine q_iload_n C dX4_isWithin_13 (n := 14) rfl rfl ?_
        have g14 := zI.at hI (h0.2.2.2.2.2.2.2.2.2.1 u2)
        refine q_iald C dX4_isWithin_14 (n := 15) rfl h0.2.2.2.2.2.2.2.2.1 (by omega) (v := M (a + 3) u2) rfl ?_
        refine q_iconst C dX4_isWithin_15 (n := 16) rfl ?_
        have J_19 : ∀ (u15 : Int), (-2147483648 ≤ u15 ∧ u15 ≤ 2147483647) → (0 ≤ u15 ∧ u15 ≤ u2 + 1) → (u15 = zIw (M (a + 3)) (u2 + 1 : Int).toNat) → zK w p e 1 0 0 s m args below meth c 4 T Po 42 [.ref (w.2.1 + a), zi v1, zi u15, zi u2] [] (T, M, J, R) := by
          intro u15 h16 h17 h18
          refine q_iinc C [.ref (w.2.1 + a), zi v1, zi u15, zi (u2 + 1)] dX4_isWithin_42 (n := 45) rfl rfl rfl rfl ?_
          refine q_goto C 4 dX4_isWithin_45 rfl ?_
          exact zK.weak (ih10 u15 (u2 + 1) (by omega) (by omega) (by omega) (by omega) (by omega) (by omega)) (zwk_c (zwk_c (zwk_c (zwk_c zwk_e))))
        refine q_icmp_ne C 25 dX4_isWithin_16 (n := 19) rfl rfl (by omega) (fun h20 => ?_) (fun h20 => ?_)
        · refine q_aload_n C dX4_isWithin_25 (n := 26) rfl rfl ?_
          refine q_getR C dX4_isWithin_26 (n := 29) rfl f_X4_19 h0.1 (hF _ _ _ h0.2.2.2.2.2.2.2.1) ?_
          refine q_iload_n C dX4_isWithin_29 (n := 30) rfl rfl ?_
          refine q_iald C dX4_isWithin_30 (n := 31) rfl h0.2.2.2.2.2.2.2.2.1 (by omega) (v := M (a + 3) u2) rfl ?_
          refine q_iconst C dX4_isWithin_31 (n := 32) rfl ?_
          refine q_icmp_ne C 42 dX4_isWithin_32 (n := 35) rfl rfl (by omega) (fun h21 => ?_) (fun h21 => ?_)
          · exact zK.weak (J_19 u1 (by omega) (by omega) (by omega)) (zwk_c (zwk_c (zwk_c (zwk_c zwk_e))))
          · refine q_iload_n C dX4_isWithin_35 (n := 36) rfl rfl ?_
            refine q_if_le C 42 dX4_isWithin_36 (n := 39) rfl rfl (by omega) (fun h22 => ?_) (fun h22 => ?_)
            · exact zK.weak (J_19 u1 (by omega) (by omega) (by omega)) (zwk_c (zwk_c (zwk_c (zwk_c zwk_e))))
            · refine q_iinc C [.ref (w.2.1 + a), zi v1, zi (u1 + (-1)), zi u2] dX4_isWithin_39 (n := 42) rfl rfl rfl rfl ?_
              exact zK.weak (J_19 (u1 + (-1)) (by omega) (by omega) (by omega)) (zwk_c (zwk_c (zwk_c (zwk_c zwk_e))))
        · refine q_iinc C [.ref (w.2.1 + a), zi v1, zi (u1 + 1), zi u2] dX4_isWithin_19 (n := 22) rfl rfl rfl rfl ?_
          refine q_goto C 42 dX4_isWithin_22 rfl ?_
          exact zK.weak (J_19 (u1 + 1) (by omega) (by omega) (by omega)) (zwk_c (zwk_c (zwk_c (zwk_c zwk_e))))
  exact zK.weak (L_8 _ 0 0 (by omega) (by omega) (by omega) (by omega) (by omega) (Int.self_le_toNat _)) (zwk_c (zwk_c (zwk_c (zwk_c zwk_e))))
theorem c_X4_follower_e {w : zWp} {T : zTl} {M : zMm} {J : zJm} {R : zRm'} {G : zGt} {F : zRm'} {a : Nat} (hI : zI G M) (hF : zF F R) (h0 : zPage T F G a) (v1 : Int) (p1 : 0 ≤ v1 ∧ v1 ≤ 39) : zCt w 2 0 0 yX4_follower cX4_follower 4 (some .int) [.ref (w.2.1 + a), zi v1] (T, M, J, R) (zPp T M J R (fun x => (-1 ≤ x ∧ x ≤ 39) ∧ (zNxw (M (a + 3)) (M a 3) v1 x))) := by
  refine zCt.of rfl (Nat.le_of_ble_eq_true rfl) ?_
  intro p e s m args below meth c C
  obtain ⟨Po, hPo⟩ : ∃ Po, Po = zPp T M J R (fun x => (-1 ≤ x ∧ x ≤ 39) ∧ (zNxw (M (a + 3)) (M a 3) v1 x)) := ⟨_, rfl⟩
  rw [← hPo]
  show zK w p e 2 0 0 s m args below meth c 4 T Po 0 [.ref (w.2.1 + a), zi v1, .null, .null] [] (T, M, J, R)
  refine q_aload_n C dX4_follower_0 (n := 1) rfl rfl ?_
  refine q_getR C dX4_follower_1 (n := 4) rfl f_X4_19 h0.1 (hF _ _ _ h0.2.2.2.2.2.2.2.1) ?_
  refine q_iload_n C dX4_follower_4 (n := 5) rfl rfl ?_
  have g1 := zI.at hI (h0.2.2.2.2.2.2.2.2.2.1 v1)
  refine q_iald C dX4_follower_5 (n := 6) rfl h0.2.2.2.2.2.2.2.2.1 (by omega) (v := M (a + 3) v1) rfl ?_
  refine q_if_eq C 37 dX4_follower_6 (n := 9) rfl rfl (by omega) (fun h2 => ?_) (fun h2 => ?_)
  · refine q_iconst C dX4_follower_37 (n := 38) rfl ?_
    exact q_iret C dX4_follower_38 ⟨rfl, rfl⟩ (by rw [hPo]; exact ⟨(-1), rfl, rfl, by omega, (Or.inl ⟨by omega, rfl⟩)⟩)
  · refine q_aload_n C dX4_follower_9 (n := 10) rfl rfl ?_
    refine q_getR C dX4_follower_10 (n := 13) rfl f_X4_19 h0.1 (hF _ _ _ h0.2.2.2.2.2.2.2.1) ?_
    refine q_iload_n C dX4_follower_13 (n := 14) rfl rfl ?_
    refine q_iald C dX4_follower_14 (n := 15) rfl h0.2.2.2.2.2.2.2.2.1 (by omega) (v := M (a + 3) v1) rfl ?_
    refine q_iconst C dX4_follower_15 (n := 16) rfl ?_
    refine q_icmp_eq C 37 dX4_follower_16 (n := 19) rfl rfl (by omega) (fun h3 => ?_) (fun h3 => ?_)
    · refine q_iconst C dX4_follower_37 (n := 38) rfl ?_
      exact q_iret C dX4_follower_38 ⟨rfl, rfl⟩ (by rw [hPo]; exact ⟨(-1), rfl, rfl, by omega, (Or.inl ⟨by omega, rfl⟩)⟩)
    · refine q_aload_n C dX4_follower_19 (n := 20) rfl rfl ?_
      refine q_getR C dX4_follower_20 (n := 23) rfl f_X4_19 h0.1 (hF _ _ _ h0.2.2.2.2.2.2.2.1) ?_
      refine q_iload_n C dX4_follower_23 (n := 24) rfl rfl ?_
      refine q_iald C dX4_follower_24 (n := 25) rfl h0.2.2.2.2.2.2.2.2.1 (by omega) (v := M (a + 3) v1) rfl ?_
      refine q_iconst C dX4_follower_25 (n := 26) rfl ?_
      have J_5 : (¬ (M (a + 3) v1 = 0 ∨ M (a + 3) v1 = 4 ∨ M (a + 3) v1 ≠ 1 ∧ zIw (M (a + 3)) v1.toNat ≤ 0)) → zK w p e 2 0 0 s m args below meth c 4 T Po 39 [.ref (w.2.1 + a), zi v1, .null, .null] [] (T, M, J, R) := by
        intro h4
        refine q_iconst C dX4_follower_39 (n := 40) rfl ?_
        refine q_istore_n C [.ref (w.2.1 + a), zi v1, zi 0, .null] dX4_follower_40 (n := 41) rfl rfl rfl ?_
        have gz : zDe (M (a + 3)) v1 (v1 + 1 - (v1 + 1)).toNat = 0 := by rw [show v1 + 1 - (v1 + 1) = (0 : Int) by omega]; rfl
        refine q_iload_n C dX4_follower_41 (n := 42) rfl rfl ?_
        refine q_iconst C dX4_follower_42 (n := 43) rfl ?_
        refine q_iadd C dX4_follower_43 (n := 44) rfl (v := v1 + 1) rfl ?_
        refine q_istore_n C [.ref (w.2.1 + a), zi v1, zi 0, zi (v1 + 1)] dX4_follower_44 (n := 45) rfl rfl rfl ?_
        have L_14 : ∀ n15 : Nat, ∀ (u6 : Int) (u7 : Int), (-2147483648 ≤ u6 ∧ u6 ≤ 2147483647) → (-2147483648 ≤ u7 ∧ u7 ≤ 2147483647) → (v1 + 1 ≤ u7 ∧ u7 ≤ 40) → (-u7 ≤ u6 ∧ u6 ≤ u7) → (u6 = zDe (M (a + 3)) v1 (u7 - (v1 + 1)).toNat) → (∀ i, v1 < i → i < u7 → ¬ (2 ≤ M (a + 3) i ∧ zDe (M (a + 3)) v1 (i - (v1 + 1)).toNat = 0)) → (40 - u7 + 1 ≤ (n15 : Int)) → zK w p e 2 0 0 s m args below meth c 4 T Po 45 [.ref (w.2.1 + a), .null, zi u6, zi u7] [] (T, M, J, R) := by
          intro n15
          induction n15 with
          | zero =>
            intro u6 u7 h8 h9 h10 h11 h12 h13 hm17
            exfalso
            omega
          | succ n15 ih16 =>
            intro u6 u7 h8 h9 h10 h11 h12 h13 hm17
            refine q_iload_n C dX4_follower_45 (n := 46) rfl rfl ?_
            refine q_aload_n C dX4_follower_46 (n := 47) rfl rfl ?_
            have g18 := zI.at hI h0.2.2.2.2.2.2.2.2.2.2.1
            refine q_getI C dX4_follower_47 (n := 50) rfl f_X4_22 h0.1 (v := M a 3) rfl ?_
            refine q_icmp_ge C 107 dX4_follower_50 (n := 53) rfl rfl (by omega) (fun h19 => ?_) (fun h19 => ?_)
            · refine q_iconst C dX4_follower_107 (n := 108) rfl ?_
              exact q_iret C dX4_follower_108 ⟨rfl, rfl⟩ (by rw [hPo]; exact ⟨(-1), rfl, rfl, by omega, (Or.inr ⟨h4, Or.inl ⟨rfl, fun i i0 i1 => h13 i i0 (by omega)⟩⟩)⟩)
            · have gd := zDe_i (W := M (a + 3)) (l := v1) (i := u7) (by omega)
              refine q_aload_n C dX4_follower_53 (n := 54) rfl rfl ?_
              refine q_getR C dX4_follower_54 (n := 57) rfl f_X4_19 h0.1 (hF _ _ _ h0.2.2.2.2.2.2.2.1) ?_
              refine q_iload_n C dX4_follower_57 (n := 58) rfl rfl ?_
              have g20 := zI.at hI (h0.2.2.2.2.2.2.2.2.2.1 u7)
              refine q_iald C dX4_follower_58 (n := 59) rfl h0.2.2.2.2.2.2.2.2.1 (by omega) (v := M (a + 3) u7) rfl ?_
              refine q_iconst C dX4_follower_59 (n := 60) rfl ?_
              have J_22 : (¬ (2 ≤ M (a + 3) u7 ∧ zDe (M (a + 3)) v1 (u7 - (v1 + 1)).toNat = 0)) → zK w p e 2 0 0 s m args below meth c 4 T Po 69 [.ref (w.2.1 + a), .null, zi u6, zi u7] [] (T, M, J, R) := by
                intro h21
                refine q_iload_n C dX4_follower_69 (n := 70) rfl rfl ?_
                refine q_aload_n C dX4_follower_70 (n := 71) rfl rfl ?_
                refine q_getR C dX4_follower_71 (n := 74) rfl f_X4_19 h0.1 (hF _ _ _ h0.2.2.2.2.2.2.2.1) ?_
                refine q_iload_n C dX4_follower_74 (n := 75) rfl rfl ?_
                refine q_iald C dX4_follower_75 (n := 76) rfl h0.2.2.2.2.2.2.2.2.1 (by omega) (v := M (a + 3) u7) rfl ?_
                refine q_iconst C dX4_follower_76 (n := 77) rfl ?_
                have J_27 : ∀ (u23 : Int), (-2147483648 ≤ u23 ∧ u23 ≤ 2147483647) → (-1 ≤ u23 ∧ u23 ≤ 1) → (u23 = 1 ∧ M (a + 3) u7 = 1 ∨ u23 = -1 ∧ M (a + 3) u7 = 4 ∨ u23 = 0 ∧ M (a + 3) u7 ≠ 1 ∧ M (a + 3) u7 ≠ 4) → zK w p e 2 0 0 s m args below meth c 4 T Po 99 [.ref (w.2.1 + a), .null, .null, zi u7] [zi u23, zi u6] (T, M, J, R) := by
                  intro u23 h24 h25 h26
                  refine q_iadd C dX4_follower_99 (n := 100) rfl (v := u6 + u23) rfl ?_
                  refine q_istore_n C [.ref (w.2.1 + a), .null, zi (u6 + u23), zi u7] dX4_follower_100 (n := 101) rfl rfl rfl ?_
                  refine q_iinc C [.ref (w.2.1 + a), .null, zi (u6 + u23), zi (u7 + 1)] dX4_follower_101 (n := 104) rfl rfl rfl rfl ?_
                  refine q_goto C 45 dX4_follower_104 rfl ?_
                  exact zK.weak (ih16 (u6 + u23) (u7 + 1) (by omega) (by omega) (by omega) (by omega) (by omega) (fun i i0 i1 => (Decidable.em (i = u7)).elim (fun z => by rw [z]; exact h21) (fun z => h13 i i0 (by omega))) (by omega)) (zwk_c (zwk_n (zwk_c (zwk_c zwk_e))))
                refine q_icmp_ne C 84 dX4_follower_77 (n := 80) rfl rfl (by omega) (fun h28 => ?_) (fun h28 => ?_)
                · refine q_aload_n C dX4_follower_84 (n := 85) rfl rfl ?_
                  refine q_getR C dX4_follower_85 (n := 88) rfl f_X4_19 h0.1 (hF _ _ _ h0.2.2.2.2.2.2.2.1) ?_
                  refine q_iload_n C dX4_follower_88 (n := 89) rfl rfl ?_
                  refine q_iald C dX4_follower_89 (n := 90) rfl h0.2.2.2.2.2.2.2.2.1 (by omega) (v := M (a + 3) u7) rfl ?_
                  refine q_iconst C dX4_follower_90 (n := 91) rfl ?_
                  refine q_icmp_ne C 98 dX4_follower_91 (n := 94) rfl rfl (by omega) (fun h29 => ?_) (fun h29 => ?_)
                  · refine q_iconst C dX4_follower_98 (n := 99) rfl ?_
                    exact zK.weak (J_27 0 (by omega) (by omega) (by omega)) (zwk_c (zwk_n (zwk_n (zwk_c zwk_e))))
                  · refine q_iconst C dX4_follower_94 (n := 95) rfl ?_
                    refine q_goto C 99 dX4_follower_95 rfl ?_
                    exact zK.weak (J_27 (-1) (by omega) (by omega) (by omega)) (zwk_c (zwk_n (zwk_n (zwk_c zwk_e))))
                · refine q_iconst C dX4_follower_80 (n := 81) rfl ?_
                  refine q_goto C 99 dX4_follower_81 rfl ?_
                  exact zK.weak (J_27 1 (by omega) (by omega) (by omega)) (zwk_c (zwk_n (zwk_n (zwk_c zwk_e))))
              refine q_icmp_lt C 69 dX4_follower_60 (n := 63) rfl rfl (by omega) (fun h30 => ?_) (fun h30 => ?_)
              · exact zK.weak (J_22 (by omega)) (zwk_c (zwk_n (zwk_c (zwk_c zwk_e))))
              · refine q_iload_n C dX4_follower_63 (n := 64) rfl rfl ?_
                refine q_if_ne C 69 dX4_follower_64 (n := 67) rfl rfl (by omega) (fun h31 => ?_) (fun h31 => ?_)
                · exact zK.weak (J_22 (by omega)) (zwk_c (zwk_n (zwk_c (zwk_c zwk_e))))
                · refine q_iload_n C dX4_follower_67 (n := 68) rfl rfl ?_
                  exact q_iret C dX4_follower_68 ⟨rfl, rfl⟩ (by rw [hPo]; exact ⟨u7, rfl, rfl, by omega, (Or.inr ⟨h4, Or.inr ⟨⟨by omega, by omega⟩, by omega, by omega, h13⟩⟩)⟩)
        exact zK.weak (L_14 _ 0 (v1 + 1) (by omega) (by omega) (by omega) (by omega) (by omega) (zBh.start (by omega)) (Int.self_le_toNat _)) (zwk_c (zwk_n (zwk_c (zwk_c zwk_e))))
      refine q_icmp_eq C 39 dX4_follower_26 (n := 29) rfl rfl (by omega) (fun h32 => ?_) (fun h32 => ?_)
      · exact zK.weak (J_5 (by omega)) (zwk_c (zwk_c (zwk_n (zwk_n zwk_e))))
      · refine q_aload_n C dX4_follower_29 (n := 30) rfl rfl ?_
        refine q_iload_n C dX4_follower_30 (n := 31) rfl rfl ?_
        refine q_callVp C dX4_follower_31 (n := 34) rfl m_X4_98 v_yX4_isWithin h0.1 ⟨by decide, rfl⟩ (c_X4_isWithin_e (w := w) (J := J) hI hF h0 v1 (by omega)) (Nat.le_of_ble_eq_true rfl) rfl rfl (Nat.le_of_ble_eq_true rfl) ⟨Nat.le_refl _, Nat.le_refl _⟩ (fun x35 h36 => ?_)
        obtain ⟨h33, h34⟩ := h36
        refine q_if_ne C 39 dX4_follower_34 (n := 37) rfl rfl (by omega) (fun h37 => ?_) (fun h37 => ?_)
        · exact zK.weak (J_5 (by omega)) (zwk_c (zwk_c (zwk_n (zwk_n zwk_e))))
        · refine q_iconst C dX4_follower_37 (n := 38) rfl ?_
          exact q_iret C dX4_follower_38 ⟨rfl, rfl⟩ (by rw [hPo]; exact ⟨(-1), rfl, rfl, by omega, (Or.inl ⟨by omega, rfl⟩)⟩)
theorem c_X11_nextOf_v {w : zWp} {T : zTl} {M : zMm} {J : zJm} {R : zRm'} {G : zGt} {F : zRm'} {a : Nat} (hI : zI G M) (hF : zF F R) (h0 : zHideSets T F G a) (v1 : Int) (v2 : Int) (p1 : -2147483648 ≤ v1 ∧ v1 ≤ 2147483647) (p2 : -2147483648 ≤ v2 ∧ v2 ≤ 2147483647) : zCt w 3 0 0 yX11_nextOf cX11_nextOf 3 (some .int) [.ref (w.2.1 + a), zi v1, zi v2] (T, M, J, R) (zPp T M J R (fun x => (((0 ≤ v1 ∧ v1 ≤ 3 ∧ M (a + 2 + 9 + 4 * v1.toNat) 4 = 1) ∧ 0 ≤ v2 ∧ v2 < M (a + 2 + 9 + 4 * v1.toNat) 3) ∧ zNxw (M (a + 2 + 9 + 4 * v1.toNat + 3)) (M (a + 2 + 9 + 4 * v1.toNat) 3) v2 x ∨ ¬ ((0 ≤ v1 ∧ v1 ≤ 3 ∧ M (a + 2 + 9 + 4 * v1.toNat) 4 = 1) ∧ 0 ≤ v2 ∧ v2 < M (a + 2 + 9 + 4 * v1.toNat) 3) ∧ x = -1))) := by
  refine zCt.of rfl (Nat.le_of_ble_eq_true rfl) ?_
  intro p e s m args below meth c C
  obtain ⟨Po, hPo⟩ : ∃ Po, Po = zPp T M J R (fun x => (((0 ≤ v1 ∧ v1 ≤ 3 ∧ M (a + 2 + 9 + 4 * v1.toNat) 4 = 1) ∧ 0 ≤ v2 ∧ v2 < M (a + 2 + 9 + 4 * v1.toNat) 3) ∧ zNxw (M (a + 2 + 9 + 4 * v1.toNat + 3)) (M (a + 2 + 9 + 4 * v1.toNat) 3) v2 x ∨ ¬ ((0 ≤ v1 ∧ v1 ≤ 3 ∧ M (a + 2 + 9 + 4 * v1.toNat) 4 = 1) ∧ 0 ≤ v2 ∧ v2 < M (a + 2 + 9 + 4 * v1.toNat) 3) ∧ x = -1)) := ⟨_, rfl⟩
  rw [← hPo]
  show zK w p e 3 0 0 s m args below meth c 3 T Po 0 [.ref (w.2.1 + a), zi v1, zi v2] [] (T, M, J, R)
  refine q_aload_n C dX11_nextOf_0 (n := 1) rfl rfl ?_
  refine q_getR C dX11_nextOf_1 (n := 4) rfl f_X11_20 h0.1 (hF _ _ _ h0.2.2.2.2.2.1) ?_
  refine q_iload_n C dX11_nextOf_4 (n := 5) rfl rfl ?_
  refine q_iload_n C dX11_nextOf_5 (n := 6) rfl rfl ?_
  refine q_callVp C dX11_nextOf_6 (n := 9) rfl m_X11_209 v_yX7_hasLine h0.2.2.2.2.2.2.1.1 ⟨by decide, rfl⟩ (c_X7_hasLine_e (w := w) (J := J) hI hF h0.2.2.2.2.2.2.1 v1 v2 (by omega) (by omega)) (Nat.le_of_ble_eq_true rfl) rfl rfl (Nat.le_of_ble_eq_true rfl) ⟨Nat.le_refl _, Nat.le_refl _⟩ (fun x3 h4 => ?_)
  obtain ⟨h1, h2⟩ := h4
  refine q_if_eq C 28 dX11_nextOf_9 (n := 12) rfl rfl (by omega) (fun h5 => ?_) (fun h5 => ?_)
  · refine q_iconst C dX11_nextOf_28 (n := 29) rfl ?_
    exact q_iret C dX11_nextOf_29 ⟨rfl, rfl⟩ (by rw [hPo]; exact ⟨(-1), rfl, rfl, (Or.inr ⟨by omega, rfl⟩)⟩)
  · refine q_aload_n C dX11_nextOf_12 (n := 13) rfl rfl ?_
    refine q_getR C dX11_nextOf_13 (n := 16) rfl f_X11_20 h0.1 (hF _ _ _ h0.2.2.2.2.2.1) ?_
    refine q_getR C dX11_nextOf_16 (n := 19) rfl f_X11_66 h0.2.2.2.2.2.2.1.1 (hF _ _ _ h0.2.2.2.2.2.2.1.2.1) ?_
    refine q_iload_n C dX11_nextOf_19 (n := 20) rfl rfl ?_
    refine q_aald C dX11_nextOf_20 (n := 21) rfl ⟨by decide, by decide⟩ h0.2.2.2.2.2.2.1.2.2.1 (by omega) (hF _ _ _ (h0.2.2.2.2.2.2.1.2.2.2.1 v1 (by omega) (by omega)).1) ?_
    have gsz := zI.at hI (h0.2.2.2.2.2.2.1.2.2.2.1 v1 (by omega) (by omega)).2.2.2.2.2.2.2.2.2.2.2.1
    refine q_iload_n C dX11_nextOf_21 (n := 22) rfl rfl ?_
    refine q_callVp C dX11_nextOf_22 (n := 25) rfl m_X11_252 v_yX4_follower (h0.2.2.2.2.2.2.1.2.2.2.1 v1 (by omega) (by omega)).2.1 ⟨by decide, rfl⟩ (c_X4_follower_e (w := w) (J := J) hI hF (h0.2.2.2.2.2.2.1.2.2.2.1 v1 (by omega) (by omega)).2 v2 (by omega)) (Nat.le_of_ble_eq_true rfl) rfl rfl (Nat.le_of_ble_eq_true rfl) ⟨Nat.le_refl _, Nat.le_refl _⟩ (fun x8 h9 => ?_)
    obtain ⟨h6, h7⟩ := h9
    refine q_goto C 29 dX11_nextOf_25 rfl ?_
    exact q_iret C dX11_nextOf_29 ⟨rfl, rfl⟩ (by rw [hPo]; exact ⟨x8, rfl, rfl, (Or.inl ⟨⟨⟨by omega, by omega, by omega⟩, by omega, by omega⟩, h7⟩)⟩)
