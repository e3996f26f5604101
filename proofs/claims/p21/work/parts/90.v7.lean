/-! ===== by which NAME a FILE is guarded ===== -/
theorem zFst.cg {P Q : Int → Prop} {n i j : Int} (h : zFst P n i j) (e : ∀ q, i ≤ q → q < n → (P q ↔ Q q)) : zFst Q n i j := by
  obtain ⟨h1, h2, h3⟩ := h
  refine ⟨h1, fun q q0 q1 => (e q q0 (by omega)).mp (h2 q q0 q1), ?_⟩
  by_cases z : j = n
  · exact Or.inl z
  · exact Or.inr (fun q => (h3.resolve_left z) ((e j h1.1 (by omega)).mpr q))
/-- from behind: the last place above f where P doesn't hold; else f, or n - 1 where that is less -/
def zLsw (P : Int → Prop) (n f x : Int) : Prop := x ≤ n - 1 ∧ (∀ q, x < q → q < n → P q) ∧ (x ≤ f ∨ ¬ P x) ∧ (f ≤ x ∨ x = n - 1)
theorem zLsw.eq {P : Int → Prop} {n f x y : Int} (p : zLsw P n f x) (q : zLsw P n f y) : x = y := by
  obtain ⟨a1, a2, a3, a4⟩ := p
  obtain ⟨b1, b2, b3, b4⟩ := q
  by_cases z : x < y
  · by_cases h : y ≤ f
    · omega
    · exact absurd (a2 y z (by omega)) (b3.resolve_left h)
  · by_cases z2 : y < x
    · by_cases h : x ≤ f
      · omega
      · exact absurd (b2 x z2 (by omega)) (a3.resolve_left h)
    · omega
theorem zLsw.cg {P Q : Int → Prop} {n f x : Int} (h : zLsw P n f x) (hf : 0 ≤ f) (e : ∀ q, 0 ≤ q → q < n → (P q ↔ Q q)) : zLsw Q n f x := by
  obtain ⟨a1, a2, a3, a4⟩ := h
  refine ⟨a1, fun q q0 q1 => (e q (by omega) q1).mp (a2 q q0 q1), ?_, a4⟩
  by_cases z : x ≤ f
  · exact Or.inl z
  · exact Or.inr (fun q => (a3.resolve_left z) ((e x (by omega) (by omega)).mpr q))
def zBl (b : Int → Int) (n : Int) : Prop := ∀ q, 0 ≤ q → q < n → b q = 32
/-- a line (b its bytes, n of them) is just # ifndef NAME: x bytes from p on are the NAME -/
def zGtw (b : Int → Int) (n x p : Int) : Prop := ∃ i0 j0 e, zFst (fun q => b q = 32) n 0 i0 ∧ (i0 < n ∧ b i0 = 35) ∧ zFst (fun q => b q = 32) n (i0 + 1) j0 ∧ zFst (fun q => zWd (b q) = 1) n j0 e ∧ zWo b j0 e 3 ∧ zFst (fun q => b q = 32) n e p ∧ zFst (fun q => zWd (b q) = 1) n p (p + x) ∧ (1 ≤ x ∧ x ≤ 30) ∧ ¬ (48 ≤ b p ∧ b p ≤ 57) ∧ ∀ q, p + x ≤ q → q < n → b q = 32
theorem zGtw.eq {b : Int → Int} {n x y p r : Int} (h : zGtw b n x p) (g : zGtw b n y r) : x = y ∧ p = r := by
  obtain ⟨i0, j0, e, h1, h2, h3, h4, h5, h6, h7, h8⟩ := h
  obtain ⟨i1, j1, e1, g1, g2, g3, g4, g5, g6, g7, g8⟩ := g
  obtain rfl := h1.eq g1
  obtain rfl := h3.eq g3
  obtain rfl := h4.eq g4
  obtain rfl := h6.eq g6
  have := h7.eq g7
  exact ⟨by omega, rfl⟩
theorem zGtw.role {b : Int → Int} {n x p : Int} (h : zGtw b n x p) : zRole b n 1 := by
  obtain ⟨i0, j0, e, h1, h2, h3, h4, h5, h6⟩ := h
  exact ⟨i0, h1, Or.inr ⟨h2, j0, e, h3, h4, Or.inl ⟨Or.inr (Or.inr h5), rfl⟩⟩⟩
theorem zGtw.le {b : Int → Int} {n x p : Int} (h : zGtw b n x p) : 0 ≤ p ∧ p + x ≤ n ∧ 1 ≤ x ∧ x ≤ 30 := by
  obtain ⟨i0, j0, e, h1, h2, h3, h4, h5, h6, h7, h8, h9⟩ := h
  have b1 := h1.1
  have b3 := h3.1
  have b4 := h4.1
  have b6 := h6.1
  have b7 := h7.1
  omega
/-- of the class: line q is blank -/
def zLbk (g st : Int → Int) (q : Int) : Prop := zFst (fun j => g j = 32) (st (q + 1) - 1) (st q) (st (q + 1) - 1)
theorem zLbk_i {g st : Int → Int} {q x : Int} (h : zFst (fun j => g j = 32) (st (q + 1) - 1) (st q) x ∨ st (q + 1) - 1 < st q ∧ x = st q) : x = st (q + 1) - 1 ↔ zLbk g st q := by
  constructor
  · intro z
    rcases h with h | h
    · rw [z] at h
      exact h
    · omega
  · intro z
    rcases h with h | h
    · exact h.eq z
    · have := z.1
      omega
theorem zLbk_bl {g st : Int → Int} {q : Int} (h : st q < st (q + 1)) : zLbk g st q ↔ zBl (zLb g (st q) (st (q + 1) - 1 - st q)) (st (q + 1) - 1 - st q) := by
  constructor
  · intro z j j0 j1
    rw [zLb_at ⟨j0, j1⟩]
    exact z.2.1 (st q + j) (by omega) (by omega)
  · intro z
    refine ⟨by omega, fun j j0 j1 => ?_, Or.inl rfl⟩
    have t := z (j - st q) (by omega) (by omega)
    rw [zLb_at (by omega), show st q + (j - st q) = j by omega] at t
    exact t
/-- of the class: whether the line from s to t is just # ifndef NAME, x bytes from v on -/
def zGe (g : Int → Int) (s t x v : Int) : Prop := zGtw (zLb g s (t - s)) (t - s) x (v - s) ∨ x = 0 ∧ ¬ ∃ y r, zGtw (zLb g s (t - s)) (t - s) y r
theorem zRole.hash {g : Int → Int} {s t i r : Int} (h : zRole (zLb g s (t - s)) (t - s) r) (hr : r ≠ 0) (hs : s ≤ t) (h1 : zFst (fun q => g q = 32) t s i) : i < t ∧ g i = 35 := by
  have r1 : zFst (fun q => zLb g s (t - s) q = 32) (t - s) (s - s) (i - s) := h1.rel rfl (fun q q0 q1 => by rw [zLb_at (by omega)])
  rw [show s - s = 0 by omega] at r1
  have b1 := h1.1
  obtain ⟨i0, p1, p2⟩ := h
  obtain rfl := p1.eq r1
  obtain ⟨q1, q2⟩ := (p2.resolve_left (fun z => hr z.2)).1
  rw [zLb_at (by omega), show s + (i - s) = i by omega] at q2
  exact ⟨by omega, q2⟩
theorem zGtw.cls {g : Int → Int} {s t i j e p e2 : Int} (hs : 0 ≤ s ∧ s ≤ t ∧ t ≤ 401) (h1 : zFst (fun q => g q = 32) t s i) (h2 : i < t ∧ g i = 35) (h3 : zFst (fun q => g q = 32) t (i + 1) j) (h4 : zFst (fun q => zWd (g q) = 1) t j e) (h5 : zSy g 401 j e 3) (h6 : zFst (fun q => g q = 32) t e p) (h7 : zFst (fun q => zWd (g q) = 1) t p e2) (h8 : 1 ≤ e2 - p ∧ e2 - p ≤ 30) (h9 : ¬ (48 ≤ g p ∧ g p ≤ 57)) (h10 : zFst (fun q => g q = 32) t e2 t) : zGtw (zLb g s (t - s)) (t - s) (e2 - p) (p - s) := by
  have b1 := h1.1
  have b3 := h3.1
  have b4 := h4.1
  have b6 := h6.1
  have b7 := h7.1
  have r1 : zFst (fun q => zLb g s (t - s) q = 32) (t - s) (s - s) (i - s) := h1.rel rfl (fun q q0 q1 => by rw [zLb_at (by omega)])
  have r3 : zFst (fun q => zLb g s (t - s) q = 32) (t - s) (i + 1 - s) (j - s) := h3.rel rfl (fun q q0 q1 => by rw [zLb_at (by omega)])
  have r4 : zFst (fun q => zWd (zLb g s (t - s) q) = 1) (t - s) (j - s) (e - s) := h4.rel rfl (fun q q0 q1 => by rw [zLb_at (by omega)])
  have r6 : zFst (fun q => zLb g s (t - s) q = 32) (t - s) (e - s) (p - s) := h6.rel rfl (fun q q0 q1 => by rw [zLb_at (by omega)])
  have r7 : zFst (fun q => zWd (zLb g s (t - s) q) = 1) (t - s) (p - s) (e2 - s) := h7.rel rfl (fun q q0 q1 => by rw [zLb_at (by omega)])
  rw [show s - s = 0 by omega] at r1
  rw [show i + 1 - s = i - s + 1 by omega] at r3
  rw [show e2 - s = p - s + (e2 - p) by omega] at r7
  refine ⟨i - s, j - s, e - s, r1, ⟨by omega, by rw [zLb_at (by omega), show s + (i - s) = i by omega]; exact h2.2⟩, r3, r4, (zSy_wo (by omega)).mp h5, r6, r7, h8, ?_, fun q q0 q1 => ?_⟩
  · rw [zLb_at (by omega), show s + (p - s) = p by omega]
    exact h9
  · rw [zLb_at (by omega)]
    exact h10.2.1 (s + q) (by omega) (by omega)
theorem zGtw.inv {g : Int → Int} {s t i j e y r : Int} (hs : 0 ≤ s ∧ s ≤ t ∧ t ≤ 401) (h1 : zFst (fun q => g q = 32) t s i) (h3 : zFst (fun q => g q = 32) t (i + 1) j) (h4 : zFst (fun q => zWd (g q) = 1) t j e) (hq : zGtw (zLb g s (t - s)) (t - s) y r) : zSy g 401 j e 3 ∧ ∀ p e2, zFst (fun q => g q = 32) t e p → zFst (fun q => zWd (g q) = 1) t p e2 → (y = e2 - p ∧ r = p - s) ∧ (1 ≤ e2 - p ∧ e2 - p ≤ 30) ∧ ¬ (48 ≤ g p ∧ g p ≤ 57) ∧ ∀ z, zFst (fun q => g q = 32) t e2 z → z = t := by
  have b1 := h1.1
  have b3 := h3.1
  have b4 := h4.1
  have r1 : zFst (fun q => zLb g s (t - s) q = 32) (t - s) (s - s) (i - s) := h1.rel rfl (fun q q0 q1 => by rw [zLb_at (by omega)])
  have r3 : zFst (fun q => zLb g s (t - s) q = 32) (t - s) (i + 1 - s) (j - s) := h3.rel rfl (fun q q0 q1 => by rw [zLb_at (by omega)])
  have r4 : zFst (fun q => zWd (zLb g s (t - s) q) = 1) (t - s) (j - s) (e - s) := h4.rel rfl (fun q q0 q1 => by rw [zLb_at (by omega)])
  rw [show s - s = 0 by omega] at r1
  rw [show i + 1 - s = i - s + 1 by omega] at r3
  obtain ⟨i0, j0, e0, g1, g2, g3, g4, g5, g6, g7, g8, g9, g10⟩ := hq
  obtain rfl := g1.eq r1
  obtain rfl := g3.eq r3
  obtain rfl := g4.eq r4
  refine ⟨(zSy_wo (by omega)).mpr g5, fun p e2 h6 h7 => ?_⟩
  have b6 := h6.1
  have b7 := h7.1
  have r6 : zFst (fun q => zLb g s (t - s) q = 32) (t - s) (e - s) (p - s) := h6.rel rfl (fun q q0 q1 => by rw [zLb_at (by omega)])
  have r7 : zFst (fun q => zWd (zLb g s (t - s) q) = 1) (t - s) (p - s) (e2 - s) := h7.rel rfl (fun q q0 q1 => by rw [zLb_at (by omega)])
  obtain rfl := g6.eq r6
  have e7 := g7.eq r7
  refine ⟨⟨by omega, rfl⟩, by omega, ?_, fun z hz => ?_⟩
  · rw [zLb_at (by omega), show s + (p - s) = p by omega] at g9
    exact g9
  · have bz := hz.1
    by_cases z1 : z = t
    · exact z1
    · have z3 := g10 (z - s) (by omega) (by omega)
      rw [zLb_at (by omega), show s + (z - s) = z by omega] at z3
      exact absurd z3 (hz.2.2.resolve_left z1)
/-- of the class: whether the file is guarded -/
def zGo (g st W : Int → Int) (n f l : Int) : Prop := zFst (zLbk g st) n 0 f ∧ zLsw (zLbk g st) n f l ∧ f < l ∧ zNxw W n f l ∧ W l = 4
def zGc (g st W : Int → Int) (n x v : Int) : Prop := x = 0 ∧ (¬ ∃ f l, zGo g st W n f l) ∨ ∃ f l, zGo g st W n f l ∧ (st f < st (f + 1) → zRole (zLb g (st f) (st (f + 1) - 1 - st f)) (st (f + 1) - 1 - st f) (W f) → zGe g (st f) (st (f + 1) - 1) x v)
theorem zGo.w {g st W : Int → Int} {n f l : Int} (h : zGo g st W n f l) : (0 ≤ f ∧ l < n) ∧ W f ≠ 0 ∧ zBh W n f l := by
  obtain ⟨h1, h2, h3, h4, h5⟩ := h
  have b1 := h1.1
  have b2 := h2.1
  rcases h4 with ⟨q1, q2⟩ | ⟨q1, q2⟩
  · omega
  · exact ⟨by omega, fun z => q1 (Or.inl z), q2⟩
/-- of lines: B the bytes, N how many -/
def zGdw (B : Int → Int → Int) (N W : Int → Int) (n f l x p : Int) : Prop := zFst (fun q => zBl (B q) (N q)) n 0 f ∧ zLsw (fun q => zBl (B q) (N q)) n f l ∧ f < l ∧ W l = 4 ∧ zBh W n f l ∧ zGtw (B f) (N f) x p
def zGq (B : Int → Int → Int) (N W st : Int → Int) (n x v : Int) : Prop := (∃ f l p, zGdw B N W n f l x p ∧ v = st f + p) ∨ x = 0 ∧ ¬ ∃ f l y p, zGdw B N W n f l y p
def zGrw (B : Int → Int → Int) (N W : Int → Int) (n x : Int) (nm : Int → Int) : Prop := (∃ f l p, zGdw B N W n f l x p ∧ ∀ i, 0 ≤ i → i < x → nm i = B f (p + i)) ∨ x = 0 ∧ ¬ ∃ f l y p, zGdw B N W n f l y p
theorem zGdw.eq {B : Int → Int → Int} {N W : Int → Int} {n f l x p f2 l2 y r : Int} (h : zGdw B N W n f l x p) (g : zGdw B N W n f2 l2 y r) : f = f2 ∧ x = y ∧ p = r := by
  obtain ⟨h1, h2, h3, h4, h5, h6⟩ := h
  obtain ⟨g1, g2, g3, g4, g5, g6⟩ := g
  obtain rfl := h1.eq g1
  obtain ⟨e1, e2⟩ := h6.eq g6
  exact ⟨rfl, e1, e2⟩
theorem zGdw.cg {B B2 : Int → Int → Int} {N N2 W : Int → Int} {n f l x p : Int} (h : zGdw B N W n f l x p) (e : ∀ q, 0 ≤ q → q < n → B q = B2 q ∧ N q = N2 q) : zGdw B2 N2 W n f l x p := by
  obtain ⟨h1, h2, h3, h4, h5, h6⟩ := h
  have b1 := h1.1
  have b2 := h2.1
  obtain ⟨e1, e2⟩ := e f b1.1 (by omega)
  rw [e1, e2] at h6
  have ee : ∀ q, 0 ≤ q → q < n → (zBl (B q) (N q) ↔ zBl (B2 q) (N2 q)) := fun q q0 q1 => by rw [(e q q0 q1).1, (e q q0 q1).2]
  exact ⟨h1.cg ee, h2.cg b1.1 ee, h3, h4, h5, h6⟩
theorem zGc.gq {g st W : Int → Int} {n x v : Int} (h : zGc g st W n x v) (inc : ∀ l, 0 ≤ l → l < n → st l < st (l + 1)) (hw : ∀ l, 0 ≤ l → l < n → zRole (zLb g (st l) (st (l + 1) - 1 - st l)) (st (l + 1) - 1 - st l) (W l)) : zGq (fun l => zLb g (st l) (st (l + 1) - 1 - st l)) (fun l => st (l + 1) - 1 - st l) W st n x v := by
  have ee : ∀ q, 0 ≤ q → q < n → (zLbk g st q ↔ zBl (zLb g (st q) (st (q + 1) - 1 - st q)) (st (q + 1) - 1 - st q)) := fun q q0 q1 => zLbk_bl (inc q q0 q1)
  have up : ∀ f l y p, zGdw (fun l => zLb g (st l) (st (l + 1) - 1 - st l)) (fun l => st (l + 1) - 1 - st l) W n f l y p → zGo g st W n f l := fun f l y p hd => by
    obtain ⟨h1, h2, h3, h4, h5, h6⟩ := hd
    have b1 := h1.1
    have b2 := h2.1
    have wf : W f = 1 := (hw f b1.1 (by omega)).eq h6.role
    exact ⟨h1.cg (fun q q0 q1 => (ee q q0 q1).symm), h2.cg b1.1 (fun q q0 q1 => (ee q q0 q1).symm), h3, Or.inr ⟨fun z => by omega, h5⟩, h4⟩
  rcases h with ⟨h1, h2⟩ | ⟨f, l, h1, h2⟩
  · exact Or.inr ⟨h1, fun ⟨f, l, y, p, hd⟩ => h2 ⟨f, l, up f l y p hd⟩⟩
  · obtain ⟨w1, w2, w3⟩ := h1.w
    have b3 := h1.2.2.1
    have h3 := h2 (inc f w1.1 (by omega)) (hw f w1.1 (by omega))
    obtain ⟨c1, c2, c3, c4, c5⟩ := h1
    rcases h3 with h3 | ⟨h3, h4⟩
    · exact Or.inl ⟨f, l, v - st f, ⟨c1.cg ee, c2.cg w1.1 ee, c3, c5, w3, h3⟩, by omega⟩
    · refine Or.inr ⟨h3, fun ⟨f2, l2, y, p, hd⟩ => h4 ?_⟩
      have hu := up f2 l2 y p hd
      obtain rfl := c1.eq hu.1
      exact ⟨y, p, hd.2.2.2.2.2⟩
theorem zGq.eq {B B2 : Int → Int → Int} {N N2 W st : Int → Int} {n x v y : Int} {nm : Int → Int} (h : zGq B N W st n x v) (g : zGrw B2 N2 W n y nm) (e : ∀ q, 0 ≤ q → q < n → B q = B2 q ∧ N q = N2 q) : x = y ∧ (x = 0 ∨ ∃ f p, (0 ≤ f ∧ f < n) ∧ v = st f + p ∧ zGtw (B f) (N f) x p ∧ ∀ i, 0 ≤ i → i < x → nm i = B f (p + i)) := by
  have e' : ∀ q, 0 ≤ q → q < n → B2 q = B q ∧ N2 q = N q := fun q q0 q1 => ⟨(e q q0 q1).1.symm, (e q q0 q1).2.symm⟩
  rcases h with ⟨f, l, p, h1, h2⟩ | ⟨h1, h2⟩ <;> rcases g with ⟨f2, l2, p2, g1, g2⟩ | ⟨g1, g2⟩
  · obtain ⟨rfl, rfl, rfl⟩ := h1.eq (g1.cg e')
    have b1 := h1.1.1
    have b2 := h1.2.1.1
    have b3 := h1.2.2.1
    refine ⟨rfl, Or.inr ⟨f, p, by omega, h2, h1.2.2.2.2.2, fun i i0 i1 => ?_⟩⟩
    rw [g2 i i0 i1, (e f b1.1 (by omega)).1]
  · exact absurd ⟨f, l, x, p, h1.cg e⟩ g2
  · exact absurd ⟨f2, l2, y, p2, g1.cg e'⟩ h2
  · exact ⟨by omega, Or.inl h1⟩
/-! a page's guard -/
def zGp (M : zMm) (p : Nat) : Prop := zGc (M (p + 1)) (M (p + 2)) (M (p + 3)) (M p 3) (M p 6) (M p 5)
theorem zGp.cg {M M2 : zMm} {p : Nat} (h : zGp M p) (e : zSw M M2 p) : zGp M2 p := by
  obtain ⟨⟨e1, e2, e3⟩, ⟨e5, e6⟩, e7⟩ := e
  unfold zGp
  rw [show M2 (p + 1) = M (p + 1) from funext e2, show M2 (p + 2) = M (p + 2) from funext e3, show M2 (p + 3) = M (p + 3) from funext e7, e1, e5, e6]
  exact h
theorem zIw_cg {W W2 : Int → Int} : ∀ n : Nat, (∀ j, 0 ≤ j → j < (n : Int) → W2 j = W j) → zIw W2 n = zIw W n
  | 0, _ => rfl
  | n + 1, h => by
    have ih := zIw_cg n (fun j j0 j1 => h j j0 (by omega))
    have e := h n (by omega) (by omega)
    show (if W2 n = 1 then zIw W2 n + 1 else if W2 n = 4 ∧ 0 < zIw W2 n then zIw W2 n - 1 else zIw W2 n) = if W n = 1 then zIw W n + 1 else if W n = 4 ∧ 0 < zIw W n then zIw W n - 1 else zIw W n
    rw [ih, e]
theorem zDe_cg {W W2 : Int → Int} {l : Int} : ∀ n : Nat, (∀ j, l < j → j < l + 1 + n → W2 j = W j) → zDe W2 l n = zDe W l n
  | 0, _ => rfl
  | n + 1, h => by
    have ih := zDe_cg n (fun j j0 j1 => h j j0 (by omega))
    have e := h (l + 1 + n) (by omega) (by omega)
    show (zDe W2 l n + if W2 (l + 1 + n) = 1 then 1 else if W2 (l + 1 + n) = 4 then -1 else 0) = zDe W l n + if W (l + 1 + n) = 1 then 1 else if W (l + 1 + n) = 4 then -1 else 0
    rw [ih, e]
theorem zBh.cg {W W2 : Int → Int} {n l x : Int} (h : zBh W n l x) (e : ∀ j, l < j → j < n → W2 j = W j) : zBh W2 n l x := by
  have d : ∀ i, l < i → i < n → zDe W2 l (i - (l + 1)).toNat = zDe W l (i - (l + 1)).toNat := fun i i0 i1 => zDe_cg _ (fun j j0 j1 => e j j0 (by omega))
  rcases h with ⟨h1, h2⟩ | ⟨h1, h2, h3, h4⟩
  · exact Or.inl ⟨h1, fun i i0 i1 => by rw [e i i0 i1, d i i0 i1]; exact h2 i i0 i1⟩
  · exact Or.inr ⟨h1, by rw [e x h1.1 h1.2]; exact h2, by rw [d x h1.1 h1.2]; exact h3, fun i i0 i1 => by rw [e i i0 (by omega), d i i0 (by omega)]; exact h4 i i0 i1⟩
theorem zNxw.cg {W W2 : Int → Int} {n l x : Int} (h : zNxw W n l x) (hl : 0 ≤ l ∧ l < n) (e : ∀ j, 0 ≤ j → j < n → W2 j = W j) : zNxw W2 n l x := by
  unfold zNxw
  rw [e l hl.1 hl.2, zIw_cg (W := W) (W2 := W2) l.toNat (fun j j0 j1 => e j j0 (by omega))]
  rcases h with h | ⟨h1, h2⟩
  · exact Or.inl h
  · exact Or.inr ⟨h1, h2.cg (fun j j0 j1 => e j (by omega) j1)⟩
theorem zLbk.cg {g g2 st st2 : Int → Int} {q : Int} (hs : st2 q = st q ∧ st2 (q + 1) = st (q + 1)) (hb : 0 ≤ st q ∧ st (q + 1) ≤ 401) (eg : ∀ j, 0 ≤ j → j < 401 → g2 j = g j) : zLbk g st q ↔ zLbk g2 st2 q := by
  unfold zLbk
  rw [hs.1, hs.2]
  constructor
  · exact fun h => h.cg (fun j j0 j1 => by rw [eg j (by omega) (by omega)])
  · exact fun h => h.cg (fun j j0 j1 => by rw [eg j (by omega) (by omega)])
theorem zGc.cg {g g2 st st2 W W2 : Int → Int} {n x v : Int} (h : zGc g st W n x v) (hb : ∀ l, 0 ≤ l → l ≤ n → 0 ≤ st l ∧ st l ≤ 401) (eg : ∀ j, 0 ≤ j → j < 401 → g2 j = g j) (es : ∀ l, 0 ≤ l → l ≤ n → st2 l = st l) (ew : ∀ l, 0 ≤ l → l < n → W2 l = W l) : zGc g2 st2 W2 n x v := by
  have ee : ∀ q, 0 ≤ q → q < n → (zLbk g st q ↔ zLbk g2 st2 q) := fun q q0 q1 => zLbk.cg ⟨es q q0 (by omega), es (q + 1) (by omega) (by omega)⟩ ⟨(hb q q0 (by omega)).1, (hb (q + 1) (by omega) (by omega)).2⟩ eg
  have go : ∀ f l, zGo g st W n f l → zGo g2 st2 W2 n f l := fun f l q => by
    obtain ⟨c1, c2, c3, c4, c5⟩ := q
    have b1 := c1.1
    have b2 := c2.1
    exact ⟨c1.cg ee, c2.cg b1.1 ee, c3, c4.cg (by omega) ew, by rw [ew l (by omega) (by omega)]; exact c5⟩
  have og : ∀ f l, zGo g2 st2 W2 n f l → zGo g st W n f l := fun f l q => by
    obtain ⟨c1, c2, c3, c4, c5⟩ := q
    have b1 := c1.1
    have b2 := c2.1
    exact ⟨c1.cg (fun q q0 q1 => (ee q q0 q1).symm), c2.cg b1.1 (fun q q0 q1 => (ee q q0 q1).symm), c3, c4.cg (by omega) (fun j j0 j1 => (ew j j0 j1).symm), by rw [← ew l (by omega) (by omega)]; exact c5⟩
  rcases h with ⟨h1, h2⟩ | ⟨f, l, h1, h2⟩
  · exact Or.inl ⟨h1, fun ⟨f, l, q⟩ => h2 ⟨f, l, og f l q⟩⟩
  · obtain ⟨w1, w2, w3⟩ := h1.w
    have b3 := h1.2.2.1
    have b4 := (hb f w1.1 (by omega)).1
    have b5 := (hb (f + 1) (by omega) (by omega)).2
    refine Or.inr ⟨f, l, go f l h1, ?_⟩
    have el : zLb g2 (st f) (st (f + 1) - 1 - st f) = zLb g (st f) (st (f + 1) - 1 - st f) := zClip_cg (fun j j0 j1 => eg _ (by omega) (by omega))
    unfold zGe
    rw [es f w1.1 (by omega), es (f + 1) (by omega) (by omega), ew f w1.1 (by omega), el]
    exact h2

theorem c_X4_guardedBy_g {w : zWp} {T : zTl} {M : zMm} {J : zJm} {R : zRm'} {G : zGt} {F : zRm'} {a : Nat} (hI : zI G M) (hF : zF F R) (h0 : zPage T F G a) (v1 : Int) (p1 : 0 ≤ v1 ∧ v1 ≤ 39) : zCt w 10 0 0 yX4_guardedBy cX4_guardedBy 7 (some .int) [.ref (w.2.1 + a), zi v1] (T, M, J, R) (zPi T R G (fun x M2 => (zKr a 4 M M2) ∧ (x = 0 ∨ 0 < x ∧ x ≤ 30 ∧ M2 a 5 + x ≤ 401) ∧ (M2 a 3 = M a 3) ∧ (∀ i, M2 (a + 2) i = M (a + 2) i) ∧ (M2 a 4 = M a 4) ∧ (∀ i, M2 (a + 1) i = M (a + 1) i) ∧ (∀ i, M2 (a + 3) i = M (a + 3) i) ∧ (M (a + 2) v1 < M (a + 2) (v1 + 1) → zRole (zLb (M (a + 1)) (M (a + 2) v1) (M (a + 2) (v1 + 1) - 1 - M (a + 2) v1)) (M (a + 2) (v1 + 1) - 1 - M (a + 2) v1) (M (a + 3) v1) → M (a + 3) v1 ≠ 0 → zGe (M (a + 1)) (M (a + 2) v1) (M (a + 2) (v1 + 1) - 1) x (M2 a 5)))) := by
  refine zCt.of rfl (Nat.le_of_ble_eq_true rfl) ?_
  intro p e s m args below meth c C
  obtain ⟨Po, hPo⟩ : ∃ Po, Po = zPi T R G (fun x M2 => (zKr a 4 M M2) ∧ (x = 0 ∨ 0 < x ∧ x ≤ 30 ∧ M2 a 5 + x ≤ 401) ∧ (M2 a 3 = M a 3) ∧ (∀ i, M2 (a + 2) i = M (a + 2) i) ∧ (M2 a 4 = M a 4) ∧ (∀ i, M2 (a + 1) i = M (a + 1) i) ∧ (∀ i, M2 (a + 3) i = M (a + 3) i) ∧ (M (a + 2) v1 < M (a + 2) (v1 + 1) → zRole (zLb (M (a + 1)) (M (a + 2) v1) (M (a + 2) (v1 + 1) - 1 - M (a + 2) v1)) (M (a + 2) (v1 + 1) - 1 - M (a + 2) v1) (M (a + 3) v1) → M (a + 3) v1 ≠ 0 → zGe (M (a + 1)) (M (a + 2) v1) (M (a + 2) (v1 + 1) - 1) x (M2 a 5))) := ⟨_, rfl⟩
  rw [← hPo]
  have hK0 : zKr a 4 M M := zKr.rf
  have gs0 := zI.at hI (h0.2.2.2.2.2.2.1 v1)
  show zK w p e 10 0 0 s m args below meth c 7 T Po 0 [.ref (w.2.1 + a), zi v1, .null, .null, .null, .null, .null] [] (T, M, J, R)
  refine q_aload_n C dX4_guardedBy_0 (n := 1) rfl rfl ?_
  refine q_getR C dX4_guardedBy_1 (n := 4) rfl f_X4_15 h0.1 (hF _ _ _ h0.2.2.2.2.1) ?_
  refine q_iload_n C dX4_guardedBy_4 (n := 5) rfl rfl ?_
  refine q_iconst C dX4_guardedBy_5 (n := 6) rfl ?_
  refine q_iadd C dX4_guardedBy_6 (n := 7) rfl (v := v1 + 1) rfl ?_
  have g1 := zI.at hI (h0.2.2.2.2.2.2.1 (v1 + 1))
  refine q_iald C dX4_guardedBy_7 (n := 8) rfl h0.2.2.2.2.2.1 (by omega) (v := M (a + 2) (v1 + 1)) rfl ?_
  refine q_iconst C dX4_guardedBy_8 (n := 9) rfl ?_
  refine q_isub C dX4_guardedBy_9 (n := 10) rfl (v := (M (a + 2) (v1 + 1)) - 1) rfl ?_
  refine q_istore_n C [.ref (w.2.1 + a), zi v1, zi ((M (a + 2) (v1 + 1)) - 1), .null, .null, .null, .null] dX4_guardedBy_10 (n := 11) rfl rfl rfl ?_
  refine q_aload_n C dX4_guardedBy_11 (n := 12) rfl rfl ?_
  refine q_aload_n C dX4_guardedBy_12 (n := 13) rfl rfl ?_
  refine q_iload_n C dX4_guardedBy_13 (n := 14) rfl rfl ?_
  refine q_callVp C dX4_guardedBy_14 (n := 17) rfl m_X4_67 v_yX4_firstOf h0.1 ⟨by decide, rfl⟩ (c_X4_firstOf_e (w := w) (J := J) hI hF h0 v1 (by omega)) (Nat.le_of_ble_eq_true rfl) rfl rfl (Nat.le_of_ble_eq_true rfl) ⟨Nat.le_refl _, Nat.le_refl _⟩ (fun x4 h5 => ?_)
  obtain ⟨h2, h3⟩ := h5
  have hg1 := h3
  refine q_iconst C dX4_guardedBy_17 (n := 18) rfl ?_
  refine q_iadd C dX4_guardedBy_18 (n := 19) rfl (v := x4 + 1) rfl ?_
  refine q_iload_n C dX4_guardedBy_19 (n := 20) rfl rfl ?_
  refine q_callVp C dX4_guardedBy_20 (n := 23) rfl m_X4_49 v_yX4_skipBlanks h0.1 ⟨by decide, rfl⟩ (c_X4_skipBlanks_e (w := w) (J := J) hI hF h0 (x4 + 1) ((M (a + 2) (v1 + 1)) - 1) (by omega) (by omega)) (Nat.le_of_ble_eq_true rfl) rfl rfl (Nat.le_of_ble_eq_true rfl) ⟨Nat.le_refl _, Nat.le_refl _⟩ (fun x8 h9 => ?_)
  obtain ⟨h6, h7⟩ := h9
  have hg3 := h7
  refine q_istore_n C [.ref (w.2.1 + a), zi v1, zi ((M (a + 2) (v1 + 1)) - 1), zi x8, .null, .null, .null] dX4_guardedBy_23 (n := 24) rfl rfl rfl ?_
  refine q_aload_n C dX4_guardedBy_24 (n := 25) rfl rfl ?_
  refine q_iload_n C dX4_guardedBy_25 (n := 26) rfl rfl ?_
  refine q_iload_n C dX4_guardedBy_26 (n := 27) rfl rfl ?_
  refine q_callVp C dX4_guardedBy_27 (n := 30) rfl m_X4_70 v_yX4_skipWord h0.1 ⟨by decide, rfl⟩ (c_X4_skipWord_e (w := w) (J := J) hI hF h0 x8 ((M (a + 2) (v1 + 1)) - 1) (by omega) (by omega)) (Nat.le_of_ble_eq_true rfl) rfl rfl (Nat.le_of_ble_eq_true rfl) ⟨Nat.le_refl _, Nat.le_refl _⟩ (fun x12 h13 => ?_)
  obtain ⟨h10, h11⟩ := h13
  have hg4 := h11
  refine q_istore C [.ref (w.2.1 + a), zi v1, zi ((M (a + 2) (v1 + 1)) - 1), zi x8, zi x12, .null, .null] dX4_guardedBy_30 (n := 32) rfl rfl rfl ?_
  refine q_aload_n C dX4_guardedBy_32 (n := 33) rfl rfl ?_
  refine q_getR C dX4_guardedBy_33 (n := 36) rfl f_X4_9 h0.1 (hF _ _ _ h0.2.1) ?_
  refine q_iload_n C dX4_guardedBy_36 (n := 37) rfl rfl ?_
  refine q_iload C dX4_guardedBy_37 (n := 39) rfl rfl ?_
  refine q_ldcS C dX4_guardedBy_39 (n := 41) rfl (k := 3) (by decide) ?_
  refine q_callSp C dX4_guardedBy_41 (n := 44) rfl m_X4_75 s_yX10_says (c_X10_says_e (w := w) (J := J) hI hF h0.2.2.1 h0.2.2.2.1 x8 x12 3 (by decide) (by omega) (by omega) (by omega)) (Nat.le_of_ble_eq_true rfl) rfl rfl (Nat.le_of_ble_eq_true rfl) ⟨Nat.le_refl _, Nat.le_refl _⟩ (fun x16 h17 => ?_)
  obtain ⟨h14, h15⟩ := h17
  have hgs := h15
  refine q_if_ne C 49 dX4_guardedBy_44 (n := 47) rfl rfl (by omega) (fun h18 => ?_) (fun h18 => ?_)
  · refine q_aload_n C dX4_guardedBy_49 (n := 50) rfl rfl ?_
    refine q_aload_n C dX4_guardedBy_50 (n := 51) rfl rfl ?_
    refine q_iload C dX4_guardedBy_51 (n := 53) rfl rfl ?_
    refine q_iload_n C dX4_guardedBy_53 (n := 54) rfl rfl ?_
    refine q_callVp C dX4_guardedBy_54 (n := 57) rfl m_X4_49 v_yX4_skipBlanks h0.1 ⟨by decide, rfl⟩ (c_X4_skipBlanks_e (w := w) (J := J) hI hF h0 x12 ((M (a + 2) (v1 + 1)) - 1) (by omega) (by omega)) (Nat.le_of_ble_eq_true rfl) rfl rfl (Nat.le_of_ble_eq_true rfl) ⟨Nat.le_refl _, Nat.le_refl _⟩ (fun x21 h22 => ?_)
    obtain ⟨h19, h20⟩ := h22
    have hg6 := h20
    refine q_putI C dX4_guardedBy_57 (n := 60) rfl f_X4_30 h0.1 ⟨rfl, rfl⟩ (fun M23 (e24 : M23 = zup M a 5 x21) => ?_)
    have hI25 : zI G M23 := hI.put e24 h0.2.2.2.2.2.2.2.2.2.2.2.2.1 rfl (by omega)
    have hK26 := hK0.put e24 (by omega)
    refine q_aload_n C dX4_guardedBy_60 (n := 61) rfl rfl ?_
    refine q_aload_n C dX4_guardedBy_61 (n := 62) rfl rfl ?_
    refine q_getI C dX4_guardedBy_62 (n := 65) rfl f_X4_30 h0.1 (v := x21) (zup_s e24) ?_
    refine q_iload_n C dX4_guardedBy_65 (n := 66) rfl rfl ?_
    refine q_callVp C dX4_guardedBy_66 (n := 69) rfl m_X4_70 v_yX4_skipWord h0.1 ⟨by decide, rfl⟩ (c_X4_skipWord_e (w := w) (J := J) hI25 hF h0 x21 ((M (a + 2) (v1 + 1)) - 1) (by omega) (by omega)) (Nat.le_of_ble_eq_true rfl) rfl rfl (Nat.le_of_ble_eq_true rfl) ⟨Nat.le_refl _, Nat.le_refl _⟩ (fun x29 h30 => ?_)
    obtain ⟨h27, h28⟩ := h30
    have hg7 := h28
    rw [show M23 (a + 1) = M (a + 1) from funext (fun i => (zup_p e24 (by omega) _))] at hg7
    refine q_aload_n C dX4_guardedBy_69 (n := 70) rfl rfl ?_
    refine q_getI C dX4_guardedBy_70 (n := 73) rfl f_X4_30 h0.1 (v := x21) (zup_s e24) ?_
    refine q_isub C dX4_guardedBy_73 (n := 74) rfl (v := x29 - x21) rfl ?_
    refine q_istore C [.ref (w.2.1 + a), zi v1, zi ((M (a + 2) (v1 + 1)) - 1), zi x8, zi x12, zi (x29 - x21), .null] dX4_guardedBy_74 (n := 76) rfl rfl rfl ?_
    refine q_iload C dX4_guardedBy_76 (n := 78) rfl rfl ?_
    have J_36 : ∀ (u31 : Int), (-2147483648 ≤ u31 ∧ u31 ≤ 2147483647) → (u31 = 0 ∨ u31 = 1) → (u31 = 0 ∨ 0 < (x29 - x21) ∧ (x29 - x21) ≤ 30) → (u31 = 1 ∧ (0 < (x29 - x21) ∧ (x29 - x21) ≤ 30 ∧ ¬ (48 ≤ M (a + 1) (M23 a 5) ∧ M (a + 1) (M23 a 5) ≤ 57)) ∨ u31 = 0 ∧ ¬ (0 < (x29 - x21) ∧ (x29 - x21) ≤ 30 ∧ ¬ (48 ≤ M (a + 1) (M23 a 5) ∧ M (a + 1) (M23 a 5) ≤ 57))) → zK w p e 10 0 0 s m args below meth c 7 T Po 108 [.ref (w.2.1 + a), .null, zi ((M (a + 2) (v1 + 1)) - 1), .null, .null, zi (x29 - x21), .null] [zi u31] (T, M23, J, R) := by
      intro u31 h32 h33 h34 h35
      refine q_istore C [.ref (w.2.1 + a), .null, zi ((M (a + 2) (v1 + 1)) - 1), .null, .null, zi (x29 - x21), zi u31] dX4_guardedBy_108 (n := 110) rfl rfl rfl ?_
      refine q_iload C dX4_guardedBy_110 (n := 112) rfl rfl ?_
      have J_41 : ∀ (u37 : Int), (-2147483648 ≤ u37 ∧ u37 ≤ 2147483647) → (u37 = 0 ∨ u37 = (x29 - x21) ∧ 0 < (x29 - x21) ∧ (x29 - x21) ≤ 30) → (M (a + 2) v1 < M (a + 2) (v1 + 1) → zRole (zLb (M (a + 1)) (M (a + 2) v1) (M (a + 2) (v1 + 1) - 1 - M (a + 2) v1)) (M (a + 2) (v1 + 1) - 1 - M (a + 2) v1) (M (a + 3) v1) → M (a + 3) v1 ≠ 0 → zGe (M (a + 1)) (M (a + 2) v1) (M (a + 2) (v1 + 1) - 1) u37 (M23 a 5)) → zK w p e 10 0 0 s m args below meth c 7 T Po 137 [.null, .null, .null, .null, .null, .null, .null] [zi u37] (T, M23, J, R) := by
        intro u37 h38 h39 h40
        exact q_iret C dX4_guardedBy_137 ⟨rfl, rfl⟩ (by rw [hPo]; exact ⟨u37, M23, J, rfl, rfl, hI25, hK26, (by have hz : M23 a 5 = x21 := (zup_s e24); omega), (by have hz : M23 a 3 = M a 3 := (zup_n e24 (by omega)); omega), (fun i => (zup_p e24 (by omega) _)), (by have hz42 : M23 a 4 = M a 4 := (zup_n e24 (by omega)); omega), (fun i => (zup_p e24 (by omega) _)), (fun i => (zup_p e24 (by omega) _)), h40⟩)
      refine q_if_eq C 136 dX4_guardedBy_112 (n := 115) rfl rfl (by omega) (fun h43 => ?_) (fun h43 => ?_)
      · refine q_iconst C dX4_guardedBy_136 (n := 137) rfl ?_
        exact zK.weak (J_41 0 (by omega) (by omega) (fun hlt hr hn => by rw [show M23 a 5 = x21 from (zup_s e24)]; have h1 := hg1.resolve_right (by omega); have b1 := h1.1; have hh := zRole.hash hr hn (by omega) h1; have h3 := hg3.resolve_right (by omega); have b3 := h3.1; have h4 := hg4.resolve_right (by omega); have b4 := h4.1; have h6 := hg6.resolve_right (by omega); have b6 := h6.1; have h7 := hg7.resolve_right (by omega); have b7 := h7.1; have f8 := h35; rw [show M23 a 5 = x21 from (zup_s e24)] at f8; exact Or.inr ⟨rfl, fun ⟨y, r, hq⟩ => by obtain ⟨i1, i2⟩ := zGtw.inv (by omega) h1 h3 h4 hq; obtain ⟨q1, q2, q3, q4⟩ := i2 _ _ h6 h7; omega⟩)) (zwk_n (zwk_n (zwk_n (zwk_n (zwk_n (zwk_n (zwk_n zwk_e)))))))
      · refine q_aload_n C dX4_guardedBy_115 (n := 116) rfl rfl ?_
        refine q_aload_n C dX4_guardedBy_116 (n := 117) rfl rfl ?_
        refine q_getI C dX4_guardedBy_117 (n := 120) rfl f_X4_30 h0.1 (v := x21) (zup_s e24) ?_
        refine q_iload C dX4_guardedBy_120 (n := 122) rfl rfl ?_
        refine q_iadd C dX4_guardedBy_122 (n := 123) rfl (v := x21 + (x29 - x21)) rfl ?_
        refine q_iload_n C dX4_guardedBy_123 (n := 124) rfl rfl ?_
        refine q_callVp C dX4_guardedBy_124 (n := 127) rfl m_X4_49 v_yX4_skipBlanks h0.1 ⟨by decide, rfl⟩ (c_X4_skipBlanks_e (w := w) (J := J) hI25 hF h0 (x21 + (x29 - x21)) ((M (a + 2) (v1 + 1)) - 1) (by omega) (by omega)) (Nat.le_of_ble_eq_true rfl) rfl rfl (Nat.le_of_ble_eq_true rfl) ⟨Nat.le_refl _, Nat.le_refl _⟩ (fun x46 h47 => ?_)
        obtain ⟨h44, h45⟩ := h47
        have hg10 := h45
        rw [show M23 (a + 1) = M (a + 1) from funext (fun i => (zup_p e24 (by omega) _))] at hg10
        rw [show (x21 + (x29 - x21) : Int) = x29 by omega] at hg10
        refine q_iload_n C dX4_guardedBy_127 (n := 128) rfl rfl ?_
        refine q_icmp_ne C 136 dX4_guardedBy_128 (n := 131) rfl rfl (by omega) (fun h48 => ?_) (fun h48 => ?_)
        · refine q_iconst C dX4_guardedBy_136 (n := 137) rfl ?_
          exact zK.weak (J_41 0 (by omega) (by omega) (fun hlt hr hn => by rw [show M23 a 5 = x21 from (zup_s e24)]; have h1 := hg1.resolve_right (by omega); have b1 := h1.1; have hh := zRole.hash hr hn (by omega) h1; have h3 := hg3.resolve_right (by omega); have b3 := h3.1; have h4 := hg4.resolve_right (by omega); have b4 := h4.1; have h6 := hg6.resolve_right (by omega); have b6 := h6.1; have h7 := hg7.resolve_right (by omega); have b7 := h7.1; have f8 := h35; rw [show M23 a 5 = x21 from (zup_s e24)] at f8; have h10 := hg10.resolve_right (by omega); exact Or.inr ⟨rfl, fun ⟨y, r, hq⟩ => by obtain ⟨i1, i2⟩ := zGtw.inv (by omega) h1 h3 h4 hq; obtain ⟨q1, q2, q3, q4⟩ := i2 _ _ h6 h7; have q5 := q4 _ h10; omega⟩)) (zwk_n (zwk_n (zwk_n (zwk_n (zwk_n (zwk_n (zwk_n zwk_e)))))))
        · refine q_iload C dX4_guardedBy_131 (n := 133) rfl rfl ?_
          refine q_goto C 137 dX4_guardedBy_133 rfl ?_
          exact zK.weak (J_41 (x29 - x21) (by omega) (by omega) (fun hlt hr hn => by rw [show M23 a 5 = x21 from (zup_s e24)]; have h1 := hg1.resolve_right (by omega); have b1 := h1.1; have hh := zRole.hash hr hn (by omega) h1; have h3 := hg3.resolve_right (by omega); have b3 := h3.1; have h4 := hg4.resolve_right (by omega); have b4 := h4.1; have h6 := hg6.resolve_right (by omega); have b6 := h6.1; have h7 := hg7.resolve_right (by omega); have b7 := h7.1; have f8 := h35; rw [show M23 a 5 = x21 from (zup_s e24)] at f8; have h10 := hg10.resolve_right (by omega); rw [show (x46 : Int) = M (a + 2) (v1 + 1) - 1 by omega] at h10; exact Or.inl (zGtw.cls (by omega) h1 hh h3 h4 (hgs.mp (by omega)) h6 h7 (by omega) (by omega) h10))) (zwk_n (zwk_n (zwk_n (zwk_n (zwk_n (zwk_n (zwk_n zwk_e)))))))
    refine q_if_le C 107 dX4_guardedBy_78 (n := 81) rfl rfl (by omega) (fun h49 => ?_) (fun h49 => ?_)
    · refine q_iconst C dX4_guardedBy_107 (n := 108) rfl ?_
      exact zK.weak (J_36 0 (by omega) (by omega) (by omega) (by rw [show M23 a 5 = x21 from (zup_s e24)]; omega)) (zwk_c (zwk_n (zwk_c (zwk_n (zwk_n (zwk_c (zwk_n zwk_e)))))))
    · refine q_iload C dX4_guardedBy_81 (n := 83) rfl rfl ?_
      refine q_bipush C dX4_guardedBy_83 (n := 85) rfl (x := 30) (by decide) ?_
      refine q_icmp_gt C 107 dX4_guardedBy_85 (n := 88) rfl rfl (by omega) (fun h50 => ?_) (fun h50 => ?_)
      · refine q_iconst C dX4_guardedBy_107 (n := 108) rfl ?_
        exact zK.weak (J_36 0 (by omega) (by omega) (by omega) (by rw [show M23 a 5 = x21 from (zup_s e24)]; omega)) (zwk_c (zwk_n (zwk_c (zwk_n (zwk_n (zwk_c (zwk_n zwk_e)))))))
      · refine q_aload_n C dX4_guardedBy_88 (n := 89) rfl rfl ?_
        refine q_getR C dX4_guardedBy_89 (n := 92) rfl f_X4_9 h0.1 (hF _ _ _ h0.2.1) ?_
        refine q_aload_n C dX4_guardedBy_92 (n := 93) rfl rfl ?_
        refine q_getI C dX4_guardedBy_93 (n := 96) rfl f_X4_30 h0.1 (v := x21) (zup_s e24) ?_
        have g51 := zI.at hI (h0.2.2.2.1 x21)
        refine q_bald C dX4_guardedBy_96 (n := 97) rfl h0.2.2.1 (by omega) (v := M (a + 1) x21) (zup_p e24 (by omega) _) ?_
        refine q_callSp C dX4_guardedBy_97 (n := 100) rfl m_X4_95 s_yX10_isDigit (c_X10_isDigit_e (w := w) (J := J) hI25 hF (M (a + 1) x21) (by omega)) (Nat.le_of_ble_eq_true rfl) rfl rfl (Nat.le_of_ble_eq_true rfl) ⟨Nat.le_refl _, Nat.le_refl _⟩ (fun x54 h55 => ?_)
        obtain ⟨h52, h53⟩ := h55
        refine q_if_ne C 107 dX4_guardedBy_100 (n := 103) rfl rfl (by omega) (fun h56 => ?_) (fun h56 => ?_)
        · refine q_iconst C dX4_guardedBy_107 (n := 108) rfl ?_
          exact zK.weak (J_36 0 (by omega) (by omega) (by omega) (by rw [show M23 a 5 = x21 from (zup_s e24)]; omega)) (zwk_c (zwk_n (zwk_c (zwk_n (zwk_n (zwk_c (zwk_n zwk_e)))))))
        · refine q_iconst C dX4_guardedBy_103 (n := 104) rfl ?_
          refine q_goto C 108 dX4_guardedBy_104 rfl ?_
          exact zK.weak (J_36 1 (by omega) (by omega) (by omega) (by rw [show M23 a 5 = x21 from (zup_s e24)]; omega)) (zwk_c (zwk_n (zwk_c (zwk_n (zwk_n (zwk_c (zwk_n zwk_e)))))))
  · refine q_iconst C dX4_guardedBy_47 (n := 48) rfl ?_
    exact q_iret C dX4_guardedBy_48 ⟨rfl, rfl⟩ (by rw [hPo]; exact ⟨0, M, J, rfl, rfl, hI, hK0, (by have hz : M a 5 = M a 5 := rfl; omega), (by have hz : M a 3 = M a 3 := rfl; omega), (fun i => rfl), (by omega), (fun i => rfl), (fun i => rfl), (fun hlt hr hn => by have h1 := hg1.resolve_right (by omega); have b1 := h1.1; have hh := zRole.hash hr hn (by omega) h1; have h3 := hg3.resolve_right (by omega); have b3 := h3.1; have h4 := hg4.resolve_right (by omega); have b4 := h4.1; exact Or.inr ⟨rfl, fun ⟨y, r, hq⟩ => by have h5 := (zGtw.inv (by omega) h1 h3 h4 hq).1; have h8 := hgs.mpr h5; omega⟩)⟩)
theorem c_X4_guardOf_g {w : zWp} {T : zTl} {M : zMm} {J : zJm} {R : zRm'} {G : zGt} {F : zRm'} {a : Nat} (hI : zI G M) (hF : zF F R) (h0 : zPage T F G a) : zCt w 11 0 0 yX4_guardOf cX4_guardOf 3 (some .int) [.ref (w.2.1 + a)] (T, M, J, R) (zPi T R G (fun x M2 => (zKr a 4 M M2) ∧ (x = 0 ∨ 0 < x ∧ x ≤ 30 ∧ M2 a 5 + x ≤ 401) ∧ (M2 a 3 = M a 3) ∧ (∀ i, M2 (a + 2) i = M (a + 2) i) ∧ (M2 a 4 = M a 4) ∧ (∀ i, M2 (a + 1) i = M (a + 1) i) ∧ (∀ i, M2 (a + 3) i = M (a + 3) i) ∧ (zGc (M (a + 1)) (M (a + 2)) (M (a + 3)) (M a 3) x (M2 a 5)))) := by
  refine zCt.of rfl (Nat.le_of_ble_eq_true rfl) ?_
  intro p e s m args below meth c C
  obtain ⟨Po, hPo⟩ : ∃ Po, Po = zPi T R G (fun x M2 => (zKr a 4 M M2) ∧ (x = 0 ∨ 0 < x ∧ x ≤ 30 ∧ M2 a 5 + x ≤ 401) ∧ (M2 a 3 = M a 3) ∧ (∀ i, M2 (a + 2) i = M (a + 2) i) ∧ (M2 a 4 = M a 4) ∧ (∀ i, M2 (a + 1) i = M (a + 1) i) ∧ (∀ i, M2 (a + 3) i = M (a + 3) i) ∧ (zGc (M (a + 1)) (M (a + 2)) (M (a + 3)) (M a 3) x (M2 a 5))) := ⟨_, rfl⟩
  rw [← hPo]
  have hK0 : zKr a 4 M M := zKr.rf
  have gk_size := zI.at hI h0.2.2.2.2.2.2.2.2.2.2.1
  show zK w p e 11 0 0 s m args below meth c 3 T Po 0 [.ref (w.2.1 + a), .null, .null] [] (T, M, J, R)
  refine q_iconst C dX4_guardOf_0 (n := 1) rfl ?_
  refine q_istore_n C [.ref (w.2.1 + a), zi 0, .null] dX4_guardOf_1 (n := 2) rfl rfl rfl ?_
  have L_6 : ∀ n7 : Nat, ∀ (u1 : Int), (-2147483648 ≤ u1 ∧ u1 ≤ 2147483647) → (0 ≤ u1 ∧ u1 ≤ 40) → (u1 ≤ M a 3) → (∀ q, 0 ≤ q → q < u1 → zLbk (M (a + 1)) (M (a + 2)) q) → (40 - u1 + 1 ≤ (n7 : Int)) → zK w p e 11 0 0 s m args below meth c 3 T Po 2 [.ref (w.2.1 + a), zi u1, .null] [] (T, M, J, R) := by
    intro n7
    induction n7 with
    | zero =>
      intro u1 h2 h3 h4 h5 hm9
      exfalso
      omega
    | succ n7 ih8 =>
      intro u1 h2 h3 h4 h5 hm9
      refine q_iload_n C dX4_guardOf_2 (n := 3) rfl rfl ?_
      refine q_aload_n C dX4_guardOf_3 (n := 4) rfl rfl ?_
      have g10 := zI.at hI h0.2.2.2.2.2.2.2.2.2.2.1
      refine q_getI C dX4_guardOf_4 (n := 7) rfl f_X4_22 h0.1 (v := M a 3) rfl ?_
      have J_12 : (M a 3 ≤ u1 ∨ ¬ zLbk (M (a + 1)) (M (a + 2)) u1) → zK w p e 11 0 0 s m args below meth c 3 T Po 34 [.ref (w.2.1 + a), zi u1, .null] [] (T, M, J, R) := by
        intro h11
        refine q_aload_n C dX4_guardOf_34 (n := 35) rfl rfl ?_
        refine q_getI C dX4_guardOf_35 (n := 38) rfl f_X4_22 h0.1 (v := M a 3) rfl ?_
        refine q_iconst C dX4_guardOf_38 (n := 39) rfl ?_
        refine q_isub C dX4_guardOf_39 (n := 40) rfl (v := (M a 3) - 1) rfl ?_
        refine q_istore_n C [.ref (w.2.1 + a), zi u1, zi ((M a 3) - 1)] dX4_guardOf_40 (n := 41) rfl rfl rfl ?_
        have L_19 : ∀ n20 : Nat, ∀ (u13 : Int), (-2147483648 ≤ u13 ∧ u13 ≤ 2147483647) → (-1 ≤ u13 ∧ u13 ≤ 39) → (u13 ≤ M a 3 - 1) → (u1 ≤ u13 ∨ u13 = M a 3 - 1) → (∀ q, u13 < q → q < M a 3 → zLbk (M (a + 1)) (M (a + 2)) q) → (u13 + 2 ≤ (n20 : Int)) → zK w p e 11 0 0 s m args below meth c 3 T Po 41 [.ref (w.2.1 + a), zi u1, zi u13] [] (T, M, J, R) := by
          intro n20
          induction n20 with
          | zero =>
            intro u13 h14 h15 h16 h17 h18 hm22
            exfalso
            omega
          | succ n20 ih21 =>
            intro u13 h14 h15 h16 h17 h18 hm22
            refine q_iload_n C dX4_guardOf_41 (n := 42) rfl rfl ?_
            refine q_iload_n C dX4_guardOf_42 (n := 43) rfl rfl ?_
            have J_24 : (u13 ≤ u1 ∨ ¬ zLbk (M (a + 1)) (M (a + 2)) u13) → zK w p e 11 0 0 s m args below meth c 3 T Po 70 [.ref (w.2.1 + a), zi u1, zi u13] [] (T, M, J, R) := by
              intro h23
              have hf9 : zFst (zLbk (M (a + 1)) (M (a + 2))) (M a 3) 0 u1 := ⟨by omega, fun q q0 q1 => h5 q q0 q1, (h11).elim (fun z => Or.inl (by omega)) Or.inr⟩
              have hl9 : zLsw (zLbk (M (a + 1)) (M (a + 2))) (M a 3) u1 u13 := ⟨by omega, fun q q0 q1 => h18 q q0 q1, h23, by omega⟩
              refine q_iload_n C dX4_guardOf_70 (n := 71) rfl rfl ?_
              refine q_iload_n C dX4_guardOf_71 (n := 72) rfl rfl ?_
              have J_26 : (¬ zGo (M (a + 1)) (M (a + 2)) (M (a + 3)) (M a 3) u1 u13) → zK w p e 11 0 0 s m args below meth c 3 T Po 94 [.null, .null, .null] [] (T, M, J, R) := by
                intro h25
                refine q_iconst C dX4_guardOf_94 (n := 95) rfl ?_
                exact q_iret C dX4_guardOf_95 ⟨rfl, rfl⟩ (by rw [hPo]; exact ⟨0, M, J, rfl, rfl, hI, hK0, (by have hz : M a 5 = M a 5 := rfl; omega), (by have hz : M a 3 = M a 3 := rfl; omega), (fun i => rfl), (by omega), (fun i => rfl), (fun i => rfl), (Or.inl ⟨rfl, fun ⟨f, l, q⟩ => by obtain rfl := hf9.eq q.1; obtain rfl := hl9.eq q.2.1; exact h25 q⟩)⟩)
              refine q_icmp_ge C 94 dX4_guardOf_72 (n := 75) rfl rfl (by omega) (fun h27 => ?_) (fun h27 => ?_)
              · exact zK.weak (J_26 (fun q => by have := q.2.2.1; omega)) (zwk_n (zwk_n (zwk_n zwk_e)))
              · refine q_aload_n C dX4_guardOf_75 (n := 76) rfl rfl ?_
                refine q_iload_n C dX4_guardOf_76 (n := 77) rfl rfl ?_
                refine q_callVp C dX4_guardOf_77 (n := 80) rfl m_X4_89 v_yX4_follower h0.1 ⟨by decide, rfl⟩ (c_X4_follower_e (w := w) (J := J) hI hF h0 u1 (by omega)) (Nat.le_of_ble_eq_true rfl) rfl rfl (Nat.le_of_ble_eq_true rfl) ⟨Nat.le_refl _, Nat.le_refl _⟩ (fun x30 h31 => ?_)
                obtain ⟨h28, h29⟩ := h31
                refine q_iload_n C dX4_guardOf_80 (n := 81) rfl rfl ?_
                refine q_icmp_ne C 94 dX4_guardOf_81 (n := 84) rfl rfl (by omega) (fun h32 => ?_) (fun h32 => ?_)
                · exact zK.weak (J_26 (fun q => by have := q.2.2.2.1.eq h29; omega)) (zwk_n (zwk_n (zwk_n zwk_e)))
                · refine q_aload_n C dX4_guardOf_84 (n := 85) rfl rfl ?_
                  refine q_getR C dX4_guardOf_85 (n := 88) rfl f_X4_19 h0.1 (hF _ _ _ h0.2.2.2.2.2.2.2.1) ?_
                  refine q_iload_n C dX4_guardOf_88 (n := 89) rfl rfl ?_
                  have g33 := zI.at hI (h0.2.2.2.2.2.2.2.2.2.1 u13)
                  refine q_iald C dX4_guardOf_89 (n := 90) rfl h0.2.2.2.2.2.2.2.2.1 (by omega) (v := M (a + 3) u13) rfl ?_
                  refine q_iconst C dX4_guardOf_90 (n := 91) rfl ?_
                  refine q_icmp_eq C 96 dX4_guardOf_91 (n := 94) rfl rfl (by omega) (fun h34 => ?_) (fun h34 => ?_)
                  · refine q_aload_n C dX4_guardOf_96 (n := 97) rfl rfl ?_
                    refine q_iload_n C dX4_guardOf_97 (n := 98) rfl rfl ?_
                    refine q_callVi C dX4_guardOf_98 (n := 101) rfl m_X4_92 v_yX4_guardedBy h0.1 ⟨by decide, rfl⟩ (c_X4_guardedBy_g (w := w) (J := J) hI hF h0 u1 (by omega)) (Nat.le_of_ble_eq_true rfl) rfl rfl (Nat.le_of_ble_eq_true rfl) ⟨Nat.le_refl _, Nat.le_refl _⟩ (fun x46 M42 J43  hI44 h45 => ?_)
                    obtain ⟨hk47, h35, h36, h37, h38, h39, h40, h41⟩ := h45
                    have hK48 := hK0.tr hk47
                    exact q_iret C dX4_guardOf_101 ⟨rfl, rfl⟩ (by rw [hPo]; exact ⟨x46, M42, J43, rfl, rfl, hI44, hK48, (by have hz : M42 a 5 = M42 a 5 := rfl; omega), (by have hz : M42 a 3 = M a 3 := (h36); omega), (fun i => (h37 i)), (by have hz49 : M42 a 4 = M a 4 := (h38); omega), (fun i => (h39 i)), (fun i => (h40 i)), (by have hfx := h29; rw [show (x30 : Int) = u13 by omega] at hfx; have hgo : zGo (M (a + 1)) (M (a + 2)) (M (a + 3)) (M a 3) u1 u13 := ⟨hf9, hl9, by omega, hfx, by omega⟩; exact Or.inr ⟨_, _, hgo, fun hlt hr => h41 hlt hr hgo.w.2.1⟩)⟩)
                  · exact zK.weak (J_26 (fun q => by have := q.2.2.2.2; omega)) (zwk_n (zwk_n (zwk_n zwk_e)))
            refine q_icmp_le C 70 dX4_guardOf_43 (n := 46) rfl rfl (by omega) (fun h50 => ?_) (fun h50 => ?_)
            · exact zK.weak (J_24 (Or.inl (by omega))) (zwk_c (zwk_c (zwk_c zwk_e)))
            · refine q_aload_n C dX4_guardOf_46 (n := 47) rfl rfl ?_
              refine q_iload_n C dX4_guardOf_47 (n := 48) rfl rfl ?_
              refine q_callVp C dX4_guardOf_48 (n := 51) rfl m_X4_67 v_yX4_firstOf h0.1 ⟨by decide, rfl⟩ (c_X4_firstOf_e (w := w) (J := J) hI hF h0 u13 (by omega)) (Nat.le_of_ble_eq_true rfl) rfl rfl (Nat.le_of_ble_eq_true rfl) ⟨Nat.le_refl _, Nat.le_refl _⟩ (fun x53 h54 => ?_)
              obtain ⟨h51, h52⟩ := h54
              have hk55 := zLbk_i (g := M (a + 1)) (st := M (a + 2)) h52
              refine q_aload_n C dX4_guardOf_51 (n := 52) rfl rfl ?_
              refine q_getR C dX4_guardOf_52 (n := 55) rfl f_X4_15 h0.1 (hF _ _ _ h0.2.2.2.2.1) ?_
              refine q_iload_n C dX4_guardOf_55 (n := 56) rfl rfl ?_
              refine q_iconst C dX4_guardOf_56 (n := 57) rfl ?_
              refine q_iadd C dX4_guardOf_57 (n := 58) rfl (v := u13 + 1) rfl ?_
              have g56 := zI.at hI (h0.2.2.2.2.2.2.1 (u13 + 1))
              refine q_iald C dX4_guardOf_58 (n := 59) rfl h0.2.2.2.2.2.1 (by omega) (v := M (a + 2) (u13 + 1)) rfl ?_
              refine q_iconst C dX4_guardOf_59 (n := 60) rfl ?_
              refine q_isub C dX4_guardOf_60 (n := 61) rfl (v := (M (a + 2) (u13 + 1)) - 1) rfl ?_
              refine q_icmp_ne C 70 dX4_guardOf_61 (n := 64) rfl rfl (by omega) (fun h57 => ?_) (fun h57 => ?_)
              · exact zK.weak (J_24 (Or.inr (fun q => by have := hk55.mpr q; omega))) (zwk_c (zwk_c (zwk_c zwk_e)))
              · refine q_iinc C [.ref (w.2.1 + a), zi u1, zi (u13 + (-1))] dX4_guardOf_64 (n := 67) rfl rfl rfl rfl ?_
                refine q_goto C 41 dX4_guardOf_67 rfl ?_
                exact zK.weak (ih21 (u13 + (-1)) (by omega) (by omega) (by omega) (by omega) (fun q q0 q1 => (Decidable.em (q = u13)).elim (fun z => by rw [z]; exact hk55.mp (by omega)) (fun z => h18 q (by omega) q1)) (by omega)) (zwk_c (zwk_c (zwk_c zwk_e)))
        exact zK.weak (L_19 _ ((M a 3) - 1) (by omega) (by omega) (by omega) (by omega) (fun q q0 q1 => by omega) (Int.self_le_toNat _)) (zwk_c (zwk_c (zwk_c zwk_e)))
      refine q_icmp_ge C 34 dX4_guardOf_7 (n := 10) rfl rfl (by omega) (fun h58 => ?_) (fun h58 => ?_)
      · exact zK.weak (J_12 (Or.inl (by omega))) (zwk_c (zwk_c (zwk_n zwk_e)))
      · refine q_aload_n C dX4_guardOf_10 (n := 11) rfl rfl ?_
        refine q_iload_n C dX4_guardOf_11 (n := 12) rfl rfl ?_
        refine q_callVp C dX4_guardOf_12 (n := 15) rfl m_X4_67 v_yX4_firstOf h0.1 ⟨by decide, rfl⟩ (c_X4_firstOf_e (w := w) (J := J) hI hF h0 u1 (by omega)) (Nat.le_of_ble_eq_true rfl) rfl rfl (Nat.le_of_ble_eq_true rfl) ⟨Nat.le_refl _, Nat.le_refl _⟩ (fun x61 h62 => ?_)
        obtain ⟨h59, h60⟩ := h62
        have hk63 := zLbk_i (g := M (a + 1)) (st := M (a + 2)) h60
        refine q_aload_n C dX4_guardOf_15 (n := 16) rfl rfl ?_
        refine q_getR C dX4_guardOf_16 (n := 19) rfl f_X4_15 h0.1 (hF _ _ _ h0.2.2.2.2.1) ?_
        refine q_iload_n C dX4_guardOf_19 (n := 20) rfl rfl ?_
        refine q_iconst C dX4_guardOf_20 (n := 21) rfl ?_
        refine q_iadd C dX4_guardOf_21 (n := 22) rfl (v := u1 + 1) rfl ?_
        have g64 := zI.at hI (h0.2.2.2.2.2.2.1 (u1 + 1))
        refine q_iald C dX4_guardOf_22 (n := 23) rfl h0.2.2.2.2.2.1 (by omega) (v := M (a + 2) (u1 + 1)) rfl ?_
        refine q_iconst C dX4_guardOf_23 (n := 24) rfl ?_
        refine q_isub C dX4_guardOf_24 (n := 25) rfl (v := (M (a + 2) (u1 + 1)) - 1) rfl ?_
        refine q_icmp_ne C 34 dX4_guardOf_25 (n := 28) rfl rfl (by omega) (fun h65 => ?_) (fun h65 => ?_)
        · exact zK.weak (J_12 (Or.inr (fun q => by have := hk63.mpr q; omega))) (zwk_c (zwk_c (zwk_n zwk_e)))
        · refine q_iinc C [.ref (w.2.1 + a), zi (u1 + 1), .null] dX4_guardOf_28 (n := 31) rfl rfl rfl rfl ?_
          refine q_goto C 2 dX4_guardOf_31 rfl ?_
          exact zK.weak (ih8 (u1 + 1) (by omega) (by omega) (by omega) (fun q q0 q1 => (Decidable.em (q = u1)).elim (fun z => by rw [z]; exact hk63.mp (by omega)) (fun z => h5 q q0 (by omega))) (by omega)) (zwk_c (zwk_c (zwk_n zwk_e)))
  exact zK.weak (L_6 _ 0 (by omega) (by omega) (by omega) (fun q q0 q1 => by omega) (Int.self_le_toNat _)) (zwk_c (zwk_c (zwk_n zwk_e)))
theorem c_X4_mark_g {w : zWp} {T : zTl} {M : zMm} {J : zJm} {R : zRm'} {G : zGt} {F : zRm'} {a : Nat} (hI : zI G M) (hF : zF F R) (h0 : zPage T F G a) : zCt w 12 0 0 yX4_mark cX4_mark 2 none [.ref (w.2.1 + a)] (T, M, J, R) (zPv T R G (fun M2 => (zKr a 4 M M2) ∧ (M2 a 3 = M a 3) ∧ (∀ i, M2 (a + 2) i = M (a + 2) i) ∧ (M2 a 6 = 0 ∨ M2 a 5 + M2 a 6 ≤ 401) ∧ (M2 a 4 = M a 4) ∧ (∀ i, M2 (a + 1) i = M (a + 1) i) ∧ (zWv M2 a) ∧ (zGp M2 a))) := by
  refine zCt.of rfl (Nat.le_of_ble_eq_true rfl) ?_
  intro p e s m args below meth c C
  obtain ⟨Po, hPo⟩ : ∃ Po, Po = zPv T R G (fun M2 => (zKr a 4 M M2) ∧ (M2 a 3 = M a 3) ∧ (∀ i, M2 (a + 2) i = M (a + 2) i) ∧ (M2 a 6 = 0 ∨ M2 a 5 + M2 a 6 ≤ 401) ∧ (M2 a 4 = M a 4) ∧ (∀ i, M2 (a + 1) i = M (a + 1) i) ∧ (zWv M2 a) ∧ (zGp M2 a)) := ⟨_, rfl⟩
  rw [← hPo]
  have hK0 : zKr a 4 M M := zKr.rf
  show zK w p e 12 0 0 s m args below meth c 2 T Po 0 [.ref (w.2.1 + a), .null] [] (T, M, J, R)
  refine q_iconst C dX4_mark_0 (n := 1) rfl ?_
  refine q_istore_n C [.ref (w.2.1 + a), zi 0] dX4_mark_1 (n := 2) rfl rfl rfl ?_
  have L_13 : ∀ n14 : Nat, ∀ (u1 : Int) (M2 : zMm) (J3 : zJm), zI G M2 → zKr a 4 M M2 → (-2147483648 ≤ u1 ∧ u1 ≤ 2147483647) → (0 ≤ u1 ∧ u1 ≤ 40) → (M2 a 3 = M a 3) → (∀ i, M2 (a + 2) i = M (a + 2) i) → (M2 a 4 = M a 4) → (∀ i, M2 (a + 1) i = M (a + 1) i) → (∀ l, 0 ≤ l → l < u1 → M (a + 2) l < M (a + 2) (l + 1) → zRole (zLb (M (a + 1)) (M (a + 2) l) (M (a + 2) (l + 1) - 1 - M (a + 2) l)) (M (a + 2) (l + 1) - 1 - M (a + 2) l) (M2 (a + 3) l)) → (40 - u1 + 1 ≤ (n14 : Int)) → zK w p e 12 0 0 s m args below meth c 2 T Po 2 [.ref (w.2.1 + a), zi u1] [] (T, M2, J3, R) := by
    intro n14
    induction n14 with
    | zero =>
      intro u1 M2 J3 hI4 hK5 h6 h7 h8 h9 h10 h11 h12 hm16
      exfalso
      omega
    | succ n14 ih15 =>
      intro u1 M2 J3 hI4 hK5 h6 h7 h8 h9 h10 h11 h12 hm16
      refine q_iload_n C dX4_mark_2 (n := 3) rfl rfl ?_
      refine q_aload_n C dX4_mark_3 (n := 4) rfl rfl ?_
      have g17 := zI.at hI h0.2.2.2.2.2.2.2.2.2.2.1
      refine q_getI C dX4_mark_4 (n := 7) rfl f_X4_22 h0.1 (v := M a 3) (h8) ?_
      refine q_icmp_ge C 27 dX4_mark_7 (n := 10) rfl rfl (by omega) (fun h18 => ?_) (fun h18 => ?_)
      · refine q_aload_n C dX4_mark_27 (n := 28) rfl rfl ?_
        refine q_aload_n C dX4_mark_28 (n := 29) rfl rfl ?_
        refine q_callVi C dX4_mark_29 (n := 32) rfl m_X4_63 v_yX4_guardOf h0.1 ⟨by decide, rfl⟩ (c_X4_guardOf_g (w := w) (J := J3) hI4 hF h0) (Nat.le_of_ble_eq_true rfl) rfl rfl (Nat.le_of_ble_eq_true rfl) ⟨Nat.le_refl _, Nat.le_refl _⟩ (fun x30 M26 J27  hI28 h29 => ?_)
        obtain ⟨hk31, h19, h20, h21, h22, h23, h24, h25⟩ := h29
        have hK32 := hK5.tr hk31
        have hz33 : M2 a 3 = M a 3 := (h8)
        have hz34 : M2 a 4 = M a 4 := (h10)
        refine q_putI C dX4_mark_32 (n := 35) rfl f_X4_33 h0.1 ⟨rfl, rfl⟩ (fun M35 (e36 : M35 = zup M26 a 6 x30) => ?_)
        have hI37 : zI G M35 := hI28.put e36 h0.2.2.2.2.2.2.2.2.2.2.2.2.2 rfl (by omega)
        have hK38 := hK32.put e36 (by omega)
        exact q_vret C dX4_mark_35 ⟨rfl, rfl⟩ (by rw [hPo]; exact ⟨M35, J27, rfl, rfl, hI37, hK38, (by have hz : M35 a 3 = M a 3 := ((zup_n e36 (by omega)).trans ((h20).trans (h8))); omega), (fun i => ((zup_p e36 (by omega) _).trans ((h21 i).trans (h9 i)))), (by have hz39 : M35 a 5 = M26 a 5 := (zup_n e36 (by omega)); have hz40 : M35 a 6 = x30 := (zup_s e36); omega), (by have hz41 : M35 a 4 = M a 4 := ((zup_n e36 (by omega)).trans ((h22).trans (h10))); omega), (fun i => ((zup_p e36 (by omega) _).trans ((h23 i).trans (h11 i)))), (zWv.mk h12 (by omega) ⟨((zup_n e36 (by omega)).trans ((h20).trans (h8))), fun i => ((zup_p e36 (by omega) _).trans ((h23 i).trans (h11 i))), fun i => ((zup_p e36 (by omega) _).trans ((h21 i).trans (h9 i)))⟩ (fun i => ((zup_p e36 (by omega) _).trans (h24 i)))), (by unfold zGp; rw [show M35 (a + 1) = M2 (a + 1) from funext (fun i => ((zup_p e36 (by omega) _).trans (h23 i))), show M35 (a + 2) = M2 (a + 2) from funext (fun i => ((zup_p e36 (by omega) _).trans (h21 i))), show M35 (a + 3) = M2 (a + 3) from funext (fun i => ((zup_p e36 (by omega) _).trans (h24 i))), show M35 a 3 = M2 a 3 from ((zup_n e36 (by omega)).trans (h20)), show M35 a 6 = x30 from (zup_s e36), show M35 a 5 = M26 a 5 from (zup_n e36 (by omega))]; exact h25)⟩)
      · refine q_aload_n C dX4_mark_10 (n := 11) rfl rfl ?_
        refine q_getR C dX4_mark_11 (n := 14) rfl f_X4_19 h0.1 (hF _ _ _ h0.2.2.2.2.2.2.2.1) ?_
        refine q_iload_n C dX4_mark_14 (n := 15) rfl rfl ?_
        refine q_aload_n C dX4_mark_15 (n := 16) rfl rfl ?_
        refine q_iload_n C dX4_mark_16 (n := 17) rfl rfl ?_
        refine q_callVp C dX4_mark_17 (n := 20) rfl m_X4_59 v_yX4_wordOf h0.1 ⟨by decide, rfl⟩ (c_X4_wordOf_e (w := w) (J := J3) hI4 hF h0 u1 (by omega)) (Nat.le_of_ble_eq_true rfl) rfl rfl (Nat.le_of_ble_eq_true rfl) ⟨Nat.le_refl _, Nat.le_refl _⟩ (fun x44 h45 => ?_)
        obtain ⟨h42, h43⟩ := h45
        have hz46 : M2 (a + 2) u1 = M (a + 2) u1 := (h9 u1)
        have hz47 : M2 (a + 2) (u1 + 1) = M (a + 2) (u1 + 1) := (h9 (u1 + 1))
        have hwo := h43
        rw [show M2 (a + 1) = M (a + 1) from funext (fun i => (h11 i))] at hwo
        rw [show M2 (a + 2) = M (a + 2) from funext (fun i => (h9 i))] at hwo
        refine q_iast C dX4_mark_20 (n := 21) rfl h0.2.2.2.2.2.2.2.2.1 (by omega)  (fun M48 e49 => ?_)
        have hI50 : zI G M48 := hI4.put e49 (h0.2.2.2.2.2.2.2.2.2.1 u1) rfl (by omega)
        have hK51 := hK5.put e49 (by omega)
        refine q_iinc C [.ref (w.2.1 + a), zi (u1 + 1)] dX4_mark_21 (n := 24) rfl rfl rfl rfl ?_
        refine q_goto C 2 dX4_mark_24 rfl ?_
        exact zK.weak (ih15 (u1 + 1) M48 J3 hI50 hK51 (by omega) (by omega) (by have hz52 : M48 a 3 = M a 3 := ((zup_p e49 (by omega) _).trans (h8)); omega) (fun i => ((zup_p e49 (by omega) _).trans (h9 i))) (by have hz53 : M48 a 4 = M a 4 := ((zup_p e49 (by omega) _).trans (h10)); omega) (fun i => ((zup_p e49 (by omega) _).trans (h11 i))) (fun l l0 l1 => (Decidable.em (l = u1)).elim (fun z => by rw [z, zup_s e49]; exact hwo) (fun z => by rw [zup_n e49 (by omega)]; exact h12 l l0 (by omega))) (by omega)) (zwk_c (zwk_c zwk_e))
  exact zK.weak (L_13 _ 0 M J hI hK0 (by omega) (by omega) (by omega) (fun i => rfl) (by omega) (fun i => rfl) (fun l l0 l1 => by omega) (Int.self_le_toNat _)) (zwk_c (zwk_c zwk_e))
theorem c_X4_read_g {w : zWp} {T : zTl} {M : zMm} {J : zJm} {R : zRm'} {G : zGt} {F : zRm'} {a b tb : Nat} (hI : zI G M) (hF : zF F R) (h0 : zPage T F G a) (t_b0 : T[b]? = some (51, 440)) (g_b0 : ∀ k, G b k = (tb, (-128), 127)) (v2 : Int) (p1 : 0 ≤ v2 ∧ v2 ≤ 400) (p2 : tb < 20) (p3 : zMo M a) (p4 : v2 = 0 ∨ zTen (M b) (v2 - 1).toNat + 1 ≤ 40) : zCt w 13 0 0 yX4_read cX4_read 5 none [.ref (w.2.1 + a), .ref (w.2.1 + b), zi v2] (T, M, J, R) (zPv T R G (fun M2 => (zKr a 4 M M2) ∧ (zPr M2 a) ∧ (v2 = 0 ∧ M2 a 3 = 0 ∨ 1 ≤ v2 ∧ M2 a 3 = zTen (M b) (v2 - 1).toNat + 1) ∧ (M2 a 4 = 1) ∧ (zLs M2 a (M b) v2) ∧ (zBe M2 a (M b) v2) ∧ (zWv M2 a) ∧ (zGp M2 a))) := by
  refine zCt.of rfl (Nat.le_of_ble_eq_true rfl) ?_
  intro p e s m args below meth c C
  obtain ⟨Po, hPo⟩ : ∃ Po, Po = zPv T R G (fun M2 => (zKr a 4 M M2) ∧ (zPr M2 a) ∧ (v2 = 0 ∧ M2 a 3 = 0 ∨ 1 ≤ v2 ∧ M2 a 3 = zTen (M b) (v2 - 1).toNat + 1) ∧ (M2 a 4 = 1) ∧ (zLs M2 a (M b) v2) ∧ (zBe M2 a (M b) v2) ∧ (zWv M2 a) ∧ (zGp M2 a)) := ⟨_, rfl⟩
  rw [← hPo]
  have hK0 : zKr a 4 M M := zKr.rf
  have hbd : b + 1 ≤ a ∨ a + 4 ≤ b := zPgB h0 t_b0
  have gz0 := zTen_0 (g := M b)
  show zK w p e 13 0 0 s m args below meth c 5 T Po 0 [.ref (w.2.1 + a), .ref (w.2.1 + b), zi v2, .null, .null] [] (T, M, J, R)
  refine q_aload_n C dX4_read_0 (n := 1) rfl rfl ?_
  refine q_iconst C dX4_read_1 (n := 2) rfl ?_
  refine q_putZ C dX4_read_2 (n := 5) rfl f_X4_26 h0.1 ⟨rfl, rfl⟩ (by omega) (fun M1 (e2 : M1 = zup M a 4 1) => ?_)
  have hI3 : zI G M1 := hI.put e2 h0.2.2.2.2.2.2.2.2.2.2.2.1 rfl (by omega)
  have hK4 := hK0.put e2 (by omega)
  refine q_aload_n C dX4_read_5 (n := 6) rfl rfl ?_
  refine q_iconst C dX4_read_6 (n := 7) rfl ?_
  refine q_putI C dX4_read_7 (n := 10) rfl f_X4_22 h0.1 ⟨rfl, rfl⟩ (fun M5 (e6 : M5 = zup M1 a 3 0) => ?_)
  have hI7 : zI G M5 := hI3.put e6 h0.2.2.2.2.2.2.2.2.2.2.1 rfl (by omega)
  have hK8 := hK4.put e6 (by omega)
  refine q_iconst C dX4_read_10 (n := 11) rfl ?_
  refine q_istore_n C [.ref (w.2.1 + a), .ref (w.2.1 + b), zi v2, zi 0, .null] dX4_read_11 (n := 12) rfl rfl rfl ?_
  refine q_iconst C dX4_read_12 (n := 13) rfl ?_
  refine q_istore C [.ref (w.2.1 + a), .ref (w.2.1 + b), zi v2, zi 0, zi 0] dX4_read_13 (n := 15) rfl rfl rfl ?_
  have L_27 : ∀ n28 : Nat, ∀ (u9 : Int) (u10 : Int) (M11 : zMm) (J12 : zJm), zI G M11 → zKr a 4 M M11 → (-2147483648 ≤ u9 ∧ u9 ≤ 2147483647) → (-2147483648 ≤ u10 ∧ u10 ≤ 2147483647) → (0 ≤ u10 ∧ u10 ≤ v2) → (u9 = u10) → (zMo M11 a) → (M11 (a + 2) (M11 a 3) ≤ u9) → (∀ i, M11 b i = M b i) → (M11 a 3 = zTen (M b) (u10 : Int).toNat) → (M11 (a + 2) (M11 a 3) = u9 ∧ (u10 = 0 ∨ M b (u10 - 1) = 10) ∨ M11 (a + 2) (M11 a 3) < u9 ∧ 1 ≤ u10 ∧ M b (u10 - 1) ≠ 10) → (M11 a 4 = 1) → (zRl M11 a (M b) u10) → (zBg M11 a (M b) u10) → (440 - u10 + 1 ≤ (n28 : Int)) → zK w p e 13 0 0 s m args below meth c 5 T Po 15 [.ref (w.2.1 + a), .ref (w.2.1 + b), zi v2, zi u9, zi u10] [] (T, M11, J12, R) := by
    intro n28
    induction n28 with
    | zero =>
      intro u9 u10 M11 J12 hI13 hK14 h15 h16 h17 h18 h19 h20 h21 h22 h23 h24 h25 h26 hm30
      exfalso
      omega
    | succ n28 ih29 =>
      intro u9 u10 M11 J12 hI13 hK14 h15 h16 h17 h18 h19 h20 h21 h22 h23 h24 h25 h26 hm30
      have gE := zTen_e (g := M b) (i := u10) (v := v2) (by omega)
      refine q_iload C dX4_read_15 (n := 17) rfl rfl ?_
      refine q_iload_n C dX4_read_17 (n := 18) rfl rfl ?_
      have J_32 : (v2 ≤ u10) → zK w p e 13 0 0 s m args below meth c 5 T Po 68 [.ref (w.2.1 + a), .null, .null, zi u9, .null] [] (T, M11, J12, R) := by
        intro h31
        refine q_iload_n C dX4_read_68 (n := 69) rfl rfl ?_
        refine q_aload_n C dX4_read_69 (n := 70) rfl rfl ?_
        refine q_getR C dX4_read_70 (n := 73) rfl f_X4_15 h0.1 (hF _ _ _ h0.2.2.2.2.1) ?_
        refine q_aload_n C dX4_read_73 (n := 74) rfl rfl ?_
        have g33 := zI.at hI13 h0.2.2.2.2.2.2.2.2.2.2.1
        refine q_getI C dX4_read_74 (n := 77) rfl f_X4_22 h0.1 (v := M11 a 3) rfl ?_
        have g34 := zI.at hI13 (h0.2.2.2.2.2.2.1 (M11 a 3))
        refine q_iald C dX4_read_77 (n := 78) rfl h0.2.2.2.2.2.1 (by omega) (v := M11 (a + 2) (M11 a 3)) rfl ?_
        have J_44 : ∀ (M35 : zMm) (J36 : zJm), zI G M35 → zKr a 4 M M35 → (zMo M35 a) → (v2 = 0 ∧ M35 a 3 = 0 ∨ 1 ≤ v2 ∧ M35 a 3 = zTen (M b) (v2 - 1).toNat + 1) → (M35 a 4 = 1) → (zLs M35 a (M b) v2) → (zBe M35 a (M b) v2) → zK w p e 13 0 0 s m args below meth c 5 T Po 103 [.ref (w.2.1 + a), .null, .null, .null, .null] [] (T, M35, J36, R) := by
          intro M35 J36 hI37 hK38 h39 h40 h41 h42 h43
          refine q_aload_n C dX4_read_103 (n := 104) rfl rfl ?_
          refine q_callVv C dX4_read_104 (n := 107) rfl m_X4_40 v_yX4_mark h0.1 ⟨by decide, rfl⟩ (c_X4_mark_g (w := w) (J := J36) hI37 hF h0) (Nat.le_of_ble_eq_true rfl) rfl rfl (Nat.le_of_ble_eq_true rfl) ⟨Nat.le_refl _, Nat.le_refl _⟩ (fun M52 J53  hI54 h55 => ?_)
          obtain ⟨hk56, h45, h46, h47, h48, h49, h50, h51⟩ := h55
          have hK57 := hK38.tr hk56
          exact q_vret C dX4_read_107 ⟨rfl, rfl⟩ (by rw [hPo]; exact ⟨M52, J53, rfl, rfl, hI54, hK57, ⟨(h39.cg (h45) (fun i => (h46 i))), h47⟩, (by have hz58 : M52 a 3 = M35 a 3 := (h45); omega), (by have hz59 : M52 a 4 = M35 a 4 := (h48); omega), (zLs.cg h42 ⟨(h48), (h45), fun i => (h46 i)⟩ (fun _ => rfl) rfl), (zBe.cg h43 ⟨(h45), fun i => (h49 i), fun i => (h46 i)⟩ (fun _ => rfl) rfl), h50, h51⟩)
        refine q_icmp_le C 103 dX4_read_78 (n := 81) rfl rfl (by omega) (fun h60 => ?_) (fun h60 => ?_)
        · exact zK.weak (J_44 M11 J12 hI13 hK14 h19 (by omega) (by omega) (zRl.ls h25 (by omega)) (zBg.fin h26 (by omega))) (zwk_c (zwk_n (zwk_n (zwk_n (zwk_n zwk_e)))))
        · refine q_iload_n C dX4_read_81 (n := 82) rfl rfl ?_
          refine q_sipush C dX4_read_82 (n := 85) rfl (x := 401) (by decide) ?_
          refine q_icmp_ge C 103 dX4_read_85 (n := 88) rfl rfl (by omega) (fun h61 => ?_) (fun h61 => ?_)
          · exact zK.weak (J_44 M11 J12 hI13 hK14 h19 (by omega) (by omega) (zRl.ls h25 (by omega)) (zBg.fin h26 (by omega))) (zwk_c (zwk_n (zwk_n (zwk_n (zwk_n zwk_e)))))
          · refine q_aload_n C dX4_read_88 (n := 89) rfl rfl ?_
            refine q_getR C dX4_read_89 (n := 92) rfl f_X4_9 h0.1 (hF _ _ _ h0.2.1) ?_
            refine q_iload_n C dX4_read_92 (n := 93) rfl rfl ?_
            refine q_bipush C dX4_read_93 (n := 95) rfl (x := 10) (by decide) ?_
            refine q_bast C dX4_read_95 (n := 96) rfl h0.2.2.1 (by omega) (by omega) (fun M62 e63 => ?_)
            have hI64 : zI G M62 := hI13.put e63 (h0.2.2.2.1 u9) rfl (by omega)
            have hK65 := hK14.put e63 (by omega)
            refine q_aload_n C dX4_read_96 (n := 97) rfl rfl ?_
            refine q_iload_n C dX4_read_97 (n := 98) rfl rfl ?_
            refine q_iconst C dX4_read_98 (n := 99) rfl ?_
            refine q_iadd C dX4_read_99 (n := 100) rfl (v := u9 + 1) rfl ?_
            refine q_callVv C dX4_read_100 (n := 103) rfl m_X4_36 v_yX4_closeLine h0.1 ⟨by decide, rfl⟩ (c_X4_closeLine_v (w := w) (J := J12) hI64 hF h0 (u9 + 1) (by omega) (by have h3 : M62 a 3 = M11 a 3 := (zup_p e63 (by omega) _); have h2 : ∀ i, M62 (a + 2) i = M11 (a + 2) i := (fun i => (zup_p e63 (by omega) _)); rw [h3, h2]; omega) (h19.cg (zup_p e63 (by omega) _) (fun i => (zup_p e63 (by omega) _)))) (Nat.le_of_ble_eq_true rfl) rfl rfl (Nat.le_of_ble_eq_true rfl) ⟨Nat.le_refl _, Nat.le_refl _⟩ (fun M72 J73  hI74 h75 => ?_)
            obtain ⟨hk76, h66, h67, h68, h69, h70, h71⟩ := h75
            have hK77 := hK65.tr hk76
            have hz78 : M62 a 3 = M11 a 3 := (zup_p e63 (by omega) _)
            have hz79 : M62 a 4 = M11 a 4 := (zup_p e63 (by omega) _)
            exact zK.weak (J_44 M72 J73 hI74 hK77 h66 (by omega) (by have hz80 : M72 a 4 = M11 a 4 := ((h69).trans (zup_p e63 (by omega) _)); omega) (zRl.fin2 (zRl.cg h25 (zup_p e63 (by omega) _) (fun i => (zup_p e63 (by omega) _))) h70 (by omega) (by omega) (by omega) (by omega)) (zBg.fin2 (zBg.cg h26 rfl (fun i => rfl) (fun i => rfl)) (by have t := e63; rw [show (u9 : Int) = u10 by omega] at t; exact t) h70 h71 (by omega) (by omega) (by omega) (by omega))) (zwk_c (zwk_n (zwk_n (zwk_n (zwk_n zwk_e)))))
      refine q_icmp_ge C 68 dX4_read_18 (n := 21) rfl rfl (by omega) (fun h81 => ?_) (fun h81 => ?_)
      · exact zK.weak (J_32 (by omega)) (zwk_c (zwk_n (zwk_n (zwk_c (zwk_n zwk_e)))))
      · refine q_iload C dX4_read_21 (n := 23) rfl rfl ?_
        refine q_aload_n C dX4_read_23 (n := 24) rfl rfl ?_
        refine q_alen C dX4_read_24 (n := 25) rfl ⟨by decide, by decide⟩ t_b0 ?_
        show zK w p e 13 0 0 s m args below meth c 5 T Po 25 [.ref (w.2.1 + a), .ref (w.2.1 + b), zi v2, zi u9, zi u10] [zi 440, zi u10] (T, M11, J12, R)
        refine q_icmp_ge C 68 dX4_read_25 (n := 28) rfl rfl (by omega) (fun h82 => ?_) (fun h82 => ?_)
        · exact zK.weak (J_32 (by omega)) (zwk_c (zwk_n (zwk_n (zwk_c (zwk_n zwk_e)))))
        · refine q_iload_n C dX4_read_28 (n := 29) rfl rfl ?_
          refine q_sipush C dX4_read_29 (n := 32) rfl (x := 401) (by decide) ?_
          refine q_icmp_ge C 68 dX4_read_32 (n := 35) rfl rfl (by omega) (fun h83 => ?_) (fun h83 => ?_)
          · exact zK.weak (J_32 (by omega)) (zwk_c (zwk_n (zwk_n (zwk_c (zwk_n zwk_e)))))
          · refine q_aload_n C dX4_read_35 (n := 36) rfl rfl ?_
            refine q_getR C dX4_read_36 (n := 39) rfl f_X4_9 h0.1 (hF _ _ _ h0.2.1) ?_
            refine q_iload_n C dX4_read_39 (n := 40) rfl rfl ?_
            refine q_aload_n C dX4_read_40 (n := 41) rfl rfl ?_
            refine q_iload C dX4_read_41 (n := 43) rfl rfl ?_
            have g84 := zI.at hI (g_b0 u10)
            refine q_bald C dX4_read_43 (n := 44) rfl t_b0 (by omega) (v := M b u10) (h21 u10) ?_
            refine q_bast C dX4_read_44 (n := 45) rfl h0.2.2.1 (by omega) (by omega) (fun M85 e86 => ?_)
            have hI87 : zI G M85 := hI13.put e86 (h0.2.2.2.1 u9) rfl (by omega)
            have hK88 := hK14.put e86 (by omega)
            have gs := zTen_s (g := M b) (i := u10) (by omega)
            have gm := zTen_le (g := M b) (i := u10) (j := v2 - 1) (by omega)
            refine q_iinc C [.ref (w.2.1 + a), .ref (w.2.1 + b), zi v2, zi (u9 + 1), zi u10] dX4_read_45 (n := 48) rfl rfl rfl rfl ?_
            refine q_aload_n C dX4_read_48 (n := 49) rfl rfl ?_
            refine q_iload C dX4_read_49 (n := 51) rfl rfl ?_
            refine q_bald C dX4_read_51 (n := 52) rfl t_b0 (by omega) (v := M b u10) ((zup_p e86 (by omega) _).trans (h21 u10)) ?_
            refine q_bipush C dX4_read_52 (n := 54) rfl (x := 10) (by decide) ?_
            have J_101 : ∀ (M89 : zMm) (J90 : zJm), zI G M89 → zKr a 4 M M89 → (zMo M89 a) → (M89 (a + 2) (M89 a 3) ≤ (u9 + 1)) → (∀ i, M89 b i = M b i) → (M89 a 3 = zTen (M b) (u10 + 1 : Int).toNat) → (M89 (a + 2) (M89 a 3) = (u9 + 1) ∧ M b u10 = 10 ∨ M89 (a + 2) (M89 a 3) < (u9 + 1) ∧ M b u10 ≠ 10) → (M89 a 4 = 1) → (zRl M89 a (M b) (u10 + 1)) → (zBg M89 a (M b) (u10 + 1)) → zK w p e 13 0 0 s m args below meth c 5 T Po 62 [.ref (w.2.1 + a), .ref (w.2.1 + b), zi v2, zi (u9 + 1), zi u10] [] (T, M89, J90, R) := by
              intro M89 J90 hI91 hK92 h93 h94 h95 h96 h97 h98 h99 h100
              refine q_iinc C [.ref (w.2.1 + a), .ref (w.2.1 + b), zi v2, zi (u9 + 1), zi (u10 + 1)] dX4_read_62 (n := 65) rfl rfl rfl rfl ?_
              refine q_goto C 15 dX4_read_65 rfl ?_
              exact zK.weak (ih29 (u9 + 1) (u10 + 1) M89 J90 hI91 hK92 (by omega) (by omega) (by omega) (by omega) h93 (by omega) (fun i => (h95 i)) (by omega) (by rw [show (u10 + 1 : Int) - 1 = u10 by omega]; omega) (by omega) h99 h100 (by omega)) (zwk_c (zwk_c (zwk_c (zwk_c (zwk_c zwk_e)))))
            refine q_icmp_ne C 62 dX4_read_54 (n := 57) rfl rfl (by omega) (fun h102 => ?_) (fun h102 => ?_)
            · exact zK.weak (J_101 M85 J12 hI87 hK88 (h19.cg (zup_p e86 (by omega) _) (fun i => (zup_p e86 (by omega) _))) (by have h3 : M85 a 3 = M11 a 3 := (zup_p e86 (by omega) _); have h2 : ∀ i, M85 (a + 2) i = M11 (a + 2) i := (fun i => (zup_p e86 (by omega) _)); rw [h3, h2]; omega) (fun i => ((zup_p e86 (by omega) _).trans (h21 i))) (by have hz103 : M85 a 3 = M11 a 3 := (zup_p e86 (by omega) _); omega) (by have h3 : M85 a 3 = M11 a 3 := (zup_p e86 (by omega) _); have h2 : ∀ i, M85 (a + 2) i = M11 (a + 2) i := (fun i => (zup_p e86 (by omega) _)); rw [h3, h2]; omega) (by have hz104 : M85 a 4 = M11 a 4 := (zup_p e86 (by omega) _); omega) (zRl.byte (zRl.cg h25 (zup_p e86 (by omega) _) (fun i => (zup_p e86 (by omega) _))) (by omega)) (zBg.byte (zBg.cg h26 rfl (fun i => rfl) (fun i => rfl)) (by have t := e86; rw [show (u9 : Int) = u10 by omega] at t; exact t) (by omega) (by omega) (by omega) (by omega))) (zwk_c (zwk_c (zwk_c (zwk_c (zwk_c zwk_e)))))
            · refine q_aload_n C dX4_read_57 (n := 58) rfl rfl ?_
              refine q_iload_n C dX4_read_58 (n := 59) rfl rfl ?_
              refine q_callVv C dX4_read_59 (n := 62) rfl m_X4_36 v_yX4_closeLine h0.1 ⟨by decide, rfl⟩ (c_X4_closeLine_v (w := w) (J := J12) hI87 hF h0 (u9 + 1) (by omega) (by have h3 : M85 a 3 = M11 a 3 := (zup_p e86 (by omega) _); have h2 : ∀ i, M85 (a + 2) i = M11 (a + 2) i := (fun i => (zup_p e86 (by omega) _)); rw [h3, h2]; omega) (h19.cg (zup_p e86 (by omega) _) (fun i => (zup_p e86 (by omega) _)))) (Nat.le_of_ble_eq_true rfl) rfl rfl (Nat.le_of_ble_eq_true rfl) ⟨Nat.le_refl _, Nat.le_refl _⟩ (fun M111 J112  hI113 h114 => ?_)
              obtain ⟨hk115, h105, h106, h107, h108, h109, h110⟩ := h114
              have hK116 := hK88.tr hk115
              have hz117 : M85 a 3 = M11 a 3 := (zup_p e86 (by omega) _)
              have hz118 : M85 a 4 = M11 a 4 := (zup_p e86 (by omega) _)
              exact zK.weak (J_101 M111 J112 hI113 hK116 h105 (by omega) (fun i => ((hk115 _ _ (by omega)).trans ((zup_p e86 (by omega) _).trans (h21 i)))) (by omega) (by omega) (by have hz119 : M111 a 4 = M11 a 4 := ((h108).trans (zup_p e86 (by omega) _)); omega) (zRl.close (zRl.cg h25 (zup_p e86 (by omega) _) (fun i => (zup_p e86 (by omega) _))) (by omega) h109 (by omega) (by omega) (by omega)) (zBg.close (zBg.cg h26 rfl (fun i => rfl) (fun i => rfl)) (by have t := e86; rw [show (u9 : Int) = u10 by omega] at t; exact t) (by omega) h109 h110 (by omega) (by omega) (by omega) (by omega))) (zwk_c (zwk_c (zwk_c (zwk_c (zwk_c zwk_e)))))
  exact zK.weak (L_27 _ 0 0 M5 J hI7 hK8 (by omega) (by omega) (by omega) (by omega) (zMo.nil (by have hz : M5 a 3 = 0 := (zup_s e6); omega) (((zup_p e6 (by omega) _).trans (zup_p e2 (by omega) _)).trans p3.2)) (by have h3 : M5 a 3 = 0 := (zup_s e6); rw [h3]; have h2 : M5 (a + 2) 0 = 0 := (((zup_p e6 (by omega) _).trans (zup_p e2 (by omega) _)).trans p3.2); omega) (fun i => ((zup_p e6 (by omega) _).trans (zup_p e2 (by omega) _))) (by have hz120 : M5 a 3 = 0 := (zup_s e6); omega) (Or.inl ⟨by have h3 : M5 a 3 = 0 := (zup_s e6); rw [h3]; exact (((zup_p e6 (by omega) _).trans (zup_p e2 (by omega) _)).trans p3.2), Or.inl rfl⟩) (by have hz121 : M5 a 4 = 1 := ((zup_n e6 (by omega)).trans (zup_s e2)); omega) (zRl.nil (zup_s e6) (((zup_p e6 (by omega) _).trans (zup_p e2 (by omega) _)).trans p3.2)) (zBg.nil (zup_s e6) (((zup_p e6 (by omega) _).trans (zup_p e2 (by omega) _)).trans p3.2)) (Int.self_le_toNat _)) (zwk_c (zwk_c (zwk_c (zwk_c (zwk_c zwk_e)))))
theorem c_X4_change_g {w : zWp} {T : zTl} {M : zMm} {J : zJm} {R : zRm'} {G : zGt} {F : zRm'} {a b tb : Nat} (hI : zI G M) (hF : zF F R) (h0 : zPage T F G a) (v1 : Int) (t_b0 : T[b]? = some (51, 440)) (g_b0 : ∀ k, G b k = (tb, (-128), 127)) (v3 : Int) (p1 : 0 ≤ v1 ∧ v1 ≤ M a 3) (p2 : 0 ≤ v3 ∧ v3 ≤ 440) (p3 : tb < 20) (p4 : zPr M a) : zCt w 13 0 0 yX4_change cX4_change 8 (some .boolean) [.ref (w.2.1 + a), zi v1, .ref (w.2.1 + b), zi v3] (T, M, J, R) (zPi T R G (fun x M2 => (zKr a 4 M M2) ∧ (x = 0 ∨ x = 1) ∧ (zPr M2 a) ∧ (x = 0 → M2 = M) ∧ (zChx M a v1 v3 x) ∧ (x = 1 → zChg M M2 a v1 v3) ∧ (x = 1 → zEb M M2 a v1 v3 (M b)) ∧ (x = 1 → zWv M2 a) ∧ (x = 1 → zEc M M2 a v1 v3) ∧ (x = 1 → zGp M2 a))) := by
  refine zCt.of rfl (Nat.le_of_ble_eq_true rfl) ?_
  intro p e s m args below meth c C
  obtain ⟨Po, hPo⟩ : ∃ Po, Po = zPi T R G (fun x M2 => (zKr a 4 M M2) ∧ (x = 0 ∨ x = 1) ∧ (zPr M2 a) ∧ (x = 0 → M2 = M) ∧ (zChx M a v1 v3 x) ∧ (x = 1 → zChg M M2 a v1 v3) ∧ (x = 1 → zEb M M2 a v1 v3 (M b)) ∧ (x = 1 → zWv M2 a) ∧ (x = 1 → zEc M M2 a v1 v3) ∧ (x = 1 → zGp M2 a)) := ⟨_, rfl⟩
  rw [← hPo]
  have hK0 : zKr a 4 M M := zKr.rf
  have hbd : b + 1 ≤ a ∨ a + 4 ≤ b := zPgB h0 t_b0
  show zK w p e 13 0 0 s m args below meth c 8 T Po 0 [.ref (w.2.1 + a), zi v1, .ref (w.2.1 + b), zi v3, .null, .null, .null, .null] [] (T, M, J, R)
  have q0 := zI.at hI h0.2.2.2.2.2.2.2.2.2.2.1
  have q1 := p4.1.lt (i := v1) (j := M a 3) (by omega) (by omega) (by omega)
  have q2 : v1 < M a 3 → M (a + 2) v1 ≤ M (a + 2) (v1 + 1) := fun h => p4.1.1 v1 (by omega) h
  have q3 : v1 < M a 3 → M (a + 2) (v1 + 1) ≤ M (a + 2) (M a 3) := fun h => p4.1.lt (by omega) (by omega) (by omega)
  have qSL : ¬ v1 = M a 3 ∨ M (a + 2) v1 = M (a + 2) (M a 3) := (Decidable.em (v1 = M a 3)).symm.imp id (fun h => by rw [h])
  refine q_iload_n C dX4_change_0 (n := 1) rfl rfl ?_
  refine q_aload_n C dX4_change_1 (n := 2) rfl rfl ?_
  have g1 := zI.at hI h0.2.2.2.2.2.2.2.2.2.2.1
  refine q_getI C dX4_change_2 (n := 5) rfl f_X4_22 h0.1 (v := M a 3) rfl ?_
  have J_6 : ∀ (u2 : Int), (-2147483648 ≤ u2 ∧ u2 ≤ 2147483647) → (u2 = 0 ∨ u2 = 1) → (u2 = 1 ∧ v1 = M a 3 ∨ u2 = 0 ∧ ¬ v1 = M a 3) → zK w p e 13 0 0 s m args below meth c 8 T Po 13 [.ref (w.2.1 + a), zi v1, .ref (w.2.1 + b), zi v3, .null, .null, .null, .null] [zi u2] (T, M, J, R) := by
    intro u2 h3 h4 h5
    refine q_istore C [.ref (w.2.1 + a), zi v1, .ref (w.2.1 + b), zi v3, zi u2, .null, .null, .null] dX4_change_13 (n := 15) rfl rfl rfl ?_
    refine q_iload C dX4_change_15 (n := 17) rfl rfl ?_
    have J_10 : ∀ (u7 : Int), (-2147483648 ≤ u7 ∧ u7 ≤ 2147483647) → ((u7 = M (a + 2) (M a 3) ∧ v1 = M a 3) ∨ (u7 = M (a + 2) (v1 + 1) ∧ v1 < M a 3)) → zK w p e 13 0 0 s m args below meth c 8 T Po 40 [.ref (w.2.1 + a), zi v1, .ref (w.2.1 + b), zi v3, zi u2, .null, .null, .null] [zi u7] (T, M, J, R) := by
      intro u7 h8 h9
      refine q_istore C [.ref (w.2.1 + a), zi v1, .ref (w.2.1 + b), zi v3, zi u2, zi u7, .null, .null] dX4_change_40 (n := 42) rfl rfl rfl ?_
      refine q_aload_n C dX4_change_42 (n := 43) rfl rfl ?_
      refine q_getR C dX4_change_43 (n := 46) rfl f_X4_15 h0.1 (hF _ _ _ h0.2.2.2.2.1) ?_
      refine q_iload_n C dX4_change_46 (n := 47) rfl rfl ?_
      have g11 := zI.at hI (h0.2.2.2.2.2.2.1 v1)
      refine q_iald C dX4_change_47 (n := 48) rfl h0.2.2.2.2.2.1 (by omega) (v := M (a + 2) v1) rfl ?_
      refine q_iload_n C dX4_change_48 (n := 49) rfl rfl ?_
      refine q_iadd C dX4_change_49 (n := 50) rfl (v := (M (a + 2) v1) + v3) rfl ?_
      refine q_iconst C dX4_change_50 (n := 51) rfl ?_
      refine q_iadd C dX4_change_51 (n := 52) rfl (v := ((M (a + 2) v1) + v3) + 1) rfl ?_
      refine q_iload C dX4_change_52 (n := 54) rfl rfl ?_
      refine q_isub C dX4_change_54 (n := 55) rfl (v := (((M (a + 2) v1) + v3) + 1) - u7) rfl ?_
      refine q_istore C [.ref (w.2.1 + a), zi v1, .ref (w.2.1 + b), zi v3, zi u2, zi u7, zi ((((M (a + 2) v1) + v3) + 1) - u7), .null] dX4_change_55 (n := 57) rfl rfl rfl ?_
      refine q_aload_n C dX4_change_57 (n := 58) rfl rfl ?_
      refine q_getR C dX4_change_58 (n := 61) rfl f_X4_15 h0.1 (hF _ _ _ h0.2.2.2.2.1) ?_
      refine q_aload_n C dX4_change_61 (n := 62) rfl rfl ?_
      refine q_getI C dX4_change_62 (n := 65) rfl f_X4_22 h0.1 (v := M a 3) rfl ?_
      have g12 := zI.at hI (h0.2.2.2.2.2.2.1 (M a 3))
      refine q_iald C dX4_change_65 (n := 66) rfl h0.2.2.2.2.2.1 (by omega) (v := M (a + 2) (M a 3)) rfl ?_
      refine q_iload C dX4_change_66 (n := 68) rfl rfl ?_
      refine q_iadd C dX4_change_68 (n := 69) rfl (v := (M (a + 2) (M a 3)) + ((((M (a + 2) v1) + v3) + 1) - u7)) rfl ?_
      refine q_sipush C dX4_change_69 (n := 72) rfl (x := 400) (by decide) ?_
      refine q_icmp_gt C 89 dX4_change_72 (n := 75) rfl rfl (by omega) (fun h13 => ?_) (fun h13 => ?_)
      · refine q_iconst C dX4_change_89 (n := 90) rfl ?_
        exact q_zret C dX4_change_90 ⟨rfl, rfl⟩ (by omega) (by rw [hPo]; exact ⟨0, M, J, rfl, rfl, hI, hK0, by omega, p4, (fun _ => rfl), (by unfold zChx; omega), (fun h => absurd h (by decide)), (fun h => absurd h (by decide)), (fun h => absurd h (by decide)), (fun h => absurd h (by decide)), (fun h => absurd h (by decide))⟩)
      · refine q_iload C dX4_change_75 (n := 77) rfl rfl ?_
        have J_15 : (u2 = 0 ∨ M a 3 < 40) → zK w p e 13 0 0 s m args below meth c 8 T Po 91 [.ref (w.2.1 + a), zi v1, .ref (w.2.1 + b), zi v3, zi u2, zi u7, zi ((((M (a + 2) v1) + v3) + 1) - u7), .null] [] (T, M, J, R) := by
          intro h14
          refine q_iload C dX4_change_91 (n := 93) rfl rfl ?_
          have J_23 : ∀ (M16 : zMm) (J17 : zJm), zI G M16 → zKr a 4 M M16 → (zCg M16 a v1 v3 u7 ((((M (a + 2) v1) + v3) + 1) - u7)) → (zCh0 M M16 a v1) → (∀ x, M16 (a + 1) x = M (a + 1) x) → zK w p e 13 0 0 s m args below meth c 8 T Po 117 [.ref (w.2.1 + a), zi v1, .ref (w.2.1 + b), zi v3, .null, zi u7, zi ((((M (a + 2) v1) + v3) + 1) - u7), .null] [] (T, M16, J17, R) := by
            intro M16 J17 hI18 hK19 h20 h21 h22
            obtain ⟨c1, c2, c3, c4, c5, c6⟩ := id h20
            have c7 := c1.lt (i := v1 + 1) (j := M16 a 3) (by omega) (by omega) (by omega)
            have c8 := c1.1 v1 (by omega) (by omega)
            have c9 := zI.at hI18 (h0.2.2.2.2.2.2.1 (v1 + 1))
            have c10 := zI.at hI18 (h0.2.2.2.2.2.2.1 v1)
            have c11 := zI.at hI18 (h0.2.2.2.2.2.2.1 (M16 a 3))
            refine q_aload_n C dX4_change_117 (n := 118) rfl rfl ?_
            refine q_getR C dX4_change_118 (n := 121) rfl f_X4_9 h0.1 (hF _ _ _ h0.2.1) ?_
            refine q_iload C dX4_change_121 (n := 123) rfl rfl ?_
            refine q_aload_n C dX4_change_123 (n := 124) rfl rfl ?_
            refine q_getR C dX4_change_124 (n := 127) rfl f_X4_9 h0.1 (hF _ _ _ h0.2.1) ?_
            refine q_iload C dX4_change_127 (n := 129) rfl rfl ?_
            refine q_iload C dX4_change_129 (n := 131) rfl rfl ?_
            refine q_iadd C dX4_change_131 (n := 132) rfl (v := u7 + ((((M (a + 2) v1) + v3) + 1) - u7)) rfl ?_
            refine q_aload_n C dX4_change_132 (n := 133) rfl rfl ?_
            refine q_getR C dX4_change_133 (n := 136) rfl f_X4_15 h0.1 (hF _ _ _ h0.2.2.2.2.1) ?_
            refine q_aload_n C dX4_change_136 (n := 137) rfl rfl ?_
            have g24 := zI.at hI18 h0.2.2.2.2.2.2.2.2.2.2.1
            refine q_getI C dX4_change_137 (n := 140) rfl f_X4_22 h0.1 (v := M16 a 3) rfl ?_
            have g25 := zI.at hI18 (h0.2.2.2.2.2.2.1 (M16 a 3))
            refine q_iald C dX4_change_140 (n := 141) rfl h0.2.2.2.2.2.1 (by omega) (v := M16 (a + 2) (M16 a 3)) rfl ?_
            refine q_iload C dX4_change_141 (n := 143) rfl rfl ?_
            refine q_isub C dX4_change_143 (n := 144) rfl (v := (M16 (a + 2) (M16 a 3)) - u7) rfl ?_
            refine q_copyB C dX4_change_144 (n := 147) rfl x_X4_43 h0.2.2.1 h0.2.2.1 (by omega) (fun j => by have := zI.at hI18 (h0.2.2.2.1 j); omega) (Nat.le_of_ble_eq_true rfl) (Nat.le_of_ble_eq_true rfl) (fun M26 e27 => ?_)
            have hI28 : zI G M26 := hI18.cp e27 h0.2.2.2.1 h0.2.2.2.1 rfl (by omega)
            have hK29 := hK19.cp e27 (by omega)
            refine q_aload_n C dX4_change_147 (n := 148) rfl rfl ?_
            refine q_iconst C dX4_change_148 (n := 149) rfl ?_
            refine q_aload_n C dX4_change_149 (n := 150) rfl rfl ?_
            refine q_getR C dX4_change_150 (n := 153) rfl f_X4_9 h0.1 (hF _ _ _ h0.2.1) ?_
            refine q_aload_n C dX4_change_153 (n := 154) rfl rfl ?_
            refine q_getR C dX4_change_154 (n := 157) rfl f_X4_15 h0.1 (hF _ _ _ h0.2.2.2.2.1) ?_
            refine q_iload_n C dX4_change_157 (n := 158) rfl rfl ?_
            have g30 := zI.at hI18 (h0.2.2.2.2.2.2.1 v1)
            refine q_iald C dX4_change_158 (n := 159) rfl h0.2.2.2.2.2.1 (by omega) (v := M16 (a + 2) v1) (zcp_p e27 (by omega) _) ?_
            refine q_iload_n C dX4_change_159 (n := 160) rfl rfl ?_
            refine q_copyB C dX4_change_160 (n := 163) rfl x_X4_43 t_b0 h0.2.2.1 (by omega) (fun j => by have := zI.at hI28 (g_b0 j); omega) (Nat.le_of_ble_eq_true rfl) (Nat.le_of_ble_eq_true rfl) (fun M31 e32 => ?_)
            have hI33 : zI G M31 := hI28.cp e32 g_b0 h0.2.2.2.1 rfl (by omega)
            have hK34 := hK29.cp e32 (by omega)
            refine q_aload_n C dX4_change_163 (n := 164) rfl rfl ?_
            refine q_getR C dX4_change_164 (n := 167) rfl f_X4_9 h0.1 (hF _ _ _ h0.2.1) ?_
            refine q_aload_n C dX4_change_167 (n := 168) rfl rfl ?_
            refine q_getR C dX4_change_168 (n := 171) rfl f_X4_15 h0.1 (hF _ _ _ h0.2.2.2.2.1) ?_
            refine q_iload_n C dX4_change_171 (n := 172) rfl rfl ?_
            refine q_iald C dX4_change_172 (n := 173) rfl h0.2.2.2.2.2.1 (by omega) (v := M16 (a + 2) v1) ((zcp_p e32 (by omega) _).trans (zcp_p e27 (by omega) _)) ?_
            refine q_iload_n C dX4_change_173 (n := 174) rfl rfl ?_
            refine q_iadd C dX4_change_174 (n := 175) rfl (v := (M16 (a + 2) v1) + v3) rfl ?_
            refine q_bipush C dX4_change_175 (n := 177) rfl (x := 10) (by decide) ?_
            refine q_bast C dX4_change_177 (n := 178) rfl h0.2.2.1 (by omega) (by omega) (fun M35 e36 => ?_)
            have hI37 : zI G M35 := hI33.put e36 (h0.2.2.2.1 ((M16 (a + 2) v1) + v3)) rfl (by omega)
            have hK38 := hK34.put e36 (by omega)
            have hcb := zCb.of h20 e27 e32 e36 ⟨rfl, by omega, by omega⟩ ⟨rfl, by omega, rfl⟩ (by omega) (by omega)
            refine q_iload_n C dX4_change_178 (n := 179) rfl rfl ?_
            refine q_iconst C dX4_change_179 (n := 180) rfl ?_
            refine q_iadd C dX4_change_180 (n := 181) rfl (v := v1 + 1) rfl ?_
            refine q_istore C [.ref (w.2.1 + a), zi v1, .ref (w.2.1 + b), zi v3, .null, zi u7, zi ((((M (a + 2) v1) + v3) + 1) - u7), zi (v1 + 1)] dX4_change_181 (n := 183) rfl rfl rfl ?_
            have L_48 : ∀ n49 : Nat, ∀ (u39 : Int) (M40 : zMm) (J41 : zJm), zI G M40 → zKr a 4 M M40 → (-2147483648 ≤ u39 ∧ u39 ≤ 2147483647) → (zCl M35 M40 a v1 v3 u7 ((((M (a + 2) v1) + v3) + 1) - u7) u39) → (M40 a 4 = M35 a 4) → (∀ x, M40 (a + 1) x = M35 (a + 1) x) → (42 - u39 ≤ (n49 : Int)) → zK w p e 13 0 0 s m args below meth c 8 T Po 183 [.ref (w.2.1 + a), .null, .null, .null, .null, .null, zi ((((M (a + 2) v1) + v3) + 1) - u7), zi u39] [] (T, M40, J41, R) := by
              intro n49
              induction n49 with
              | zero =>
                intro u39 M40 J41 hI42 hK43 h44 h45 h46 h47 hm51
                exfalso
                have s1 := zCl.size h45
                omega
              | succ n49 ih50 =>
                intro u39 M40 J41 hI42 hK43 h44 h45 h46 h47 hm51
                have s1 := zCl.size h45
                refine q_iload C dX4_change_183 (n := 185) rfl rfl ?_
                refine q_aload_n C dX4_change_185 (n := 186) rfl rfl ?_
                have g52 := zI.at hI42 h0.2.2.2.2.2.2.2.2.2.2.1
                refine q_getI C dX4_change_186 (n := 189) rfl f_X4_22 h0.1 (v := M40 a 3) rfl ?_
                refine q_icmp_gt C 210 dX4_change_189 (n := 192) rfl rfl (by omega) (fun h53 => ?_) (fun h53 => ?_)
                · have s3 := h45.fin (by omega)
                  refine q_aload_n C dX4_change_210 (n := 211) rfl rfl ?_
                  refine q_callVv C dX4_change_211 (n := 214) rfl m_X4_40 v_yX4_mark h0.1 ⟨by decide, rfl⟩ (c_X4_mark_g (w := w) (J := J41) hI42 hF h0) (Nat.le_of_ble_eq_true rfl) rfl rfl (Nat.le_of_ble_eq_true rfl) ⟨Nat.le_refl _, Nat.le_refl _⟩ (fun M61 J62  hI63 h64 => ?_)
                  obtain ⟨hk65, h54, h55, h56, h57, h58, h59, h60⟩ := h64
                  have hK66 := hK43.tr hk65
                  have hz67 : M40 a 4 = M16 a 4 := ((h46).trans ((zup_p e36 (by omega) _).trans ((zcp_p e32 (by omega) _).trans (zcp_p e27 (by omega) _))))
                  refine q_iconst C dX4_change_214 (n := 215) rfl ?_
                  exact q_zret C dX4_change_215 ⟨rfl, rfl⟩ (by omega) (by rw [hPo]; exact ⟨1, M61, J62, rfl, rfl, hI63, hK66, by omega, ⟨(s3.cg (h54) (fun i => (h55 i))), h56⟩, (fun h => absurd h (by decide)), (by unfold zChx; omega), (fun _ => zChg.mk (zCh0.tr h21 ⟨((zup_p e36 (by omega) _).trans ((zcp_p e32 (by omega) _).trans (zcp_p e27 (by omega) _))), ((zup_p e36 (by omega) _).trans ((zcp_p e32 (by omega) _).trans (zcp_p e27 (by omega) _))), fun i => ((zup_p e36 (by omega) _).trans ((zcp_p e32 (by omega) _).trans (zcp_p e27 (by omega) _)))⟩) h45 (by omega) (by omega) ⟨(h57), (h54), fun i => (h55 i)⟩), (fun _ => zEb.cg zStw.rf (zEb.mk h21 h22 hcb ((zup_p e36 (by omega) _).trans ((zcp_p e32 (by omega) _).trans (zcp_p e27 (by omega) _))) (fun j => ((zup_p e36 (by omega) _).trans ((zcp_p e32 (by omega) _).trans (zcp_p e27 (by omega) _)))) h45 (by omega) (fun x => h47 x) ⟨(h54), fun i => (h58 i), fun i => (h55 i)⟩ (fun j => (zI.at hI (h0.2.2.2.2.2.2.1 j)).1)) zStw.rf rfl (fun j => (hK19 _ _ (by omega)))), (fun _ => h59), (fun _ => zEc.mk h21 ((zup_p e36 (by omega) _).trans ((zcp_p e32 (by omega) _).trans (zcp_p e27 (by omega) _))) (fun j => ((zup_p e36 (by omega) _).trans ((zcp_p e32 (by omega) _).trans (zcp_p e27 (by omega) _)))) h45 (by omega) ⟨(h54), fun i => (h58 i), fun i => (h55 i)⟩), (fun _ => h60)⟩)
                · refine q_aload_n C dX4_change_192 (n := 193) rfl rfl ?_
                  refine q_getR C dX4_change_193 (n := 196) rfl f_X4_15 h0.1 (hF _ _ _ h0.2.2.2.2.1) ?_
                  refine q_iload C dX4_change_196 (n := 198) rfl rfl ?_
                  refine q_dup2 C dX4_change_198 (n := 199) rfl ⟨rfl, rfl⟩ ?_
                  have g68 := zI.at hI42 (h0.2.2.2.2.2.2.1 u39)
                  refine q_iald C dX4_change_199 (n := 200) rfl h0.2.2.2.2.2.1 (by omega) (v := M40 (a + 2) u39) rfl ?_
                  refine q_iload C dX4_change_200 (n := 202) rfl rfl ?_
                  refine q_iadd C dX4_change_202 (n := 203) rfl (v := (M40 (a + 2) u39) + ((((M (a + 2) v1) + v3) + 1) - u7)) rfl ?_
                  have s2 := h45.bound (fun j => (zI.at hI37 (h0.2.2.2.2.2.2.1 j)).1) (by omega)
                  refine q_iast C dX4_change_203 (n := 204) rfl h0.2.2.2.2.2.1 (by omega)  (fun M69 e70 => ?_)
                  have hI71 : zI G M69 := hI42.put e70 (h0.2.2.2.2.2.2.1 u39) rfl (by omega)
                  have hK72 := hK43.put e70 (by omega)
                  refine q_iinc C [.ref (w.2.1 + a), .null, .null, .null, .null, .null, zi ((((M (a + 2) v1) + v3) + 1) - u7), zi (u39 + 1)] dX4_change_204 (n := 207) rfl rfl rfl rfl ?_
                  refine q_goto C 183 dX4_change_207 rfl ?_
                  exact zK.weak (ih50 (u39 + 1) M69 J41 hI71 hK72 (by omega) (h45.step (by omega) e70) (((zup_p e70 (by omega) _)).trans h46) (fun x => ((zup_p e70 (by omega) _)).trans (h47 x)) (by omega)) (zwk_c (zwk_n (zwk_n (zwk_n (zwk_n (zwk_n (zwk_c (zwk_c zwk_e))))))))
            exact zK.weak (L_48 _ (v1 + 1) M35 J17 hI37 hK38 (by omega) (zCl.start (h20.cg ((zup_p e36 (by omega) _).trans ((zcp_p e32 (by omega) _).trans (zcp_p e27 (by omega) _))) (fun i => ((zup_p e36 (by omega) _).trans ((zcp_p e32 (by omega) _).trans (zcp_p e27 (by omega) _))))) rfl) rfl (fun x => rfl) (Int.self_le_toNat _)) (zwk_c (zwk_n (zwk_n (zwk_n (zwk_n (zwk_n (zwk_c (zwk_c zwk_e))))))))
          refine q_if_eq C 117 dX4_change_93 (n := 96) rfl rfl (by omega) (fun h73 => ?_) (fun h73 => ?_)
          · exact zK.weak (J_23 M J hI hK0 ⟨p4.1, ⟨by omega, by omega, by omega⟩, by omega, by omega, by omega, by omega⟩ ⟨rfl, Or.inr ⟨by omega, rfl⟩, fun _ _ => rfl⟩ (fun _ => rfl)) (zwk_c (zwk_c (zwk_c (zwk_c (zwk_n (zwk_c (zwk_c (zwk_n zwk_e))))))))
          · refine q_aload_n C dX4_change_96 (n := 97) rfl rfl ?_
            refine q_dup C dX4_change_97 (n := 98) rfl rfl ?_
            refine q_getI C dX4_change_98 (n := 101) rfl f_X4_22 h0.1 (v := M a 3) rfl ?_
            refine q_iconst C dX4_change_101 (n := 102) rfl ?_
            refine q_iadd C dX4_change_102 (n := 103) rfl (v := (M a 3) + 1) rfl ?_
            refine q_putI C dX4_change_103 (n := 106) rfl f_X4_22 h0.1 ⟨rfl, rfl⟩ (fun M74 (e75 : M74 = zup M a 3 ((M a 3) + 1)) => ?_)
            have hI76 : zI G M74 := hI.put e75 h0.2.2.2.2.2.2.2.2.2.2.1 rfl (by omega)
            have hK77 := hK0.put e75 (by omega)
            refine q_aload_n C dX4_change_106 (n := 107) rfl rfl ?_
            refine q_getR C dX4_change_107 (n := 110) rfl f_X4_15 h0.1 (hF _ _ _ h0.2.2.2.2.1) ?_
            refine q_aload_n C dX4_change_110 (n := 111) rfl rfl ?_
            refine q_getI C dX4_change_111 (n := 114) rfl f_X4_22 h0.1 (v := (M a 3) + 1) (zup_s e75) ?_
            refine q_iload C dX4_change_114 (n := 116) rfl rfl ?_
            refine q_iast C dX4_change_116 (n := 117) rfl h0.2.2.2.2.2.1 (by omega)  (fun M78 e79 => ?_)
            have hI80 : zI G M78 := hI76.put e79 (h0.2.2.2.2.2.2.1 ((M a 3) + 1)) rfl (by omega)
            have hK81 := hK77.put e79 (by omega)
            exact zK.weak (J_23 M78 J hI80 hK81 (zCg.B p4.1 rfl (by omega) (by omega) (by omega) (by omega) (by omega) (by omega) (by omega) e75 e79) ⟨(zup_p e79 (by omega) _).trans (zup_n e75 (by omega)), Or.inl ⟨by omega, (zup_p e79 (by omega) _).trans (zup_s e75)⟩, fun j hj => (zup_n e79 (by omega)).trans (zup_p e75 (by omega) _)⟩ (fun x => ((zup_p e79 (by omega) _).trans (zup_p e75 (by omega) _)))) (zwk_c (zwk_c (zwk_c (zwk_c (zwk_n (zwk_c (zwk_c (zwk_n zwk_e))))))))
        refine q_if_eq C 91 dX4_change_77 (n := 80) rfl rfl (by omega) (fun h82 => ?_) (fun h82 => ?_)
        · exact zK.weak (J_15 (by omega)) (zwk_c (zwk_c (zwk_c (zwk_c (zwk_c (zwk_c (zwk_c (zwk_n zwk_e))))))))
        · refine q_aload_n C dX4_change_80 (n := 81) rfl rfl ?_
          refine q_getI C dX4_change_81 (n := 84) rfl f_X4_22 h0.1 (v := M a 3) rfl ?_
          refine q_bipush C dX4_change_84 (n := 86) rfl (x := 40) (by decide) ?_
          refine q_icmp_lt C 91 dX4_change_86 (n := 89) rfl rfl (by omega) (fun h83 => ?_) (fun h83 => ?_)
          · exact zK.weak (J_15 (by omega)) (zwk_c (zwk_c (zwk_c (zwk_c (zwk_c (zwk_c (zwk_c (zwk_n zwk_e))))))))
          · refine q_iconst C dX4_change_89 (n := 90) rfl ?_
            exact q_zret C dX4_change_90 ⟨rfl, rfl⟩ (by omega) (by rw [hPo]; exact ⟨0, M, J, rfl, rfl, hI, hK0, by omega, p4, (fun _ => rfl), (by unfold zChx; omega), (fun h => absurd h (by decide)), (fun h => absurd h (by decide)), (fun h => absurd h (by decide)), (fun h => absurd h (by decide)), (fun h => absurd h (by decide))⟩)
    refine q_if_eq C 32 dX4_change_17 (n := 20) rfl rfl (by omega) (fun h84 => ?_) (fun h84 => ?_)
    · refine q_aload_n C dX4_change_32 (n := 33) rfl rfl ?_
      refine q_getR C dX4_change_33 (n := 36) rfl f_X4_15 h0.1 (hF _ _ _ h0.2.2.2.2.1) ?_
      refine q_iload_n C dX4_change_36 (n := 37) rfl rfl ?_
      refine q_iconst C dX4_change_37 (n := 38) rfl ?_
      refine q_iadd C dX4_change_38 (n := 39) rfl (v := v1 + 1) rfl ?_
      have g85 := zI.at hI (h0.2.2.2.2.2.2.1 (v1 + 1))
      refine q_iald C dX4_change_39 (n := 40) rfl h0.2.2.2.2.2.1 (by omega) (v := M (a + 2) (v1 + 1)) rfl ?_
      exact zK.weak (J_10 (M (a + 2) (v1 + 1)) (by omega) (by omega)) (zwk_c (zwk_c (zwk_c (zwk_c (zwk_c (zwk_n (zwk_n (zwk_n zwk_e))))))))
    · refine q_aload_n C dX4_change_20 (n := 21) rfl rfl ?_
      refine q_getR C dX4_change_21 (n := 24) rfl f_X4_15 h0.1 (hF _ _ _ h0.2.2.2.2.1) ?_
      refine q_aload_n C dX4_change_24 (n := 25) rfl rfl ?_
      refine q_getI C dX4_change_25 (n := 28) rfl f_X4_22 h0.1 (v := M a 3) rfl ?_
      have g86 := zI.at hI (h0.2.2.2.2.2.2.1 (M a 3))
      refine q_iald C dX4_change_28 (n := 29) rfl h0.2.2.2.2.2.1 (by omega) (v := M (a + 2) (M a 3)) rfl ?_
      refine q_goto C 40 dX4_change_29 rfl ?_
      exact zK.weak (J_10 (M (a + 2) (M a 3)) (by omega) (by omega)) (zwk_c (zwk_c (zwk_c (zwk_c (zwk_c (zwk_n (zwk_n (zwk_n zwk_e))))))))
  refine q_icmp_ne C 12 dX4_change_5 (n := 8) rfl rfl (by omega) (fun h87 => ?_) (fun h87 => ?_)
  · refine q_iconst C dX4_change_12 (n := 13) rfl ?_
    exact zK.weak (J_6 0 (by omega) (by omega) (by omega)) (zwk_c (zwk_c (zwk_c (zwk_c (zwk_n (zwk_n (zwk_n (zwk_n zwk_e))))))))
  · refine q_iconst C dX4_change_8 (n := 9) rfl ?_
    refine q_goto C 13 dX4_change_9 rfl ?_
    exact zK.weak (J_6 1 (by omega) (by omega) (by omega)) (zwk_c (zwk_c (zwk_c (zwk_c (zwk_n (zwk_n (zwk_n (zwk_n zwk_e))))))))
theorem c_X4_takeOut_g {w : zWp} {T : zTl} {M : zMm} {J : zJm} {R : zRm'} {G : zGt} {F : zRm'} {a : Nat} (hI : zI G M) (hF : zF F R) (h0 : zPage T F G a) (v1 : Int) (p1 : 0 ≤ v1 ∧ v1 < M a 3) (p2 : zPr M a) : zCt w 13 0 0 yX4_takeOut cX4_takeOut 4 none [.ref (w.2.1 + a), zi v1] (T, M, J, R) (zPv T R G (fun M2 => (zKr a 4 M M2) ∧ (zPr M2 a) ∧ (zTko M M2 a v1) ∧ (zTb M M2 a v1) ∧ (zWv M2 a) ∧ (zTc M M2 a v1) ∧ (zGp M2 a))) := by
  refine zCt.of rfl (Nat.le_of_ble_eq_true rfl) ?_
  intro p e s m args below meth c C
  obtain ⟨Po, hPo⟩ : ∃ Po, Po = zPv T R G (fun M2 => (zKr a 4 M M2) ∧ (zPr M2 a) ∧ (zTko M M2 a v1) ∧ (zTb M M2 a v1) ∧ (zWv M2 a) ∧ (zTc M M2 a v1) ∧ (zGp M2 a)) := ⟨_, rfl⟩
  rw [← hPo]
  have hK0 : zKr a 4 M M := zKr.rf
  show zK w p e 13 0 0 s m args below meth c 4 T Po 0 [.ref (w.2.1 + a), zi v1, .null, .null] [] (T, M, J, R)
  have q0 := zI.at hI h0.2.2.2.2.2.2.2.2.2.2.1
  have q1 := p2.1.1 v1 (by omega) (by omega)
  have q2 := p2.1.lt (i := v1 + 1) (j := M a 3) (by omega) (by omega) (by omega)
  refine q_aload_n C dX4_takeOut_0 (n := 1) rfl rfl ?_
  refine q_getR C dX4_takeOut_1 (n := 4) rfl f_X4_15 h0.1 (hF _ _ _ h0.2.2.2.2.1) ?_
  refine q_iload_n C dX4_takeOut_4 (n := 5) rfl rfl ?_
  refine q_iconst C dX4_takeOut_5 (n := 6) rfl ?_
  refine q_iadd C dX4_takeOut_6 (n := 7) rfl (v := v1 + 1) rfl ?_
  have g1 := zI.at hI (h0.2.2.2.2.2.2.1 (v1 + 1))
  refine q_iald C dX4_takeOut_7 (n := 8) rfl h0.2.2.2.2.2.1 (by omega) (v := M (a + 2) (v1 + 1)) rfl ?_
  refine q_aload_n C dX4_takeOut_8 (n := 9) rfl rfl ?_
  refine q_getR C dX4_takeOut_9 (n := 12) rfl f_X4_15 h0.1 (hF _ _ _ h0.2.2.2.2.1) ?_
  refine q_iload_n C dX4_takeOut_12 (n := 13) rfl rfl ?_
  have g2 := zI.at hI (h0.2.2.2.2.2.2.1 v1)
  refine q_iald C dX4_takeOut_13 (n := 14) rfl h0.2.2.2.2.2.1 (by omega) (v := M (a + 2) v1) rfl ?_
  refine q_isub C dX4_takeOut_14 (n := 15) rfl (v := (M (a + 2) (v1 + 1)) - (M (a + 2) v1)) rfl ?_
  refine q_istore_n C [.ref (w.2.1 + a), zi v1, zi ((M (a + 2) (v1 + 1)) - (M (a + 2) v1)), .null] dX4_takeOut_15 (n := 16) rfl rfl rfl ?_
  refine q_aload_n C dX4_takeOut_16 (n := 17) rfl rfl ?_
  refine q_getR C dX4_takeOut_17 (n := 20) rfl f_X4_9 h0.1 (hF _ _ _ h0.2.1) ?_
  refine q_aload_n C dX4_takeOut_20 (n := 21) rfl rfl ?_
  refine q_getR C dX4_takeOut_21 (n := 24) rfl f_X4_15 h0.1 (hF _ _ _ h0.2.2.2.2.1) ?_
  refine q_iload_n C dX4_takeOut_24 (n := 25) rfl rfl ?_
  refine q_iconst C dX4_takeOut_25 (n := 26) rfl ?_
  refine q_iadd C dX4_takeOut_26 (n := 27) rfl (v := v1 + 1) rfl ?_
  refine q_iald C dX4_takeOut_27 (n := 28) rfl h0.2.2.2.2.2.1 (by omega) (v := M (a + 2) (v1 + 1)) rfl ?_
  refine q_aload_n C dX4_takeOut_28 (n := 29) rfl rfl ?_
  refine q_getR C dX4_takeOut_29 (n := 32) rfl f_X4_9 h0.1 (hF _ _ _ h0.2.1) ?_
  refine q_aload_n C dX4_takeOut_32 (n := 33) rfl rfl ?_
  refine q_getR C dX4_takeOut_33 (n := 36) rfl f_X4_15 h0.1 (hF _ _ _ h0.2.2.2.2.1) ?_
  refine q_iload_n C dX4_takeOut_36 (n := 37) rfl rfl ?_
  refine q_iald C dX4_takeOut_37 (n := 38) rfl h0.2.2.2.2.2.1 (by omega) (v := M (a + 2) v1) rfl ?_
  refine q_aload_n C dX4_takeOut_38 (n := 39) rfl rfl ?_
  refine q_getR C dX4_takeOut_39 (n := 42) rfl f_X4_15 h0.1 (hF _ _ _ h0.2.2.2.2.1) ?_
  refine q_aload_n C dX4_takeOut_42 (n := 43) rfl rfl ?_
  have g3 := zI.at hI h0.2.2.2.2.2.2.2.2.2.2.1
  refine q_getI C dX4_takeOut_43 (n := 46) rfl f_X4_22 h0.1 (v := M a 3) rfl ?_
  have g4 := zI.at hI (h0.2.2.2.2.2.2.1 (M a 3))
  refine q_iald C dX4_takeOut_46 (n := 47) rfl h0.2.2.2.2.2.1 (by omega) (v := M (a + 2) (M a 3)) rfl ?_
  refine q_aload_n C dX4_takeOut_47 (n := 48) rfl rfl ?_
  refine q_getR C dX4_takeOut_48 (n := 51) rfl f_X4_15 h0.1 (hF _ _ _ h0.2.2.2.2.1) ?_
  refine q_iload_n C dX4_takeOut_51 (n := 52) rfl rfl ?_
  refine q_iconst C dX4_takeOut_52 (n := 53) rfl ?_
  refine q_iadd C dX4_takeOut_53 (n := 54) rfl (v := v1 + 1) rfl ?_
  refine q_iald C dX4_takeOut_54 (n := 55) rfl h0.2.2.2.2.2.1 (by omega) (v := M (a + 2) (v1 + 1)) rfl ?_
  refine q_isub C dX4_takeOut_55 (n := 56) rfl (v := (M (a + 2) (M a 3)) - (M (a + 2) (v1 + 1))) rfl ?_
  refine q_copyB C dX4_takeOut_56 (n := 59) rfl x_X4_43 h0.2.2.1 h0.2.2.1 (by omega) (fun j => by have := zI.at hI (h0.2.2.2.1 j); omega) (Nat.le_of_ble_eq_true rfl) (Nat.le_of_ble_eq_true rfl) (fun M5 e6 => ?_)
  have hI7 : zI G M5 := hI.cp e6 h0.2.2.2.1 h0.2.2.2.1 rfl (by omega)
  have hK8 := hK0.cp e6 (by omega)
  refine q_iload_n C dX4_takeOut_59 (n := 60) rfl rfl ?_
  refine q_iconst C dX4_takeOut_60 (n := 61) rfl ?_
  refine q_iadd C dX4_takeOut_61 (n := 62) rfl (v := v1 + 1) rfl ?_
  refine q_istore_n C [.ref (w.2.1 + a), zi v1, zi ((M (a + 2) (v1 + 1)) - (M (a + 2) v1)), zi (v1 + 1)] dX4_takeOut_62 (n := 63) rfl rfl rfl ?_
  have L_18 : ∀ n19 : Nat, ∀ (u9 : Int) (M10 : zMm) (J11 : zJm), zI G M10 → zKr a 4 M M10 → (-2147483648 ≤ u9 ∧ u9 ≤ 2147483647) → (zTk M5 M10 a v1 ((M (a + 2) (v1 + 1)) - (M (a + 2) v1)) u9) → (M10 a 4 = M5 a 4) → (∀ x, M10 (a + 1) x = M5 (a + 1) x) → (42 - u9 ≤ (n19 : Int)) → zK w p e 13 0 0 s m args below meth c 4 T Po 63 [.ref (w.2.1 + a), .null, zi ((M (a + 2) (v1 + 1)) - (M (a + 2) v1)), zi u9] [] (T, M10, J11, R) := by
    intro n19
    induction n19 with
    | zero =>
      intro u9 M10 J11 hI12 hK13 h14 h15 h16 h17 hm21
      exfalso
      have s1 := zTk.size h15
      omega
    | succ n19 ih20 =>
      intro u9 M10 J11 hI12 hK13 h14 h15 h16 h17 hm21
      have s1 := zTk.size h15
      refine q_iload_n C dX4_takeOut_63 (n := 64) rfl rfl ?_
      refine q_aload_n C dX4_takeOut_64 (n := 65) rfl rfl ?_
      have g22 := zI.at hI12 h0.2.2.2.2.2.2.2.2.2.2.1
      refine q_getI C dX4_takeOut_65 (n := 68) rfl f_X4_22 h0.1 (v := M10 a 3) rfl ?_
      refine q_icmp_ge C 93 dX4_takeOut_68 (n := 71) rfl rfl (by omega) (fun h23 => ?_) (fun h23 => ?_)
      · refine q_aload_n C dX4_takeOut_93 (n := 94) rfl rfl ?_
        refine q_dup C dX4_takeOut_94 (n := 95) rfl rfl ?_
        refine q_getI C dX4_takeOut_95 (n := 98) rfl f_X4_22 h0.1 (v := M10 a 3) rfl ?_
        refine q_iconst C dX4_takeOut_98 (n := 99) rfl ?_
        refine q_isub C dX4_takeOut_99 (n := 100) rfl (v := (M10 a 3) - 1) rfl ?_
        refine q_putI C dX4_takeOut_100 (n := 103) rfl f_X4_22 h0.1 ⟨rfl, rfl⟩ (fun M24 (e25 : M24 = zup M10 a 3 ((M10 a 3) - 1)) => ?_)
        have hI26 : zI G M24 := hI12.put e25 h0.2.2.2.2.2.2.2.2.2.2.1 rfl (by omega)
        have hK27 := hK13.put e25 (by omega)
        have s3 := h15.fin (by omega) e25 (by omega)
        refine q_aload_n C dX4_takeOut_103 (n := 104) rfl rfl ?_
        refine q_callVv C dX4_takeOut_104 (n := 107) rfl m_X4_40 v_yX4_mark h0.1 ⟨by decide, rfl⟩ (c_X4_mark_g (w := w) (J := J11) hI26 hF h0) (Nat.le_of_ble_eq_true rfl) rfl rfl (Nat.le_of_ble_eq_true rfl) ⟨Nat.le_refl _, Nat.le_refl _⟩ (fun M35 J36  hI37 h38 => ?_)
        obtain ⟨hk39, h28, h29, h30, h31, h32, h33, h34⟩ := h38
        have hK40 := hK27.tr hk39
        have hz41 : M24 a 3 = (M10 a 3) - 1 := (zup_s e25)
        have hz42 : M24 a 4 = M a 4 := ((zup_n e25 (by omega)).trans ((h16).trans (zcp_p e6 (by omega) _)))
        exact q_vret C dX4_takeOut_107 ⟨rfl, rfl⟩ (by rw [hPo]; exact ⟨M35, J36, rfl, rfl, hI37, hK40, ⟨(s3.cg (h28) (fun i => (h29 i))), h30⟩, (zTko.mk ⟨(zcp_p e6 (by omega) _), (zcp_p e6 (by omega) _), fun i => (zcp_p e6 (by omega) _)⟩ h15 (by omega) (by omega) e25 (by omega) ⟨(h31), (h28), fun i => (h29 i)⟩), (zTb.mk h15 e6 ⟨by omega, by omega, by omega⟩ h17 (by omega) e25 (by omega) ⟨(h28), fun i => (h32 i), fun i => (h29 i)⟩ (fun j => (zI.at hI (h0.2.2.2.2.2.2.1 j)).1)), h33, (zTc.mk h15 (zcp_p e6 (by omega) _) (fun j => (zcp_p e6 (by omega) _)) (by omega) e25 ⟨(h28), fun i => (h32 i), fun i => (h29 i)⟩), h34⟩)
      · refine q_aload_n C dX4_takeOut_71 (n := 72) rfl rfl ?_
        refine q_getR C dX4_takeOut_72 (n := 75) rfl f_X4_15 h0.1 (hF _ _ _ h0.2.2.2.2.1) ?_
        refine q_iload_n C dX4_takeOut_75 (n := 76) rfl rfl ?_
        refine q_aload_n C dX4_takeOut_76 (n := 77) rfl rfl ?_
        refine q_getR C dX4_takeOut_77 (n := 80) rfl f_X4_15 h0.1 (hF _ _ _ h0.2.2.2.2.1) ?_
        refine q_iload_n C dX4_takeOut_80 (n := 81) rfl rfl ?_
        refine q_iconst C dX4_takeOut_81 (n := 82) rfl ?_
        refine q_iadd C dX4_takeOut_82 (n := 83) rfl (v := u9 + 1) rfl ?_
        have g43 := zI.at hI12 (h0.2.2.2.2.2.2.1 (u9 + 1))
        refine q_iald C dX4_takeOut_83 (n := 84) rfl h0.2.2.2.2.2.1 (by omega) (v := M10 (a + 2) (u9 + 1)) rfl ?_
        refine q_iload_n C dX4_takeOut_84 (n := 85) rfl rfl ?_
        refine q_isub C dX4_takeOut_85 (n := 86) rfl (v := (M10 (a + 2) (u9 + 1)) - ((M (a + 2) (v1 + 1)) - (M (a + 2) v1))) rfl ?_
        have s2 := h15.bound (fun j => zI.at hI7 (h0.2.2.2.2.2.2.1 j)) (by omega)
        refine q_iast C dX4_takeOut_86 (n := 87) rfl h0.2.2.2.2.2.1 (by omega)  (fun M44 e45 => ?_)
        have hI46 : zI G M44 := hI12.put e45 (h0.2.2.2.2.2.2.1 u9) rfl (by omega)
        have hK47 := hK13.put e45 (by omega)
        refine q_iinc C [.ref (w.2.1 + a), .null, zi ((M (a + 2) (v1 + 1)) - (M (a + 2) v1)), zi (u9 + 1)] dX4_takeOut_87 (n := 90) rfl rfl rfl rfl ?_
        refine q_goto C 63 dX4_takeOut_90 rfl ?_
        exact zK.weak (ih20 (u9 + 1) M44 J11 hI46 hK47 (by omega) (h15.step (by omega) e45) (((zup_p e45 (by omega) _)).trans h16) (fun x => ((zup_p e45 (by omega) _)).trans (h17 x)) (by omega)) (zwk_c (zwk_n (zwk_c (zwk_c zwk_e))))
  exact zK.weak (L_18 _ (v1 + 1) M5 J hI7 hK8 (by omega) (zTk.start (p2.1.cg (zcp_p e6 (by omega) _) (fun i => (zcp_p e6 (by omega) _))) (by have h3 : M5 a 3 = M a 3 := (zcp_p e6 (by omega) _); omega) (by have h1 : M5 (a + 2) (v1 + 1) = M (a + 2) (v1 + 1) := (zcp_p e6 (by omega) _); have h2 : M5 (a + 2) v1 = M (a + 2) v1 := (zcp_p e6 (by omega) _); omega) rfl) rfl (fun x => rfl) (Int.self_le_toNat _)) (zwk_c (zwk_n (zwk_c (zwk_c zwk_e))))
theorem c_X11_file_g {w : zWp} {T : zTl} {M : zMm} {J : zJm} {R : zRm'} {G : zGt} {F : zRm'} {a : Nat} (hI : zI G M) (hF : zF F R) (h0 : zHideSets T F G a) (v1 : Int) (hst : R a 8 = none ∨ ∃ sy, R a 8 = some sy ∧ zStudy T F G sy) (hg30 : ∀ (c : Nat) (k : Int), a ≤ c → c < a + 836 → (G c k).1 < 30) (p1 : -2147483648 ≤ v1 ∧ v1 ≤ 2147483647) (p2 : zCI M a) : zCt w 14 0 0 yX11_file cX11_file 4 (some .int) [.ref (w.2.1 + a), zi v1] (T, M, J, R) (zPi T R G (fun x M2 => (zKp G 30 M M2) ∧ (M2 a 1 = 0) ∧ (∀ j : Int, M2 (a + 28) j = M (a + 28) j) ∧ (zFA (M (a + 1)) (M a 1) v1 x) ∧ (zCI M2 a) ∧ (x < 0 ∧ zOu a 0 0 M M2 ∨ 0 ≤ x ∧ (0 ≤ v1 ∧ v1 ≤ 3) ∧ zNf M2 (a + 2 + 9 + 4 * v1.toNat) (M (a + 1)) (M a 1) x ∧ zOu a (a + 2 + 9 + 4 * v1.toNat) 4 M M2) ∧ (x < 0 ∨ zBe M2 (a + 2 + 9 + 4 * v1.toNat) (M (a + 1)) (M a 1) ∧ zWv M2 (a + 2 + 9 + 4 * v1.toNat)) ∧ (x < 0 ∨ zGp M2 (a + 2 + 9 + 4 * v1.toNat)) ∧ (M2 a 6 = M a 6) ∧ (∀ j : Int, M2 (a + 29) j = M (a + 29) j))) := by
  refine zCt.of rfl (Nat.le_of_ble_eq_true rfl) ?_
  intro p e s m args below meth c C
  obtain ⟨Po, hPo⟩ : ∃ Po, Po = zPi T R G (fun x M2 => (zKp G 30 M M2) ∧ (M2 a 1 = 0) ∧ (∀ j : Int, M2 (a + 28) j = M (a + 28) j) ∧ (zFA (M (a + 1)) (M a 1) v1 x) ∧ (zCI M2 a) ∧ (x < 0 ∧ zOu a 0 0 M M2 ∨ 0 ≤ x ∧ (0 ≤ v1 ∧ v1 ≤ 3) ∧ zNf M2 (a + 2 + 9 + 4 * v1.toNat) (M (a + 1)) (M a 1) x ∧ zOu a (a + 2 + 9 + 4 * v1.toNat) 4 M M2) ∧ (x < 0 ∨ zBe M2 (a + 2 + 9 + 4 * v1.toNat) (M (a + 1)) (M a 1) ∧ zWv M2 (a + 2 + 9 + 4 * v1.toNat)) ∧ (x < 0 ∨ zGp M2 (a + 2 + 9 + 4 * v1.toNat)) ∧ (M2 a 6 = M a 6) ∧ (∀ j : Int, M2 (a + 29) j = M (a + 29) j)) := ⟨_, rfl⟩
  rw [← hPo]
  have hK0 : zKp G 30 M M := zKp.rf
  show zK w p e 14 0 0 s m args below meth c 4 T Po 0 [.ref (w.2.1 + a), zi v1, .null, .null] [] (T, M, J, R)
  refine q_aload_n C dX11_file_0 (n := 1) rfl rfl ?_
  refine q_callVi C dX11_file_1 (n := 4) rfl m_X11_54 v_yX11_takeTape h0.1 ⟨by decide, rfl⟩ (c_X11_takeTape (w := w) (J := J) hI hF h0) (Nat.le_of_ble_eq_true rfl) rfl rfl (Nat.le_of_ble_eq_true rfl) ⟨Nat.le_refl _, Nat.le_refl _⟩ (fun x9 M5 J6  hI7 h8 => ?_)
  obtain ⟨hk10, h1, h2, h3, h4⟩ := h8
  have hK11 := hK0.tr hk10 (by decide)
  refine q_istore_n C [.ref (w.2.1 + a), zi v1, zi x9, .null] dX11_file_4 (n := 5) rfl rfl rfl ?_
  refine q_iload_n C dX11_file_5 (n := 6) rfl rfl ?_
  refine q_if_lt C 14 dX11_file_6 (n := 9) rfl rfl (by omega) (fun h12 => ?_) (fun h12 => ?_)
  · refine q_bipush C dX11_file_14 (n := 16) rfl (x := (-2)) (by decide) ?_
    have hci13 : zCI M5 a := (zCI.kp p2 h0 hk10 (by decide))
    exact q_iret C dX11_file_16 ⟨rfl, rfl⟩ (by rw [hPo]; exact ⟨(-2), M5, J6, rfl, rfl, hI7, hK11, (by have hz : M5 a 1 = M5 a 1 := rfl; omega), (fun j => (hk10 _ _ (zle_t (h0.2.2.2.2.2.2.2.2.2.2.2.2.1 j) (by decide)))), (Or.inl ⟨by omega, rfl⟩), hci13, (Or.inl ⟨by omega, (zOu.kp (zOu.rf (r := 0) (n := 0)) h0 hk10 (by decide))⟩), (Or.inl (by omega)), (Or.inl (by omega)), (hk10 _ _ (zle_t h0.2.2.2.2.2.2.2.2.2.2.2.2.2.2.2.2.1 (by decide))), (fun j => (hk10 _ _ (zle_t (h0.2.2.2.2.2.2.2.2.2.2.2.2.2.2.2.1 j) (by decide))))⟩)
  · refine q_iload_n C dX11_file_9 (n := 10) rfl rfl ?_
    refine q_iconst C dX11_file_10 (n := 11) rfl ?_
    refine q_icmp_lt C 17 dX11_file_11 (n := 14) rfl rfl (by omega) (fun h14 => ?_) (fun h14 => ?_)
    · refine q_iload_n C dX11_file_17 (n := 18) rfl rfl ?_
      refine q_sipush C dX11_file_18 (n := 21) rfl (x := 400) (by decide) ?_
      refine q_icmp_le C 27 dX11_file_21 (n := 24) rfl rfl (by omega) (fun h15 => ?_) (fun h15 => ?_)
      · refine q_aload_n C dX11_file_27 (n := 28) rfl rfl ?_
        refine q_iload_n C dX11_file_28 (n := 29) rfl rfl ?_
        refine q_bipush C dX11_file_29 (n := 31) rfl (x := 10) (by decide) ?_
        refine q_callVp C dX11_file_31 (n := 34) rfl m_X11_58 v_yX11_wrongByte h0.1 ⟨by decide, rfl⟩ (c_X11_wrongByte (w := w) (J := J6) hI7 hF h0 x9 10 (by omega) (by omega)) (Nat.le_of_ble_eq_true rfl) rfl rfl (Nat.le_of_ble_eq_true rfl) ⟨Nat.le_refl _, Nat.le_refl _⟩ (fun x18 h19 => ?_)
        obtain ⟨h16, h17⟩ := h19
        refine q_istore_n C [.ref (w.2.1 + a), zi v1, zi x9, zi x18] dX11_file_34 (n := 35) rfl rfl rfl ?_
        refine q_iload_n C dX11_file_35 (n := 36) rfl rfl ?_
        refine q_iconst C dX11_file_36 (n := 37) rfl ?_
        refine q_icmp_eq C 46 dX11_file_37 (n := 40) rfl rfl (by omega) (fun h20 => ?_) (fun h20 => ?_)
        · refine q_aload_n C dX11_file_46 (n := 47) rfl rfl ?_
          refine q_iload_n C dX11_file_47 (n := 48) rfl rfl ?_
          refine q_callVp C dX11_file_48 (n := 51) rfl m_X11_62 v_yX11_linesOnTape h0.1 ⟨by decide, rfl⟩ (c_X11_linesOnTape (w := w) (J := J6) hI7 hF h0 x9 (by omega)) (Nat.le_of_ble_eq_true rfl) rfl rfl (Nat.le_of_ble_eq_true rfl) ⟨Nat.le_refl _, Nat.le_refl _⟩ (fun x23 h24 => ?_)
          obtain ⟨h21, h22⟩ := h24
          refine q_bipush C dX11_file_51 (n := 53) rfl (x := 40) (by decide) ?_
          refine q_icmp_le C 59 dX11_file_53 (n := 56) rfl rfl (by omega) (fun h25 => ?_) (fun h25 => ?_)
          · refine q_aload_n C dX11_file_59 (n := 60) rfl rfl ?_
            refine q_getR C dX11_file_60 (n := 63) rfl f_X11_20 h0.1 (hF _ _ _ h0.2.2.2.2.2.1) ?_
            refine q_getR C dX11_file_63 (n := 66) rfl f_X11_66 h0.2.2.2.2.2.2.1.1 (hF _ _ _ h0.2.2.2.2.2.2.1.2.1) ?_
            refine q_iload_n C dX11_file_66 (n := 67) rfl rfl ?_
            refine q_aald C dX11_file_67 (n := 68) rfl ⟨by decide, by decide⟩ h0.2.2.2.2.2.2.1.2.2.1 (by omega) (hF _ _ _ (h0.2.2.2.2.2.2.1.2.2.2.1 v1 (by omega) (by omega)).1) ?_
            refine q_aload_n C dX11_file_68 (n := 69) rfl rfl ?_
            refine q_getR C dX11_file_69 (n := 72) rfl f_X11_9 h0.1 (hF _ _ _ h0.2.1) ?_
            refine q_iload_n C dX11_file_72 (n := 73) rfl rfl ?_
            have hci26 : zCI M5 a := (zCI.kp p2 h0 hk10 (by decide))
            refine q_callVv C dX11_file_73 (n := 76) rfl m_X11_70 v_yX4_read (h0.2.2.2.2.2.2.1.2.2.2.1 v1 (by omega) (by omega)).2.1 ⟨by decide, rfl⟩ (c_X4_read_g (w := w) (J := J6) hI7 hF (h0.2.2.2.2.2.2.1.2.2.2.1 v1 (by omega) (by omega)).2 h0.2.2.1 h0.2.2.2.1 x9 (by omega) (by omega) ((hci26).1 v1 (by omega) (by omega)).1 (by omega)) (Nat.le_of_ble_eq_true rfl) rfl rfl (Nat.le_of_ble_eq_true rfl) ⟨Nat.le_refl _, Nat.le_refl _⟩ (fun M34 J35  hI36 h37 => ?_)
            obtain ⟨hk38, h27, h28, h29, h30, h31, h32, h33⟩ := h37
            have hK39 := hK11.tr (zKp.ofr hk38 (fun c k h1 h2 => hg30 c k (by omega) (by omega))) (by decide)
            refine q_aload_n C dX11_file_76 (n := 77) rfl rfl ?_
            refine q_callVv C dX11_file_77 (n := 80) rfl m_X11_76 v_yX11_forgetStudy h0.1 ⟨by decide, rfl⟩ (c_X11_forgetStudy (w := w) (J := J35) hI36 hF h0 (by assumption)) (Nat.le_of_ble_eq_true rfl) rfl rfl (Nat.le_of_ble_eq_true rfl) ⟨Nat.le_refl _, Nat.le_refl _⟩ (fun M40 J41  hI42 h43 => ?_)
            have hK45 := hK39.tr h43 (by decide)
            refine q_aload_n C dX11_file_80 (n := 81) rfl rfl ?_
            refine q_getR C dX11_file_81 (n := 84) rfl f_X11_20 h0.1 (hF _ _ _ h0.2.2.2.2.2.1) ?_
            refine q_getR C dX11_file_84 (n := 87) rfl f_X11_66 h0.2.2.2.2.2.2.1.1 (hF _ _ _ h0.2.2.2.2.2.2.1.2.1) ?_
            refine q_iload_n C dX11_file_87 (n := 88) rfl rfl ?_
            refine q_aald C dX11_file_88 (n := 89) rfl ⟨by decide, by decide⟩ h0.2.2.2.2.2.2.1.2.2.1 (by omega) (hF _ _ _ (h0.2.2.2.2.2.2.1.2.2.2.1 v1 (by omega) (by omega)).1) ?_
            have g46 := zI.at hI36 (h0.2.2.2.2.2.2.1.2.2.2.1 v1 (by omega) (by omega)).2.2.2.2.2.2.2.2.2.2.2.1
            refine q_getI C dX11_file_89 (n := 92) rfl f_X11_79 (h0.2.2.2.2.2.2.1.2.2.2.1 v1 (by omega) (by omega)).2.1 (v := M34 (a + 2 + 9 + 4 * (v1 : Int).toNat) 3) (h43 _ _ (zle_t (h0.2.2.2.2.2.2.1.2.2.2.1 v1 (by omega) (by omega)).2.2.2.2.2.2.2.2.2.2.2.1 (by decide))) ?_
            have hci47 : zCI M40 a := (zCI.kp (zCI.pg (k := v1) hci26 hk38 (by omega) h27) h0 h43 (by decide))
            exact q_iret C dX11_file_92 ⟨rfl, rfl⟩ (by rw [hPo]; exact ⟨M34 (a + 2 + 9 + 4 * (v1 : Int).toNat) 3, M40, J41, rfl, rfl, hI42, hK45, (by have hz : M40 a 1 = M5 a 1 := ((h43 _ _ (zle_t h0.2.2.2.2.1 (by decide))).trans (hk38 _ _ (by omega))); omega), (fun j => ((h43 _ _ (zle_t (h0.2.2.2.2.2.2.2.2.2.2.2.2.1 j) (by decide))).trans ((hk38 _ _ (by omega)).trans (hk10 _ _ (zle_t (h0.2.2.2.2.2.2.2.2.2.2.2.2.1 j) (by decide)))))), (zFA.d (by omega) (by omega) (zWb.cg h17 (fun j => (h4 j)) (by omega) rfl) (by omega) (zLi.cg (g := M5 (a + 1)) (l := M34 (a + 2 + 9 + 4 * (v1 : Int).toNat) 3) h28 (fun j => (h4 j)) (by omega)) (Or.inr ⟨by omega, rfl⟩)), hci47, (Or.inr ⟨by omega, by omega, zNf.mk h29 rfl h30 (zSmw.ofo (q := v1) (zOu.kp (zOu.rf (r := 0) (n := 0)) h0 h43 (by decide)) (by omega) (by omega) (Or.inr (by omega))) (fun j => (h4 j)) (by omega), (zOu.kp (zOu.rg (zOu.kp (zOu.rf (r := a + 2 + 9 + 4 * v1.toNat) (n := 4)) h0 hk10 (by decide)) hk38 (by omega)) h0 h43 (by decide))⟩), (Or.inr ⟨zBe.cg h31 (zSw.ofo (q := v1) (zOu.kp (zOu.rf (r := 0) (n := 0)) h0 h43 (by decide)) (Or.inl rfl) (by omega) (Or.inr (by omega))).1 (fun j => (h4 j)) (by omega), zWv.cg h32 (zSw.ofo (q := v1) (zOu.kp (zOu.rf (r := 0) (n := 0)) h0 h43 (by decide)) (Or.inl rfl) (by omega) (Or.inr (by omega))).1 (zSw.ofo (q := v1) (zOu.kp (zOu.rf (r := 0) (n := 0)) h0 h43 (by decide)) (Or.inl rfl) (by omega) (Or.inr (by omega))).2.2⟩), (Or.inr (zGp.cg h33 (zSw.ofo (q := v1) (zOu.kp (zOu.rf (r := 0) (n := 0)) h0 h43 (by decide)) (Or.inl rfl) (by omega) (Or.inr (by omega))))), ((h43 _ _ (zle_t h0.2.2.2.2.2.2.2.2.2.2.2.2.2.2.2.2.1 (by decide))).trans ((hk38 _ _ (by omega)).trans (hk10 _ _ (zle_t h0.2.2.2.2.2.2.2.2.2.2.2.2.2.2.2.2.1 (by decide))))), (fun j => ((h43 _ _ (zle_t (h0.2.2.2.2.2.2.2.2.2.2.2.2.2.2.2.1 j) (by decide))).trans ((hk38 _ _ (by omega)).trans (hk10 _ _ (zle_t (h0.2.2.2.2.2.2.2.2.2.2.2.2.2.2.2.1 j) (by decide))))))⟩)
          · refine q_bipush C dX11_file_56 (n := 58) rfl (x := (-3)) (by decide) ?_
            have hci48 : zCI M5 a := (zCI.kp p2 h0 hk10 (by decide))
            exact q_iret C dX11_file_58 ⟨rfl, rfl⟩ (by rw [hPo]; exact ⟨(-3), M5, J6, rfl, rfl, hI7, hK11, (by have hz : M5 a 1 = M5 a 1 := rfl; omega), (fun j => (hk10 _ _ (zle_t (h0.2.2.2.2.2.2.2.2.2.2.2.2.1 j) (by decide)))), (zFA.d (by omega) (by omega) (zWb.cg h17 (fun j => (h4 j)) (by omega) rfl) (by omega) (zLi.cg (g := M5 (a + 1)) (l := x23) h22 (fun j => (h4 j)) (by omega)) (Or.inl ⟨by omega, rfl⟩)), hci48, (Or.inl ⟨by omega, (zOu.kp (zOu.rf (r := 0) (n := 0)) h0 hk10 (by decide))⟩), (Or.inl (by omega)), (Or.inl (by omega)), (hk10 _ _ (zle_t h0.2.2.2.2.2.2.2.2.2.2.2.2.2.2.2.2.1 (by decide))), (fun j => (hk10 _ _ (zle_t (h0.2.2.2.2.2.2.2.2.2.2.2.2.2.2.2.1 j) (by decide))))⟩)
        · refine q_sipush C dX11_file_40 (n := 43) rfl (x := (-1000)) (by decide) ?_
          refine q_iload_n C dX11_file_43 (n := 44) rfl rfl ?_
          refine q_isub C dX11_file_44 (n := 45) rfl (v := (-1000) - x18) rfl ?_
          have hci49 : zCI M5 a := (zCI.kp p2 h0 hk10 (by decide))
          exact q_iret C dX11_file_45 ⟨rfl, rfl⟩ (by rw [hPo]; exact ⟨(-1000) - x18, M5, J6, rfl, rfl, hI7, hK11, (by have hz : M5 a 1 = M5 a 1 := rfl; omega), (fun j => (hk10 _ _ (zle_t (h0.2.2.2.2.2.2.2.2.2.2.2.2.1 j) (by decide)))), (zFA.c (by omega) (by omega) (zWb.cg h17 (fun j => (h4 j)) (by omega) rfl) ⟨by omega, by omega⟩), hci49, (Or.inl ⟨by omega, (zOu.kp (zOu.rf (r := 0) (n := 0)) h0 hk10 (by decide))⟩), (Or.inl (by omega)), (Or.inl (by omega)), (hk10 _ _ (zle_t h0.2.2.2.2.2.2.2.2.2.2.2.2.2.2.2.2.1 (by decide))), (fun j => (hk10 _ _ (zle_t (h0.2.2.2.2.2.2.2.2.2.2.2.2.2.2.2.1 j) (by decide))))⟩)
      · refine q_bipush C dX11_file_24 (n := 26) rfl (x := (-3)) (by decide) ?_
        have hci50 : zCI M5 a := (zCI.kp p2 h0 hk10 (by decide))
        exact q_iret C dX11_file_26 ⟨rfl, rfl⟩ (by rw [hPo]; exact ⟨(-3), M5, J6, rfl, rfl, hI7, hK11, (by have hz : M5 a 1 = M5 a 1 := rfl; omega), (fun j => (hk10 _ _ (zle_t (h0.2.2.2.2.2.2.2.2.2.2.2.2.1 j) (by decide)))), (Or.inr ⟨by omega, Or.inl ⟨by omega, rfl⟩⟩), hci50, (Or.inl ⟨by omega, (zOu.kp (zOu.rf (r := 0) (n := 0)) h0 hk10 (by decide))⟩), (Or.inl (by omega)), (Or.inl (by omega)), (hk10 _ _ (zle_t h0.2.2.2.2.2.2.2.2.2.2.2.2.2.2.2.2.1 (by decide))), (fun j => (hk10 _ _ (zle_t (h0.2.2.2.2.2.2.2.2.2.2.2.2.2.2.2.1 j) (by decide))))⟩)
    · refine q_bipush C dX11_file_14 (n := 16) rfl (x := (-2)) (by decide) ?_
      have hci51 : zCI M5 a := (zCI.kp p2 h0 hk10 (by decide))
      exact q_iret C dX11_file_16 ⟨rfl, rfl⟩ (by rw [hPo]; exact ⟨(-2), M5, J6, rfl, rfl, hI7, hK11, (by have hz : M5 a 1 = M5 a 1 := rfl; omega), (fun j => (hk10 _ _ (zle_t (h0.2.2.2.2.2.2.2.2.2.2.2.2.1 j) (by decide)))), (Or.inl ⟨by omega, rfl⟩), hci51, (Or.inl ⟨by omega, (zOu.kp (zOu.rf (r := 0) (n := 0)) h0 hk10 (by decide))⟩), (Or.inl (by omega)), (Or.inl (by omega)), (hk10 _ _ (zle_t h0.2.2.2.2.2.2.2.2.2.2.2.2.2.2.2.2.1 (by decide))), (fun j => (hk10 _ _ (zle_t (h0.2.2.2.2.2.2.2.2.2.2.2.2.2.2.2.1 j) (by decide))))⟩)
set_option maxHeartbeats 6000000 in
theorem c_X11_edit_g {w : zWp} {T : zTl} {M : zMm} {J : zJm} {R : zRm'} {G : zGt} {F : zRm'} {a : Nat} (hI : zI G M) (hF : zF F R) (h0 : zHideSets T F G a) (v1 : Int) (v2 : Int) (hst : R a 8 = none ∨ ∃ sy, R a 8 = some sy ∧ zStudy T F G sy) (hg30 : ∀ (c : Nat) (k : Int), a ≤ c → c < a + 836 → (G c k).1 < 30) (p1 : -2147483648 ≤ v1 ∧ v1 ≤ 2147483647) (p2 : -2147483648 ≤ v2 ∧ v2 ≤ 2147483647) (p3 : zCI M a) : zCt w 14 0 0 yX11_edit cX11_edit 5 (some .int) [.ref (w.2.1 + a), zi v1, zi v2] (T, M, J, R) (zPi T R G (fun x M2 => (zKp G 30 M M2) ∧ (M2 a 1 = 0) ∧ (∀ j : Int, M2 (a + 28) j = M (a + 28) j) ∧ (zCI M2 a) ∧ (zEA (M (a + 1)) (M a 1) (0 ≤ v1 ∧ v1 ≤ 3 ∧ M (a + 2 + 9 + 4 * v1.toNat) 4 = 1) v2 (M (a + 2 + 9 + 4 * v1.toNat) 3) (M (a + 2 + 9 + 4 * v1.toNat + 2) (M (a + 2 + 9 + 4 * v1.toNat) 3)) (M (a + 2 + 9 + 4 * v1.toNat + 2) (v2 + 1) - M (a + 2 + 9 + 4 * v1.toNat + 2) v2) x) ∧ (x < 0 ∧ zOu a 0 0 M M2 ∨ 0 ≤ x ∧ (0 ≤ v1 ∧ v1 ≤ 3 ∧ M (a + 2 + 9 + 4 * v1.toNat) 4 = 1) ∧ zChg M M2 (a + 2 + 9 + 4 * v1.toNat) v2 (M a 1) ∧ zOu a (a + 2 + 9 + 4 * v1.toNat) 4 M M2) ∧ (x < 0 ∨ zEb M M2 (a + 2 + 9 + 4 * v1.toNat) v2 (M a 1) (M (a + 1)) ∧ zWv M2 (a + 2 + 9 + 4 * v1.toNat) ∧ zEc M M2 (a + 2 + 9 + 4 * v1.toNat) v2 (M a 1)) ∧ (x < 0 ∨ zGp M2 (a + 2 + 9 + 4 * v1.toNat)) ∧ (M2 a 6 = M a 6) ∧ (∀ j : Int, M2 (a + 29) j = M (a + 29) j))) := by
  refine zCt.of rfl (Nat.le_of_ble_eq_true rfl) ?_
  intro p e s m args below meth c C
  obtain ⟨Po, hPo⟩ : ∃ Po, Po = zPi T R G (fun x M2 => (zKp G 30 M M2) ∧ (M2 a 1 = 0) ∧ (∀ j : Int, M2 (a + 28) j = M (a + 28) j) ∧ (zCI M2 a) ∧ (zEA (M (a + 1)) (M a 1) (0 ≤ v1 ∧ v1 ≤ 3 ∧ M (a + 2 + 9 + 4 * v1.toNat) 4 = 1) v2 (M (a + 2 + 9 + 4 * v1.toNat) 3) (M (a + 2 + 9 + 4 * v1.toNat + 2) (M (a + 2 + 9 + 4 * v1.toNat) 3)) (M (a + 2 + 9 + 4 * v1.toNat + 2) (v2 + 1) - M (a + 2 + 9 + 4 * v1.toNat + 2) v2) x) ∧ (x < 0 ∧ zOu a 0 0 M M2 ∨ 0 ≤ x ∧ (0 ≤ v1 ∧ v1 ≤ 3 ∧ M (a + 2 + 9 + 4 * v1.toNat) 4 = 1) ∧ zChg M M2 (a + 2 + 9 + 4 * v1.toNat) v2 (M a 1) ∧ zOu a (a + 2 + 9 + 4 * v1.toNat) 4 M M2) ∧ (x < 0 ∨ zEb M M2 (a + 2 + 9 + 4 * v1.toNat) v2 (M a 1) (M (a + 1)) ∧ zWv M2 (a + 2 + 9 + 4 * v1.toNat) ∧ zEc M M2 (a + 2 + 9 + 4 * v1.toNat) v2 (M a 1)) ∧ (x < 0 ∨ zGp M2 (a + 2 + 9 + 4 * v1.toNat)) ∧ (M2 a 6 = M a 6) ∧ (∀ j : Int, M2 (a + 29) j = M (a + 29) j)) := ⟨_, rfl⟩
  rw [← hPo]
  have hK0 : zKp G 30 M M := zKp.rf
  show zK w p e 14 0 0 s m args below meth c 5 T Po 0 [.ref (w.2.1 + a), zi v1, zi v2, .null, .null] [] (T, M, J, R)
  refine q_aload_n C dX11_edit_0 (n := 1) rfl rfl ?_
  refine q_callVi C dX11_edit_1 (n := 4) rfl m_X11_54 v_yX11_takeTape h0.1 ⟨by decide, rfl⟩ (c_X11_takeTape (w := w) (J := J) hI hF h0) (Nat.le_of_ble_eq_true rfl) rfl rfl (Nat.le_of_ble_eq_true rfl) ⟨Nat.le_refl _, Nat.le_refl _⟩ (fun x9 M5 J6  hI7 h8 => ?_)
  obtain ⟨hk10, h1, h2, h3, h4⟩ := h8
  have hK11 := hK0.tr hk10 (by decide)
  refine q_istore_n C [.ref (w.2.1 + a), zi v1, zi v2, zi x9, .null] dX11_edit_4 (n := 5) rfl rfl rfl ?_
  refine q_aload_n C dX11_edit_5 (n := 6) rfl rfl ?_
  refine q_getR C dX11_edit_6 (n := 9) rfl f_X11_20 h0.1 (hF _ _ _ h0.2.2.2.2.2.1) ?_
  refine q_iload_n C dX11_edit_9 (n := 10) rfl rfl ?_
  refine q_callVp C dX11_edit_10 (n := 13) rfl m_X11_99 v_yX7_hasFile h0.2.2.2.2.2.2.1.1 ⟨by decide, rfl⟩ (c_X7_hasFile_e (w := w) (J := J6) hI7 hF h0.2.2.2.2.2.2.1 v1 (by omega)) (Nat.le_of_ble_eq_true rfl) rfl rfl (Nat.le_of_ble_eq_true rfl) ⟨Nat.le_refl _, Nat.le_refl _⟩ (fun x14 h15 => ?_)
  obtain ⟨h12, h13⟩ := h15
  have hsf16 : 0 ≤ v1 ∧ v1 ≤ 3 → zSmw M M5 (a + 2 + 9 + 4 * v1.toNat) := fun h => (zSmw.ofo (q := v1) (zOu.kp (zOu.rf (r := 0) (n := 0)) h0 hk10 (by decide)) (by omega) (by omega) (Or.inr (by omega)))
  have hsf17 : 0 ≤ v1 ∧ v1 ≤ 3 → M5 (a + 2 + 9 + 4 * v1.toNat) 4 = M (a + 2 + 9 + 4 * v1.toNat) 4 ∧ M5 (a + 2 + 9 + 4 * v1.toNat) 3 = M (a + 2 + 9 + 4 * v1.toNat) 3 := fun h => ⟨(hsf16 h).1, (hsf16 h).2.1⟩
  refine q_if_eq C 36 dX11_edit_13 (n := 16) rfl rfl (by omega) (fun h18 => ?_) (fun h18 => ?_)
  · refine q_bipush C dX11_edit_36 (n := 38) rfl (x := (-2)) (by decide) ?_
    have hci19 : zCI M5 a := (zCI.kp p3 h0 hk10 (by decide))
    exact q_iret C dX11_edit_38 ⟨rfl, rfl⟩ (by rw [hPo]; exact ⟨(-2), M5, J6, rfl, rfl, hI7, hK11, (by have hz : M5 a 1 = M5 a 1 := rfl; omega), (fun j => (hk10 _ _ (zle_t (h0.2.2.2.2.2.2.2.2.2.2.2.2.1 j) (by decide)))), hci19, (Or.inl ⟨by omega, rfl⟩), (Or.inl ⟨by omega, (zOu.kp (zOu.rf (r := 0) (n := 0)) h0 hk10 (by decide))⟩), (Or.inl (by omega)), (Or.inl (by omega)), (hk10 _ _ (zle_t h0.2.2.2.2.2.2.2.2.2.2.2.2.2.2.2.2.1 (by decide))), (fun j => (hk10 _ _ (zle_t (h0.2.2.2.2.2.2.2.2.2.2.2.2.2.2.2.1 j) (by decide))))⟩)
  · refine q_iload_n C dX11_edit_16 (n := 17) rfl rfl ?_
    refine q_if_lt C 36 dX11_edit_17 (n := 20) rfl rfl (by omega) (fun h20 => ?_) (fun h20 => ?_)
    · refine q_bipush C dX11_edit_36 (n := 38) rfl (x := (-2)) (by decide) ?_
      have hci21 : zCI M5 a := (zCI.kp p3 h0 hk10 (by decide))
      exact q_iret C dX11_edit_38 ⟨rfl, rfl⟩ (by rw [hPo]; exact ⟨(-2), M5, J6, rfl, rfl, hI7, hK11, (by have hz : M5 a 1 = M5 a 1 := rfl; omega), (fun j => (hk10 _ _ (zle_t (h0.2.2.2.2.2.2.2.2.2.2.2.2.1 j) (by decide)))), hci21, (Or.inl ⟨by omega, rfl⟩), (Or.inl ⟨by omega, (zOu.kp (zOu.rf (r := 0) (n := 0)) h0 hk10 (by decide))⟩), (Or.inl (by omega)), (Or.inl (by omega)), (hk10 _ _ (zle_t h0.2.2.2.2.2.2.2.2.2.2.2.2.2.2.2.2.1 (by decide))), (fun j => (hk10 _ _ (zle_t (h0.2.2.2.2.2.2.2.2.2.2.2.2.2.2.2.1 j) (by decide))))⟩)
    · refine q_iload_n C dX11_edit_20 (n := 21) rfl rfl ?_
      refine q_aload_n C dX11_edit_21 (n := 22) rfl rfl ?_
      refine q_getR C dX11_edit_22 (n := 25) rfl f_X11_20 h0.1 (hF _ _ _ h0.2.2.2.2.2.1) ?_
      refine q_getR C dX11_edit_25 (n := 28) rfl f_X11_66 h0.2.2.2.2.2.2.1.1 (hF _ _ _ h0.2.2.2.2.2.2.1.2.1) ?_
      refine q_iload_n C dX11_edit_28 (n := 29) rfl rfl ?_
      refine q_aald C dX11_edit_29 (n := 30) rfl ⟨by decide, by decide⟩ h0.2.2.2.2.2.2.1.2.2.1 (by omega) (hF _ _ _ (h0.2.2.2.2.2.2.1.2.2.2.1 v1 (by omega) (by omega)).1) ?_
      have g22 := zI.at hI (h0.2.2.2.2.2.2.1.2.2.2.1 v1 (by omega) (by omega)).2.2.2.2.2.2.2.2.2.2.2.1
      refine q_getI C dX11_edit_30 (n := 33) rfl f_X11_79 (h0.2.2.2.2.2.2.1.2.2.2.1 v1 (by omega) (by omega)).2.1 (v := M (a + 2 + 9 + 4 * (v1 : Int).toNat) 3) (hk10 _ _ (zle_t (h0.2.2.2.2.2.2.1.2.2.2.1 v1 (by omega) (by omega)).2.2.2.2.2.2.2.2.2.2.2.1 (by decide))) ?_
      refine q_icmp_le C 39 dX11_edit_33 (n := 36) rfl rfl (by omega) (fun h23 => ?_) (fun h23 => ?_)
      · refine q_aload_n C dX11_edit_39 (n := 40) rfl rfl ?_
        refine q_iload_n C dX11_edit_40 (n := 41) rfl rfl ?_
        refine q_bipush C dX11_edit_41 (n := 43) rfl (x := 32) (by decide) ?_
        refine q_callVp C dX11_edit_43 (n := 46) rfl m_X11_58 v_yX11_wrongByte h0.1 ⟨by decide, rfl⟩ (c_X11_wrongByte (w := w) (J := J6) hI7 hF h0 x9 32 (by omega) (by omega)) (Nat.le_of_ble_eq_true rfl) rfl rfl (Nat.le_of_ble_eq_true rfl) ⟨Nat.le_refl _, Nat.le_refl _⟩ (fun x26 h27 => ?_)
        obtain ⟨h24, h25⟩ := h27
        refine q_istore C [.ref (w.2.1 + a), zi v1, zi v2, zi x9, zi x26] dX11_edit_46 (n := 48) rfl rfl rfl ?_
        refine q_iload C dX11_edit_48 (n := 50) rfl rfl ?_
        refine q_iconst C dX11_edit_50 (n := 51) rfl ?_
        refine q_icmp_eq C 61 dX11_edit_51 (n := 54) rfl rfl (by omega) (fun h28 => ?_) (fun h28 => ?_)
        · refine q_aload_n C dX11_edit_61 (n := 62) rfl rfl ?_
          refine q_getR C dX11_edit_62 (n := 65) rfl f_X11_20 h0.1 (hF _ _ _ h0.2.2.2.2.2.1) ?_
          refine q_getR C dX11_edit_65 (n := 68) rfl f_X11_66 h0.2.2.2.2.2.2.1.1 (hF _ _ _ h0.2.2.2.2.2.2.1.2.1) ?_
          refine q_iload_n C dX11_edit_68 (n := 69) rfl rfl ?_
          refine q_aald C dX11_edit_69 (n := 70) rfl ⟨by decide, by decide⟩ h0.2.2.2.2.2.2.1.2.2.1 (by omega) (hF _ _ _ (h0.2.2.2.2.2.2.1.2.2.2.1 v1 (by omega) (by omega)).1) ?_
          refine q_iload_n C dX11_edit_70 (n := 71) rfl rfl ?_
          refine q_aload_n C dX11_edit_71 (n := 72) rfl rfl ?_
          refine q_getR C dX11_edit_72 (n := 75) rfl f_X11_9 h0.1 (hF _ _ _ h0.2.1) ?_
          refine q_iload_n C dX11_edit_75 (n := 76) rfl rfl ?_
          have hci29 : zCI M5 a := (zCI.kp p3 h0 hk10 (by decide))
          refine q_callVi C dX11_edit_76 (n := 79) rfl m_X11_255 v_yX4_change (h0.2.2.2.2.2.2.1.2.2.2.1 v1 (by omega) (by omega)).2.1 ⟨by decide, rfl⟩ (c_X4_change_g (w := w) (J := J6) hI7 hF (h0.2.2.2.2.2.2.1.2.2.2.1 v1 (by omega) (by omega)).2 v2 h0.2.2.1 h0.2.2.2.1 x9 (by have hz : M5 (a + 2 + 9 + 4 * v1.toNat) 3 = M (a + 2 + 9 + 4 * v1.toNat) 3 := (hk10 _ _ (zle_t (h0.2.2.2.2.2.2.1.2.2.2.1 v1 (by omega) (by omega)).2.2.2.2.2.2.2.2.2.2.2.1 (by decide))); omega) (by omega) (by omega) ((hci29).1 v1 (by omega) (by omega))) (Nat.le_of_ble_eq_true rfl) rfl rfl (Nat.le_of_ble_eq_true rfl) ⟨Nat.le_refl _, Nat.le_refl _⟩ (fun x43 M39 J40  hI41 h42 => ?_)
          obtain ⟨hk44, h30, h31, h32, h33, h34, h35, h36, h37, h38⟩ := h42
          have hK45 := hK11.tr (zKp.ofr hk44 (fun c k h1 h2 => hg30 c k (by omega) (by omega))) (by decide)
          replace h32 := zHide h32
          replace h34 := zHide h34
          replace h35 := zHide h35
          replace h36 := zHide h36
          replace h37 := zHide h37
          replace h38 := zHide h38
          refine q_if_ne C 85 dX11_edit_79 (n := 82) rfl rfl (by omega) (fun h46 => ?_) (fun h46 => ?_)
          · refine q_aload_n C dX11_edit_85 (n := 86) rfl rfl ?_
            refine q_callVv C dX11_edit_86 (n := 89) rfl m_X11_76 v_yX11_forgetStudy h0.1 ⟨by decide, rfl⟩ (c_X11_forgetStudy (w := w) (J := J40) hI41 hF h0 (by assumption)) (Nat.le_of_ble_eq_true rfl) rfl rfl (Nat.le_of_ble_eq_true rfl) ⟨Nat.le_refl _, Nat.le_refl _⟩ (fun M47 J48  hI49 h50 => ?_)
            have hK52 := hK45.tr h50 (by decide)
            refine q_aload_n C dX11_edit_89 (n := 90) rfl rfl ?_
            refine q_getR C dX11_edit_90 (n := 93) rfl f_X11_20 h0.1 (hF _ _ _ h0.2.2.2.2.2.1) ?_
            refine q_getR C dX11_edit_93 (n := 96) rfl f_X11_66 h0.2.2.2.2.2.2.1.1 (hF _ _ _ h0.2.2.2.2.2.2.1.2.1) ?_
            refine q_iload_n C dX11_edit_96 (n := 97) rfl rfl ?_
            refine q_aald C dX11_edit_97 (n := 98) rfl ⟨by decide, by decide⟩ h0.2.2.2.2.2.2.1.2.2.1 (by omega) (hF _ _ _ (h0.2.2.2.2.2.2.1.2.2.2.1 v1 (by omega) (by omega)).1) ?_
            have g53 := zI.at hI41 (h0.2.2.2.2.2.2.1.2.2.2.1 v1 (by omega) (by omega)).2.2.2.2.2.2.2.2.2.2.2.1
            refine q_getI C dX11_edit_98 (n := 101) rfl f_X11_79 (h0.2.2.2.2.2.2.1.2.2.2.1 v1 (by omega) (by omega)).2.1 (v := M39 (a + 2 + 9 + 4 * (v1 : Int).toNat) 3) (h50 _ _ (zle_t (h0.2.2.2.2.2.2.1.2.2.2.1 v1 (by omega) (by omega)).2.2.2.2.2.2.2.2.2.2.2.1 (by decide))) ?_
            have hci54 : zCI M47 a := (zCI.kp (zCI.pg (k := v1) hci29 hk44 (by omega) h31) h0 h50 (by decide))
            have hx55 := zChx.cg (n2 := M a 1) h33 (zSmw.ofo (q := v1) (zOu.kp (zOu.rf (r := 0) (n := 0)) h0 hk10 (by decide)) (by omega) (by omega) (Or.inr (by omega))) (by omega)
            unfold zChx at hx55
            have hx56 : ¬ v2 = M (a + 2 + 9 + 4 * v1.toNat) 3 ∨ M (a + 2 + 9 + 4 * v1.toNat + 2) v2 = M (a + 2 + 9 + 4 * v1.toNat + 2) (M (a + 2 + 9 + 4 * v1.toNat) 3) := (Decidable.em (v2 = M (a + 2 + 9 + 4 * v1.toNat) 3)).symm.imp id (fun h => by rw [h])
            have hx57 := (h34 (by omega)).2.1
            have hx58 : zSmw M M5 (a + 2 + 9 + 4 * v1.toNat) := (zSmw.ofo (q := v1) (zOu.kp (zOu.rf (r := 0) (n := 0)) h0 hk10 (by decide)) (by omega) (by omega) (Or.inr (by omega)))
            have hx59 := hx58.2.1
            exact q_iret C dX11_edit_101 ⟨rfl, rfl⟩ (by rw [hPo]; exact ⟨M39 (a + 2 + 9 + 4 * (v1 : Int).toNat) 3, M47, J48, rfl, rfl, hI49, hK52, (by have hz : M47 a 1 = M5 a 1 := ((h50 _ _ (zle_t h0.2.2.2.2.1 (by decide))).trans (hk44 _ _ (by omega))); omega), (fun j => ((h50 _ _ (zle_t (h0.2.2.2.2.2.2.2.2.2.2.2.2.1 j) (by decide))).trans ((hk44 _ _ (by omega)).trans (hk10 _ _ (zle_t (h0.2.2.2.2.2.2.2.2.2.2.2.2.1 j) (by decide)))))), hci54, (Or.inr ⟨⟨by omega, by omega, by omega⟩, _, (zWb.cg h25 (fun j => (h4 j)) (by omega) rfl), Or.inr ⟨by omega, by omega⟩⟩), (Or.inr ⟨by omega, ⟨by omega, by omega, by omega⟩, zChg.cg (zSmw.ofo (q := v1) (zOu.kp (zOu.rf (r := 0) (n := 0)) h0 hk10 (by decide)) (by omega) (by omega) (Or.inr (by omega))) (h34 (by omega)) (zSmw.ofo (q := v1) (zOu.kp (zOu.rf (r := 0) (n := 0)) h0 h50 (by decide)) (by omega) (by omega) (Or.inr (by omega))) (by omega), (zOu.kp (zOu.rg (zOu.kp (zOu.rf (r := a + 2 + 9 + 4 * v1.toNat) (n := 4)) h0 hk10 (by decide)) hk44 (by omega)) h0 h50 (by decide))⟩), (Or.inr ⟨zEb.cg (zSw.ofo (q := v1) (zOu.kp (zOu.rf (r := 0) (n := 0)) h0 hk10 (by decide)) (Or.inl rfl) (by omega) (Or.inr (by omega))).1 (h35 (by omega)) (zSw.ofo (q := v1) (zOu.kp (zOu.rf (r := 0) (n := 0)) h0 h50 (by decide)) (Or.inl rfl) (by omega) (Or.inr (by omega))).1 (by omega) (fun j => (h4 j)), zWv.cg (h36 (by omega)) (zSw.ofo (q := v1) (zOu.kp (zOu.rf (r := 0) (n := 0)) h0 h50 (by decide)) (Or.inl rfl) (by omega) (Or.inr (by omega))).1 (zSw.ofo (q := v1) (zOu.kp (zOu.rf (r := 0) (n := 0)) h0 h50 (by decide)) (Or.inl rfl) (by omega) (Or.inr (by omega))).2.2, zEc.cg (zSw.ofo (q := v1) (zOu.kp (zOu.rf (r := 0) (n := 0)) h0 hk10 (by decide)) (Or.inl rfl) (by omega) (Or.inr (by omega))).1 (h37 (by omega)) (zSw.ofo (q := v1) (zOu.kp (zOu.rf (r := 0) (n := 0)) h0 h50 (by decide)) (Or.inl rfl) (by omega) (Or.inr (by omega))).1 (by omega)⟩), (Or.inr (zGp.cg (h38 (by omega)) (zSw.ofo (q := v1) (zOu.kp (zOu.rf (r := 0) (n := 0)) h0 h50 (by decide)) (Or.inl rfl) (by omega) (Or.inr (by omega))))), ((h50 _ _ (zle_t h0.2.2.2.2.2.2.2.2.2.2.2.2.2.2.2.2.1 (by decide))).trans ((hk44 _ _ (by omega)).trans (hk10 _ _ (zle_t h0.2.2.2.2.2.2.2.2.2.2.2.2.2.2.2.2.1 (by decide))))), (fun j => ((h50 _ _ (zle_t (h0.2.2.2.2.2.2.2.2.2.2.2.2.2.2.2.1 j) (by decide))).trans ((hk44 _ _ (by omega)).trans (hk10 _ _ (zle_t (h0.2.2.2.2.2.2.2.2.2.2.2.2.2.2.2.1 j) (by decide))))))⟩)
          · refine q_bipush C dX11_edit_82 (n := 84) rfl (x := (-3)) (by decide) ?_
            have hci60 : zCI M39 a := (zCI.pg (k := v1) hci29 hk44 (by omega) h31)
            have hx61 := zChx.cg (n2 := M a 1) h33 (zSmw.ofo (q := v1) (zOu.kp (zOu.rf (r := 0) (n := 0)) h0 hk10 (by decide)) (by omega) (by omega) (Or.inr (by omega))) (by omega)
            unfold zChx at hx61
            have hx62 : ¬ v2 = M (a + 2 + 9 + 4 * v1.toNat) 3 ∨ M (a + 2 + 9 + 4 * v1.toNat + 2) v2 = M (a + 2 + 9 + 4 * v1.toNat + 2) (M (a + 2 + 9 + 4 * v1.toNat) 3) := (Decidable.em (v2 = M (a + 2 + 9 + 4 * v1.toNat) 3)).symm.imp id (fun h => by rw [h])
            exact q_iret C dX11_edit_84 ⟨rfl, rfl⟩ (by rw [hPo]; exact ⟨(-3), M39, J40, rfl, rfl, hI41, hK45, (by have hz : M39 a 1 = M5 a 1 := (hk44 _ _ (by omega)); omega), (fun j => ((hk44 _ _ (by omega)).trans (hk10 _ _ (zle_t (h0.2.2.2.2.2.2.2.2.2.2.2.2.1 j) (by decide))))), hci60, (Or.inr ⟨⟨by omega, by omega, by omega⟩, _, (zWb.cg h25 (fun j => (h4 j)) (by omega) rfl), Or.inr ⟨by omega, by omega⟩⟩), (Or.inl ⟨by omega, by rw [h32 (by omega)]; exact (zOu.kp (zOu.rf (r := 0) (n := 0)) h0 hk10 (by decide))⟩), (Or.inl (by omega)), (Or.inl (by omega)), ((hk44 _ _ (by omega)).trans (hk10 _ _ (zle_t h0.2.2.2.2.2.2.2.2.2.2.2.2.2.2.2.2.1 (by decide)))), (fun j => ((hk44 _ _ (by omega)).trans (hk10 _ _ (zle_t (h0.2.2.2.2.2.2.2.2.2.2.2.2.2.2.2.1 j) (by decide)))))⟩)
        · refine q_sipush C dX11_edit_54 (n := 57) rfl (x := (-1000)) (by decide) ?_
          refine q_iload C dX11_edit_57 (n := 59) rfl rfl ?_
          refine q_isub C dX11_edit_59 (n := 60) rfl (v := (-1000) - x26) rfl ?_
          have hci63 : zCI M5 a := (zCI.kp p3 h0 hk10 (by decide))
          exact q_iret C dX11_edit_60 ⟨rfl, rfl⟩ (by rw [hPo]; exact ⟨(-1000) - x26, M5, J6, rfl, rfl, hI7, hK11, (by have hz : M5 a 1 = M5 a 1 := rfl; omega), (fun j => (hk10 _ _ (zle_t (h0.2.2.2.2.2.2.2.2.2.2.2.2.1 j) (by decide)))), hci63, (Or.inr ⟨⟨by omega, by omega, by omega⟩, _, (zWb.cg h25 (fun j => (h4 j)) (by omega) rfl), Or.inl ⟨by omega, rfl⟩⟩), (Or.inl ⟨by omega, (zOu.kp (zOu.rf (r := 0) (n := 0)) h0 hk10 (by decide))⟩), (Or.inl (by omega)), (Or.inl (by omega)), (hk10 _ _ (zle_t h0.2.2.2.2.2.2.2.2.2.2.2.2.2.2.2.2.1 (by decide))), (fun j => (hk10 _ _ (zle_t (h0.2.2.2.2.2.2.2.2.2.2.2.2.2.2.2.1 j) (by decide))))⟩)
      · refine q_bipush C dX11_edit_36 (n := 38) rfl (x := (-2)) (by decide) ?_
        have hci64 : zCI M5 a := (zCI.kp p3 h0 hk10 (by decide))
        exact q_iret C dX11_edit_38 ⟨rfl, rfl⟩ (by rw [hPo]; exact ⟨(-2), M5, J6, rfl, rfl, hI7, hK11, (by have hz : M5 a 1 = M5 a 1 := rfl; omega), (fun j => (hk10 _ _ (zle_t (h0.2.2.2.2.2.2.2.2.2.2.2.2.1 j) (by decide)))), hci64, (Or.inl ⟨by omega, rfl⟩), (Or.inl ⟨by omega, (zOu.kp (zOu.rf (r := 0) (n := 0)) h0 hk10 (by decide))⟩), (Or.inl (by omega)), (Or.inl (by omega)), (hk10 _ _ (zle_t h0.2.2.2.2.2.2.2.2.2.2.2.2.2.2.2.2.1 (by decide))), (fun j => (hk10 _ _ (zle_t (h0.2.2.2.2.2.2.2.2.2.2.2.2.2.2.2.1 j) (by decide))))⟩)
theorem c_X11_drop_g {w : zWp} {T : zTl} {M : zMm} {J : zJm} {R : zRm'} {G : zGt} {F : zRm'} {a : Nat} (hI : zI G M) (hF : zF F R) (h0 : zHideSets T F G a) (v1 : Int) (v2 : Int) (hst : R a 8 = none ∨ ∃ sy, R a 8 = some sy ∧ zStudy T F G sy) (hg30 : ∀ (c : Nat) (k : Int), a ≤ c → c < a + 836 → (G c k).1 < 30) (p1 : -2147483648 ≤ v1 ∧ v1 ≤ 2147483647) (p2 : -2147483648 ≤ v2 ∧ v2 ≤ 2147483647) (p3 : zCI M a) : zCt w 14 0 0 yX11_drop cX11_drop 3 (some .int) [.ref (w.2.1 + a), zi v1, zi v2] (T, M, J, R) (zPi T R G (fun x M2 => (zKp G 30 M M2) ∧ (M2 a 1 = M a 1) ∧ (∀ j : Int, M2 (a + 1) j = M (a + 1) j) ∧ (∀ j : Int, M2 (a + 28) j = M (a + 28) j) ∧ (zCI M2 a) ∧ (¬ ((0 ≤ v1 ∧ v1 ≤ 3 ∧ M (a + 2 + 9 + 4 * v1.toNat) 4 = 1) ∧ 0 ≤ v2 ∧ v2 < M (a + 2 + 9 + 4 * v1.toNat) 3) ∧ x = -1 ∧ zOu a 0 0 M M2 ∨ ((0 ≤ v1 ∧ v1 ≤ 3 ∧ M (a + 2 + 9 + 4 * v1.toNat) 4 = 1) ∧ 0 ≤ v2 ∧ v2 < M (a + 2 + 9 + 4 * v1.toNat) 3) ∧ x = M (a + 2 + 9 + 4 * v1.toNat) 3 - 1 ∧ zTko M M2 (a + 2 + 9 + 4 * v1.toNat) v2 ∧ zOu a (a + 2 + 9 + 4 * v1.toNat) 4 M M2) ∧ (x = -1 ∨ zTb M M2 (a + 2 + 9 + 4 * v1.toNat) v2 ∧ zWv M2 (a + 2 + 9 + 4 * v1.toNat) ∧ zTc M M2 (a + 2 + 9 + 4 * v1.toNat) v2) ∧ (x = -1 ∨ zGp M2 (a + 2 + 9 + 4 * v1.toNat)) ∧ (M2 a 6 = M a 6) ∧ (∀ j : Int, M2 (a + 29) j = M (a + 29) j))) := by
  refine zCt.of rfl (Nat.le_of_ble_eq_true rfl) ?_
  intro p e s m args below meth c C
  obtain ⟨Po, hPo⟩ : ∃ Po, Po = zPi T R G (fun x M2 => (zKp G 30 M M2) ∧ (M2 a 1 = M a 1) ∧ (∀ j : Int, M2 (a + 1) j = M (a + 1) j) ∧ (∀ j : Int, M2 (a + 28) j = M (a + 28) j) ∧ (zCI M2 a) ∧ (¬ ((0 ≤ v1 ∧ v1 ≤ 3 ∧ M (a + 2 + 9 + 4 * v1.toNat) 4 = 1) ∧ 0 ≤ v2 ∧ v2 < M (a + 2 + 9 + 4 * v1.toNat) 3) ∧ x = -1 ∧ zOu a 0 0 M M2 ∨ ((0 ≤ v1 ∧ v1 ≤ 3 ∧ M (a + 2 + 9 + 4 * v1.toNat) 4 = 1) ∧ 0 ≤ v2 ∧ v2 < M (a + 2 + 9 + 4 * v1.toNat) 3) ∧ x = M (a + 2 + 9 + 4 * v1.toNat) 3 - 1 ∧ zTko M M2 (a + 2 + 9 + 4 * v1.toNat) v2 ∧ zOu a (a + 2 + 9 + 4 * v1.toNat) 4 M M2) ∧ (x = -1 ∨ zTb M M2 (a + 2 + 9 + 4 * v1.toNat) v2 ∧ zWv M2 (a + 2 + 9 + 4 * v1.toNat) ∧ zTc M M2 (a + 2 + 9 + 4 * v1.toNat) v2) ∧ (x = -1 ∨ zGp M2 (a + 2 + 9 + 4 * v1.toNat)) ∧ (M2 a 6 = M a 6) ∧ (∀ j : Int, M2 (a + 29) j = M (a + 29) j)) := ⟨_, rfl⟩
  rw [← hPo]
  have hK0 : zKp G 30 M M := zKp.rf
  show zK w p e 14 0 0 s m args below meth c 3 T Po 0 [.ref (w.2.1 + a), zi v1, zi v2] [] (T, M, J, R)
  refine q_aload_n C dX11_drop_0 (n := 1) rfl rfl ?_
  refine q_getR C dX11_drop_1 (n := 4) rfl f_X11_20 h0.1 (hF _ _ _ h0.2.2.2.2.2.1) ?_
  refine q_iload_n C dX11_drop_4 (n := 5) rfl rfl ?_
  refine q_iload_n C dX11_drop_5 (n := 6) rfl rfl ?_
  refine q_callVp C dX11_drop_6 (n := 9) rfl m_X11_209 v_yX7_hasLine h0.2.2.2.2.2.2.1.1 ⟨by decide, rfl⟩ (c_X7_hasLine_e (w := w) (J := J) hI hF h0.2.2.2.2.2.2.1 v1 v2 (by omega) (by omega)) (Nat.le_of_ble_eq_true rfl) rfl rfl (Nat.le_of_ble_eq_true rfl) ⟨Nat.le_refl _, Nat.le_refl _⟩ (fun x3 h4 => ?_)
  obtain ⟨h1, h2⟩ := h4
  refine q_if_ne C 14 dX11_drop_9 (n := 12) rfl rfl (by omega) (fun h5 => ?_) (fun h5 => ?_)
  · refine q_aload_n C dX11_drop_14 (n := 15) rfl rfl ?_
    refine q_getR C dX11_drop_15 (n := 18) rfl f_X11_20 h0.1 (hF _ _ _ h0.2.2.2.2.2.1) ?_
    refine q_getR C dX11_drop_18 (n := 21) rfl f_X11_66 h0.2.2.2.2.2.2.1.1 (hF _ _ _ h0.2.2.2.2.2.2.1.2.1) ?_
    refine q_iload_n C dX11_drop_21 (n := 22) rfl rfl ?_
    refine q_aald C dX11_drop_22 (n := 23) rfl ⟨by decide, by decide⟩ h0.2.2.2.2.2.2.1.2.2.1 (by omega) (hF _ _ _ (h0.2.2.2.2.2.2.1.2.2.2.1 v1 (by omega) (by omega)).1) ?_
    refine q_iload_n C dX11_drop_23 (n := 24) rfl rfl ?_
    refine q_callVv C dX11_drop_24 (n := 27) rfl m_X11_259 v_yX4_takeOut (h0.2.2.2.2.2.2.1.2.2.2.1 v1 (by omega) (by omega)).2.1 ⟨by decide, rfl⟩ (c_X4_takeOut_g (w := w) (J := J) hI hF (h0.2.2.2.2.2.2.1.2.2.2.1 v1 (by omega) (by omega)).2 v2 (by omega) ((p3).1 v1 (by omega) (by omega))) (Nat.le_of_ble_eq_true rfl) rfl rfl (Nat.le_of_ble_eq_true rfl) ⟨Nat.le_refl _, Nat.le_refl _⟩ (fun M12 J13  hI14 h15 => ?_)
    obtain ⟨hk16, h6, h7, h8, h9, h10, h11⟩ := h15
    have hK17 := hK0.tr (zKp.ofr hk16 (fun c k h1 h2 => hg30 c k (by omega) (by omega))) (by decide)
    refine q_aload_n C dX11_drop_27 (n := 28) rfl rfl ?_
    refine q_callVv C dX11_drop_28 (n := 31) rfl m_X11_76 v_yX11_forgetStudy h0.1 ⟨by decide, rfl⟩ (c_X11_forgetStudy (w := w) (J := J13) hI14 hF h0 (by assumption)) (Nat.le_of_ble_eq_true rfl) rfl rfl (Nat.le_of_ble_eq_true rfl) ⟨Nat.le_refl _, Nat.le_refl _⟩ (fun M18 J19  hI20 h21 => ?_)
    have hK23 := hK17.tr h21 (by decide)
    refine q_aload_n C dX11_drop_31 (n := 32) rfl rfl ?_
    refine q_getR C dX11_drop_32 (n := 35) rfl f_X11_20 h0.1 (hF _ _ _ h0.2.2.2.2.2.1) ?_
    refine q_getR C dX11_drop_35 (n := 38) rfl f_X11_66 h0.2.2.2.2.2.2.1.1 (hF _ _ _ h0.2.2.2.2.2.2.1.2.1) ?_
    refine q_iload_n C dX11_drop_38 (n := 39) rfl rfl ?_
    refine q_aald C dX11_drop_39 (n := 40) rfl ⟨by decide, by decide⟩ h0.2.2.2.2.2.2.1.2.2.1 (by omega) (hF _ _ _ (h0.2.2.2.2.2.2.1.2.2.2.1 v1 (by omega) (by omega)).1) ?_
    have g24 := zI.at hI14 (h0.2.2.2.2.2.2.1.2.2.2.1 v1 (by omega) (by omega)).2.2.2.2.2.2.2.2.2.2.2.1
    refine q_getI C dX11_drop_40 (n := 43) rfl f_X11_79 (h0.2.2.2.2.2.2.1.2.2.2.1 v1 (by omega) (by omega)).2.1 (v := M12 (a + 2 + 9 + 4 * (v1 : Int).toNat) 3) (h21 _ _ (zle_t (h0.2.2.2.2.2.2.1.2.2.2.1 v1 (by omega) (by omega)).2.2.2.2.2.2.2.2.2.2.2.1 (by decide))) ?_
    have hci25 : zCI M18 a := (zCI.kp (zCI.pg (k := v1) p3 hk16 (by omega) h6) h0 h21 (by decide))
    have hx26 := zTko.cg zSmw.rf h7 (zSmw.ofo (q := v1) (zOu.kp (zOu.rf (r := 0) (n := 0)) h0 h21 (by decide)) (by omega) (by omega) (Or.inr (by omega)))
    have hx27 := hx26.2.1
    have hx28 : zSmw M12 M18 (a + 2 + 9 + 4 * v1.toNat) := (zSmw.ofo (q := v1) (zOu.kp (zOu.rf (r := 0) (n := 0)) h0 h21 (by decide)) (by omega) (by omega) (Or.inr (by omega)))
    have hx29 := hx28.2.1
    exact q_iret C dX11_drop_43 ⟨rfl, rfl⟩ (by rw [hPo]; exact ⟨M12 (a + 2 + 9 + 4 * (v1 : Int).toNat) 3, M18, J19, rfl, rfl, hI20, hK23, (by have hz : M18 a 1 = M a 1 := ((h21 _ _ (zle_t h0.2.2.2.2.1 (by decide))).trans (hk16 _ _ (by omega))); omega), (fun j => ((h21 _ _ (zle_t (h0.2.2.2.1 j) (by decide))).trans (hk16 _ _ (by omega)))), (fun j => ((h21 _ _ (zle_t (h0.2.2.2.2.2.2.2.2.2.2.2.2.1 j) (by decide))).trans (hk16 _ _ (by omega)))), hci25, (Or.inr ⟨⟨⟨by omega, by omega, by omega⟩, by omega, by omega⟩, by omega, hx26, (zOu.kp (zOu.rg (zOu.rf (r := a + 2 + 9 + 4 * v1.toNat) (n := 4)) hk16 (by omega)) h0 h21 (by decide))⟩), (Or.inr ⟨zTb.cg zSw.rf.1 h8 (zSw.ofo (q := v1) (zOu.kp (zOu.rf (r := 0) (n := 0)) h0 h21 (by decide)) (Or.inl rfl) (by omega) (Or.inr (by omega))).1, zWv.cg h9 (zSw.ofo (q := v1) (zOu.kp (zOu.rf (r := 0) (n := 0)) h0 h21 (by decide)) (Or.inl rfl) (by omega) (Or.inr (by omega))).1 (zSw.ofo (q := v1) (zOu.kp (zOu.rf (r := 0) (n := 0)) h0 h21 (by decide)) (Or.inl rfl) (by omega) (Or.inr (by omega))).2.2, zTc.cg zSw.rf.1 h10 (zSw.ofo (q := v1) (zOu.kp (zOu.rf (r := 0) (n := 0)) h0 h21 (by decide)) (Or.inl rfl) (by omega) (Or.inr (by omega))).1⟩), (Or.inr (zGp.cg h11 (zSw.ofo (q := v1) (zOu.kp (zOu.rf (r := 0) (n := 0)) h0 h21 (by decide)) (Or.inl rfl) (by omega) (Or.inr (by omega))))), ((h21 _ _ (zle_t h0.2.2.2.2.2.2.2.2.2.2.2.2.2.2.2.2.1 (by decide))).trans (hk16 _ _ (by omega))), (fun j => ((h21 _ _ (zle_t (h0.2.2.2.2.2.2.2.2.2.2.2.2.2.2.2.1 j) (by decide))).trans (hk16 _ _ (by omega))))⟩)
  · refine q_iconst C dX11_drop_12 (n := 13) rfl ?_
    exact q_iret C dX11_drop_13 ⟨rfl, rfl⟩ (by rw [hPo]; exact ⟨(-1), M, J, rfl, rfl, hI, hK0, (by have hz : M a 1 = M a 1 := rfl; omega), (fun j => rfl), (fun j => rfl), p3, (Or.inl ⟨by omega, rfl, (zOu.rf (r := 0) (n := 0))⟩), (Or.inl rfl), (Or.inl rfl), rfl, (fun j => rfl)⟩)
theorem c_X11_image_g {w : zWp} {T : zTl} {M : zMm} {J : zJm} {R : zRm'} {G : zGt} {F : zRm'} {a : Nat} (hI : zI G M) (hF : zF F R) (h0 : zHideSets T F G a) (v1 : Int) (hg30 : ∀ (c : Nat) (k : Int), a ≤ c → c < a + 836 → (G c k).1 < 30) (p1 : -2147483648 ≤ v1 ∧ v1 ≤ 2147483647) (p2 : zCI M a) : zCt w 3 0 0 yX11_image cX11_image 2 (some .boolean) [.ref (w.2.1 + a), zi v1] (T, M, J, R) (zPi T R G (fun x M2 => (zKp G 30 M M2) ∧ (x = 0 ∨ x = 1) ∧ (x = 0 ∧ (v1 < 0 ∨ 2 ≤ v1) ∨ x = 1 ∧ 0 ≤ v1 ∧ v1 < 2) ∧ (M2 a 1 = M a 1) ∧ (∀ j : Int, M2 (a + 1) j = M (a + 1) j) ∧ (∀ j : Int, M2 (a + 28) j = M (a + 28) j ∨ j = v1 ∧ x = 1 ∧ M2 (a + 28) j = 1) ∧ (x = 1 → M2 (a + 28) v1 = 1) ∧ (zCI M2 a) ∧ ((v1 < 0 ∨ 2 ≤ v1) ∧ zOu a 0 0 M M2 ∨ (0 ≤ v1 ∧ v1 < 2) ∧ zScw M M2 (a + 786 + 25 * v1.toNat) (a + 2) ∧ zOu a (a + 786 + 25 * v1.toNat) 25 M M2) ∧ (x = 0 ∨ zSe M M2 (a + 786 + 25 * v1.toNat) (a + 2) 4) ∧ (M2 a 6 = M a 6) ∧ (∀ j : Int, M2 (a + 29) j = M (a + 29) j))) := by
  refine zCt.of rfl (Nat.le_of_ble_eq_true rfl) ?_
  intro p e s m args below meth c C
  obtain ⟨Po, hPo⟩ : ∃ Po, Po = zPi T R G (fun x M2 => (zKp G 30 M M2) ∧ (x = 0 ∨ x = 1) ∧ (x = 0 ∧ (v1 < 0 ∨ 2 ≤ v1) ∨ x = 1 ∧ 0 ≤ v1 ∧ v1 < 2) ∧ (M2 a 1 = M a 1) ∧ (∀ j : Int, M2 (a + 1) j = M (a + 1) j) ∧ (∀ j : Int, M2 (a + 28) j = M (a + 28) j ∨ j = v1 ∧ x = 1 ∧ M2 (a + 28) j = 1) ∧ (x = 1 → M2 (a + 28) v1 = 1) ∧ (zCI M2 a) ∧ ((v1 < 0 ∨ 2 ≤ v1) ∧ zOu a 0 0 M M2 ∨ (0 ≤ v1 ∧ v1 < 2) ∧ zScw M M2 (a + 786 + 25 * v1.toNat) (a + 2) ∧ zOu a (a + 786 + 25 * v1.toNat) 25 M M2) ∧ (x = 0 ∨ zSe M M2 (a + 786 + 25 * v1.toNat) (a + 2) 4) ∧ (M2 a 6 = M a 6) ∧ (∀ j : Int, M2 (a + 29) j = M (a + 29) j)) := ⟨_, rfl⟩
  rw [← hPo]
  have hK0 : zKp G 30 M M := zKp.rf
  show zK w p e 3 0 0 s m args below meth c 2 T Po 0 [.ref (w.2.1 + a), zi v1] [] (T, M, J, R)
  refine q_iload_n C dX11_image_0 (n := 1) rfl rfl ?_
  refine q_if_lt C 13 dX11_image_1 (n := 4) rfl rfl (by omega) (fun h1 => ?_) (fun h1 => ?_)
  · refine q_iconst C dX11_image_13 (n := 14) rfl ?_
    exact q_zret C dX11_image_14 ⟨rfl, rfl⟩ (by omega) (by rw [hPo]; exact ⟨0, M, J, rfl, rfl, hI, hK0, by omega, by omega, (by have hz : M a 1 = M a 1 := rfl; omega), (fun j => rfl), (fun j => Or.inl rfl), (fun h => absurd h (by omega)), p2, (Or.inl ⟨by omega, (zOu.rf (r := 0) (n := 0))⟩), (Or.inl rfl), rfl, (fun j => rfl)⟩)
  · refine q_iload_n C dX11_image_4 (n := 5) rfl rfl ?_
    refine q_aload_n C dX11_image_5 (n := 6) rfl rfl ?_
    refine q_getR C dX11_image_6 (n := 9) rfl f_X11_24 h0.1 (hF _ _ _ h0.2.2.2.2.2.2.2.1) ?_
    refine q_alen C dX11_image_9 (n := 10) rfl ⟨by decide, by decide⟩ h0.2.2.2.2.2.2.2.2.1 ?_
    show zK w p e 3 0 0 s m args below meth c 2 T Po 10 [.ref (w.2.1 + a), zi v1] [zi 2, zi v1] (T, M, J, R)
    refine q_icmp_lt C 15 dX11_image_10 (n := 13) rfl rfl (by omega) (fun h2 => ?_) (fun h2 => ?_)
    · refine q_aload_n C dX11_image_15 (n := 16) rfl rfl ?_
      refine q_getR C dX11_image_16 (n := 19) rfl f_X11_24 h0.1 (hF _ _ _ h0.2.2.2.2.2.2.2.1) ?_
      refine q_iload_n C dX11_image_19 (n := 20) rfl rfl ?_
      refine q_aald C dX11_image_20 (n := 21) rfl ⟨by decide, by decide⟩ h0.2.2.2.2.2.2.2.2.1 (by omega) (hF _ _ _ (h0.2.2.2.2.2.2.2.2.2.1 v1 (by omega) (by omega)).1) ?_
      refine q_aload_n C dX11_image_21 (n := 22) rfl rfl ?_
      refine q_getR C dX11_image_22 (n := 25) rfl f_X11_20 h0.1 (hF _ _ _ h0.2.2.2.2.2.1) ?_
      refine q_callVv C dX11_image_25 (n := 28) rfl m_X11_262 v_yX7_copy (h0.2.2.2.2.2.2.2.2.2.1 v1 (by omega) (by omega)).2.1 ⟨by decide, rfl⟩ (c_X7_copy_w (w := w) (J := J) hI hF (h0.2.2.2.2.2.2.2.2.2.1 v1 (by omega) (by omega)).2 h0.2.2.2.2.2.2.1 (p2).1 (by omega)) (Nat.le_of_ble_eq_true rfl) rfl rfl (Nat.le_of_ble_eq_true rfl) ⟨Nat.le_refl _, Nat.le_refl _⟩ (fun M7 J8  hI9 h10 => ?_)
      obtain ⟨hk11, h3, h4, h5, h6⟩ := h10
      have hK12 := hK0.tr (zKp.ofr hk11 (fun c k h1 h2 => hg30 c k (by omega) (by omega))) (by decide)
      refine q_aload_n C dX11_image_28 (n := 29) rfl rfl ?_
      refine q_getR C dX11_image_29 (n := 32) rfl f_X11_28 h0.1 (hF _ _ _ h0.2.2.2.2.2.2.2.2.2.2.1) ?_
      refine q_iload_n C dX11_image_32 (n := 33) rfl rfl ?_
      refine q_iconst C dX11_image_33 (n := 34) rfl ?_
      refine q_zast C dX11_image_34 (n := 35) rfl h0.2.2.2.2.2.2.2.2.2.2.2.1 (by omega) (by omega) (fun M13 e14 => ?_)
      have hI15 : zI G M13 := hI9.put e14 (h0.2.2.2.2.2.2.2.2.2.2.2.2.1 v1) rfl (by omega)
      have hK16 := hK12.put e14 (h0.2.2.2.2.2.2.2.2.2.2.2.2.1 v1) (by decide)
      refine q_iconst C dX11_image_35 (n := 36) rfl ?_
      have hci17 : zCI M13 a := (zCI.up (zCI.img (k := v1) p2 hk11 (by omega) h3) e14 (by decide))
      exact q_zret C dX11_image_36 ⟨rfl, rfl⟩ (by omega) (by rw [hPo]; exact ⟨1, M13, J8, rfl, rfl, hI15, hK16, by omega, by omega, (by have hz : M13 a 1 = M a 1 := ((zup_p e14 (by omega) _).trans (hk11 _ _ (by omega))); omega), (fun j => ((zup_p e14 (by omega) _).trans (hk11 _ _ (by omega)))), (fun j => (Decidable.em (j = v1)).elim (fun hj => Or.inr ⟨hj, by omega, by rw [hj]; exact zup_s e14⟩) (fun hj => Or.inl ((zup_n e14 (fun z => hj z.2)).trans (hk11 _ _ (by omega))))), (fun _ => zup_s e14), hci17, (Or.inr ⟨by omega, zScw.ou (a := a) ⟨h5, h4⟩ (zOu.up (zOu.rf (r := 0) (n := 0)) e14 (by decide)) (by omega), (zOu.up (zOu.rg (zOu.rf (r := (a + 786 + 25 * v1.toNat)) (n := 25)) hk11 (by omega)) e14 (by decide))⟩), (Or.inr (zSe.ou (a := a) h6 (zOu.up (zOu.rf (r := 0) (n := 0)) e14 (by decide)) (by omega) (by omega))), ((zup_p e14 (by omega) _).trans (hk11 _ _ (by omega))), (fun j => ((zup_p e14 (by omega) _).trans (hk11 _ _ (by omega))))⟩)
    · refine q_iconst C dX11_image_13 (n := 14) rfl ?_
      exact q_zret C dX11_image_14 ⟨rfl, rfl⟩ (by omega) (by rw [hPo]; exact ⟨0, M, J, rfl, rfl, hI, hK0, by omega, by omega, (by have hz : M a 1 = M a 1 := rfl; omega), (fun j => rfl), (fun j => Or.inl rfl), (fun h => absurd h (by omega)), p2, (Or.inl ⟨by omega, (zOu.rf (r := 0) (n := 0))⟩), (Or.inl rfl), rfl, (fun j => rfl)⟩)
theorem c_X11_restore_g {w : zWp} {T : zTl} {M : zMm} {J : zJm} {R : zRm'} {G : zGt} {F : zRm'} {a : Nat} (hI : zI G M) (hF : zF F R) (h0 : zHideSets T F G a) (v1 : Int) (hst : R a 8 = none ∨ ∃ sy, R a 8 = some sy ∧ zStudy T F G sy) (hg30 : ∀ (c : Nat) (k : Int), a ≤ c → c < a + 836 → (G c k).1 < 30) (p1 : -2147483648 ≤ v1 ∧ v1 ≤ 2147483647) (p2 : zCI M a) : zCt w 3 0 0 yX11_restore cX11_restore 2 (some .boolean) [.ref (w.2.1 + a), zi v1] (T, M, J, R) (zPi T R G (fun x M2 => (zKp G 30 M M2) ∧ (x = 0 ∨ x = 1) ∧ (x = 1 ∧ 0 ≤ v1 ∧ v1 < 2 ∧ M (a + 28) v1 = 1 ∨ x = 0 ∧ (v1 < 0 ∨ 2 ≤ v1 ∨ M (a + 28) v1 = 0)) ∧ (M2 a 1 = M a 1) ∧ (∀ j : Int, M2 (a + 1) j = M (a + 1) j) ∧ (∀ j : Int, M2 (a + 28) j = M (a + 28) j) ∧ (zCI M2 a) ∧ (x = 0 ∧ zOu a 0 0 M M2 ∨ (x = 1 ∧ 0 ≤ v1 ∧ v1 < 2) ∧ zScw M M2 (a + 2) (a + 786 + 25 * v1.toNat) ∧ zOu a (a + 2) 25 M M2) ∧ (x = 0 ∨ zSe M M2 (a + 2) (a + 786 + 25 * v1.toNat) 4) ∧ (M2 a 6 = M a 6) ∧ (∀ j : Int, M2 (a + 29) j = M (a + 29) j))) := by
  refine zCt.of rfl (Nat.le_of_ble_eq_true rfl) ?_
  intro p e s m args below meth c C
  obtain ⟨Po, hPo⟩ : ∃ Po, Po = zPi T R G (fun x M2 => (zKp G 30 M M2) ∧ (x = 0 ∨ x = 1) ∧ (x = 1 ∧ 0 ≤ v1 ∧ v1 < 2 ∧ M (a + 28) v1 = 1 ∨ x = 0 ∧ (v1 < 0 ∨ 2 ≤ v1 ∨ M (a + 28) v1 = 0)) ∧ (M2 a 1 = M a 1) ∧ (∀ j : Int, M2 (a + 1) j = M (a + 1) j) ∧ (∀ j : Int, M2 (a + 28) j = M (a + 28) j) ∧ (zCI M2 a) ∧ (x = 0 ∧ zOu a 0 0 M M2 ∨ (x = 1 ∧ 0 ≤ v1 ∧ v1 < 2) ∧ zScw M M2 (a + 2) (a + 786 + 25 * v1.toNat) ∧ zOu a (a + 2) 25 M M2) ∧ (x = 0 ∨ zSe M M2 (a + 2) (a + 786 + 25 * v1.toNat) 4) ∧ (M2 a 6 = M a 6) ∧ (∀ j : Int, M2 (a + 29) j = M (a + 29) j)) := ⟨_, rfl⟩
  rw [← hPo]
  have hK0 : zKp G 30 M M := zKp.rf
  show zK w p e 3 0 0 s m args below meth c 2 T Po 0 [.ref (w.2.1 + a), zi v1] [] (T, M, J, R)
  refine q_iload_n C dX11_restore_0 (n := 1) rfl rfl ?_
  have J_2 : (v1 < 0 ∨ 2 ≤ v1 ∨ M (a + 28) v1 = 0) → zK w p e 3 0 0 s m args below meth c 2 T Po 22 [.null, .null] [] (T, M, J, R) := by
    intro h1
    refine q_iconst C dX11_restore_22 (n := 23) rfl ?_
    exact q_zret C dX11_restore_23 ⟨rfl, rfl⟩ (by omega) (by rw [hPo]; exact ⟨0, M, J, rfl, rfl, hI, hK0, by omega, by omega, (by have hz : M a 1 = M a 1 := rfl; omega), (fun j => rfl), (fun j => rfl), p2, (Or.inl ⟨by omega, (zOu.rf (r := 0) (n := 0))⟩), (Or.inl rfl), rfl, (fun j => rfl)⟩)
  refine q_if_lt C 22 dX11_restore_1 (n := 4) rfl rfl (by omega) (fun h3 => ?_) (fun h3 => ?_)
  · exact zK.weak (J_2 (by omega)) (zwk_n (zwk_n zwk_e))
  · refine q_iload_n C dX11_restore_4 (n := 5) rfl rfl ?_
    refine q_aload_n C dX11_restore_5 (n := 6) rfl rfl ?_
    refine q_getR C dX11_restore_6 (n := 9) rfl f_X11_24 h0.1 (hF _ _ _ h0.2.2.2.2.2.2.2.1) ?_
    refine q_alen C dX11_restore_9 (n := 10) rfl ⟨by decide, by decide⟩ h0.2.2.2.2.2.2.2.2.1 ?_
    show zK w p e 3 0 0 s m args below meth c 2 T Po 10 [.ref (w.2.1 + a), zi v1] [zi 2, zi v1] (T, M, J, R)
    refine q_icmp_ge C 22 dX11_restore_10 (n := 13) rfl rfl (by omega) (fun h4 => ?_) (fun h4 => ?_)
    · exact zK.weak (J_2 (by omega)) (zwk_n (zwk_n zwk_e))
    · refine q_aload_n C dX11_restore_13 (n := 14) rfl rfl ?_
      refine q_getR C dX11_restore_14 (n := 17) rfl f_X11_28 h0.1 (hF _ _ _ h0.2.2.2.2.2.2.2.2.2.2.1) ?_
      refine q_iload_n C dX11_restore_17 (n := 18) rfl rfl ?_
      have g5 := zI.at hI (h0.2.2.2.2.2.2.2.2.2.2.2.2.1 v1)
      refine q_zald C dX11_restore_18 (n := 19) rfl h0.2.2.2.2.2.2.2.2.2.2.2.1 (by omega) (v := M (a + 28) v1) rfl ?_
      refine q_if_ne C 24 dX11_restore_19 (n := 22) rfl rfl (by omega) (fun h6 => ?_) (fun h6 => ?_)
      · refine q_aload_n C dX11_restore_24 (n := 25) rfl rfl ?_
        refine q_getR C dX11_restore_25 (n := 28) rfl f_X11_20 h0.1 (hF _ _ _ h0.2.2.2.2.2.1) ?_
        refine q_aload_n C dX11_restore_28 (n := 29) rfl rfl ?_
        refine q_getR C dX11_restore_29 (n := 32) rfl f_X11_24 h0.1 (hF _ _ _ h0.2.2.2.2.2.2.2.1) ?_
        refine q_iload_n C dX11_restore_32 (n := 33) rfl rfl ?_
        refine q_aald C dX11_restore_33 (n := 34) rfl ⟨by decide, by decide⟩ h0.2.2.2.2.2.2.2.2.1 (by omega) (hF _ _ _ (h0.2.2.2.2.2.2.2.2.2.1 v1 (by omega) (by omega)).1) ?_
        refine q_callVv C dX11_restore_34 (n := 37) rfl m_X11_262 v_yX7_copy h0.2.2.2.2.2.2.1.1 ⟨by decide, rfl⟩ (c_X7_copy_w (w := w) (J := J) hI hF h0.2.2.2.2.2.2.1 (h0.2.2.2.2.2.2.2.2.2.1 v1 (by omega) (by omega)).2 ((p2).2 v1 (by omega) (by omega)) (by omega)) (Nat.le_of_ble_eq_true rfl) rfl rfl (Nat.le_of_ble_eq_true rfl) ⟨Nat.le_refl _, Nat.le_refl _⟩ (fun M11 J12  hI13 h14 => ?_)
        obtain ⟨hk15, h7, h8, h9, h10⟩ := h14
        have hK16 := hK0.tr (zKp.ofr hk15 (fun c k h1 h2 => hg30 c k (by omega) (by omega))) (by decide)
        refine q_aload_n C dX11_restore_37 (n := 38) rfl rfl ?_
        refine q_callVv C dX11_restore_38 (n := 41) rfl m_X11_76 v_yX11_forgetStudy h0.1 ⟨by decide, rfl⟩ (c_X11_forgetStudy (w := w) (J := J12) hI13 hF h0 (by assumption)) (Nat.le_of_ble_eq_true rfl) rfl rfl (Nat.le_of_ble_eq_true rfl) ⟨Nat.le_refl _, Nat.le_refl _⟩ (fun M17 J18  hI19 h20 => ?_)
        have hK22 := hK16.tr h20 (by decide)
        refine q_iconst C dX11_restore_41 (n := 42) rfl ?_
        have hci23 : zCI M17 a := (zCI.kp (zCI.res p2 hk15 h7) h0 h20 (by decide))
        exact q_zret C dX11_restore_42 ⟨rfl, rfl⟩ (by omega) (by rw [hPo]; exact ⟨1, M17, J18, rfl, rfl, hI19, hK22, by omega, by omega, (by have hz : M17 a 1 = M a 1 := ((h20 _ _ (zle_t h0.2.2.2.2.1 (by decide))).trans (hk15 _ _ (by omega))); omega), (fun j => ((h20 _ _ (zle_t (h0.2.2.2.1 j) (by decide))).trans (hk15 _ _ (by omega)))), (fun j => ((h20 _ _ (zle_t (h0.2.2.2.2.2.2.2.2.2.2.2.2.1 j) (by decide))).trans (hk15 _ _ (by omega)))), hci23, (Or.inr ⟨by omega, zScw.ou (a := a) ⟨h9, h8⟩ (zOu.kp (zOu.rf (r := 0) (n := 0)) h0 h20 (by decide)) (by omega), (zOu.kp (zOu.rg (zOu.rf (r := (a + 2)) (n := 25)) hk15 (by omega)) h0 h20 (by decide))⟩), (Or.inr (zSe.ou (a := a) h10 (zOu.kp (zOu.rf (r := 0) (n := 0)) h0 h20 (by decide)) (by omega) (by omega))), ((h20 _ _ (zle_t h0.2.2.2.2.2.2.2.2.2.2.2.2.2.2.2.2.1 (by decide))).trans (hk15 _ _ (by omega))), (fun j => ((h20 _ _ (zle_t (h0.2.2.2.2.2.2.2.2.2.2.2.2.2.2.2.1 j) (by decide))).trans (hk15 _ _ (by omega))))⟩)
      · exact zK.weak (J_2 (by omega)) (zwk_n (zwk_n zwk_e))
theorem zup_ne {M M2 : zMm} {c0 c : Nat} {i x k : Int} (e : M2 = zup M c0 i x) (h : ¬ (c = c0 ∧ k = i)) : M2 c k = M c k := by
  by_cases z : c = c0
  · subst z
    exact zup_n e (fun q => h q)
  · exact zup_p e z k
/-- but for the NAME that guards nothing has changed -/
def zOn (a : Nat) (M M2 : zMm) : Prop := ∀ (c : Nat) (k : Int), c ≠ a + 29 → ¬ (c = a ∧ k = 6) → M2 c k = M c k
theorem zOn.ci {a : Nat} {M M2 : zMm} (h : zCI M a) (g : zOn a M M2) : zCI M2 a := ⟨fun j j0 j1 => (h.1 j j0 j1).cg (g _ _ (by omega) (by omega)) (g _ _ (by omega) (by omega)) (g _ _ (by omega) (by omega)) (fun i => g _ _ (by omega) (by omega)), fun q q0 q1 j j0 j1 => (h.2 q q0 q1 j j0 j1).cg (g _ _ (by omega) (by omega)) (g _ _ (by omega) (by omega)) (g _ _ (by omega) (by omega)) (fun i => g _ _ (by omega) (by omega))⟩
theorem zOn.ou {a : Nat} {M M2 : zMm} (g : zOn a M M2) : zOu a 0 0 M M2 := fun c k hc _ => by
  obtain ⟨p, hp, hc | ⟨q, q1, hc⟩⟩ := hc
  · exact g c k (by omega) (by omega)
  · exact g c k (by omega) (by omega)

theorem c_X11_guard_g {w : zWp} {T : zTl} {M : zMm} {J : zJm} {R : zRm'} {G : zGt} {F : zRm'} {a : Nat} (hI : zI G M) (hF : zF F R) (h0 : zHideSets T F G a) (v1 : Int) (p1 : -2147483648 ≤ v1 ∧ v1 ≤ 2147483647) (p2 : zCI M a) : zCt w 2 0 0 yX11_guard cX11_guard 3 (some .int) [.ref (w.2.1 + a), zi v1] (T, M, J, R) (zPi T R G (fun x M2 => (zKp G 30 M M2) ∧ (zOn a M M2) ∧ ((0 ≤ v1 ∧ v1 ≤ 3 ∧ M (a + 2 + 9 + 4 * v1.toNat) 4 = 1) ∧ x = M (a + 2 + 9 + 4 * v1.toNat) 6 ∧ (x = 0 ∧ M2 a 6 = M a 6 ∧ (∀ i, M2 (a + 29) i = M (a + 29) i) ∨ x ≠ 0 ∧ M2 a 6 = x ∧ ∀ i, 0 ≤ i → i < x → M2 (a + 29) i = M (a + 2 + 9 + 4 * v1.toNat + 1) (M (a + 2 + 9 + 4 * v1.toNat) 5 + i)) ∨ ¬ (0 ≤ v1 ∧ v1 ≤ 3 ∧ M (a + 2 + 9 + 4 * v1.toNat) 4 = 1) ∧ x = -1 ∧ M2 a 6 = M a 6 ∧ (∀ i, M2 (a + 29) i = M (a + 29) i)))) := by
  refine zCt.of rfl (Nat.le_of_ble_eq_true rfl) ?_
  intro p e s m args below meth c C
  obtain ⟨Po, hPo⟩ : ∃ Po, Po = zPi T R G (fun x M2 => (zKp G 30 M M2) ∧ (zOn a M M2) ∧ ((0 ≤ v1 ∧ v1 ≤ 3 ∧ M (a + 2 + 9 + 4 * v1.toNat) 4 = 1) ∧ x = M (a + 2 + 9 + 4 * v1.toNat) 6 ∧ (x = 0 ∧ M2 a 6 = M a 6 ∧ (∀ i, M2 (a + 29) i = M (a + 29) i) ∨ x ≠ 0 ∧ M2 a 6 = x ∧ ∀ i, 0 ≤ i → i < x → M2 (a + 29) i = M (a + 2 + 9 + 4 * v1.toNat + 1) (M (a + 2 + 9 + 4 * v1.toNat) 5 + i)) ∨ ¬ (0 ≤ v1 ∧ v1 ≤ 3 ∧ M (a + 2 + 9 + 4 * v1.toNat) 4 = 1) ∧ x = -1 ∧ M2 a 6 = M a 6 ∧ (∀ i, M2 (a + 29) i = M (a + 29) i))) := ⟨_, rfl⟩
  rw [← hPo]
  have hK0 : zKp G 30 M M := zKp.rf
  show zK w p e 2 0 0 s m args below meth c 3 T Po 0 [.ref (w.2.1 + a), zi v1, .null] [] (T, M, J, R)
  refine q_aload_n C dX11_guard_0 (n := 1) rfl rfl ?_
  refine q_getR C dX11_guard_1 (n := 4) rfl f_X11_20 h0.1 (hF _ _ _ h0.2.2.2.2.2.1) ?_
  refine q_iload_n C dX11_guard_4 (n := 5) rfl rfl ?_
  refine q_callVp C dX11_guard_5 (n := 8) rfl m_X11_99 v_yX7_hasFile h0.2.2.2.2.2.2.1.1 ⟨by decide, rfl⟩ (c_X7_hasFile_e (w := w) (J := J) hI hF h0.2.2.2.2.2.2.1 v1 (by omega)) (Nat.le_of_ble_eq_true rfl) rfl rfl (Nat.le_of_ble_eq_true rfl) ⟨Nat.le_refl _, Nat.le_refl _⟩ (fun x3 h4 => ?_)
  obtain ⟨h1, h2⟩ := h4
  refine q_if_ne C 13 dX11_guard_8 (n := 11) rfl rfl (by omega) (fun h5 => ?_) (fun h5 => ?_)
  · refine q_aload_n C dX11_guard_13 (n := 14) rfl rfl ?_
    refine q_getR C dX11_guard_14 (n := 17) rfl f_X11_20 h0.1 (hF _ _ _ h0.2.2.2.2.2.1) ?_
    refine q_getR C dX11_guard_17 (n := 20) rfl f_X11_66 h0.2.2.2.2.2.2.1.1 (hF _ _ _ h0.2.2.2.2.2.2.1.2.1) ?_
    refine q_iload_n C dX11_guard_20 (n := 21) rfl rfl ?_
    refine q_aald C dX11_guard_21 (n := 22) rfl ⟨by decide, by decide⟩ h0.2.2.2.2.2.2.1.2.2.1 (by omega) (hF _ _ _ (h0.2.2.2.2.2.2.1.2.2.2.1 v1 (by omega) (by omega)).1) ?_
    refine q_astore_n C [.ref (w.2.1 + a), zi v1, .ref (w.2.1 + (a + 2 + 9 + 4 * (v1 : Int).toNat))] dX11_guard_22 (n := 23) rfl rfl rfl ?_
    refine q_aload_n C dX11_guard_23 (n := 24) rfl rfl ?_
    have g6 := zI.at hI (h0.2.2.2.2.2.2.1.2.2.2.1 v1 (by omega) (by omega)).2.2.2.2.2.2.2.2.2.2.2.2.2.2
    refine q_getI C dX11_guard_24 (n := 27) rfl f_X11_238 (h0.2.2.2.2.2.2.1.2.2.2.1 v1 (by omega) (by omega)).2.1 (v := M (a + 2 + 9 + 4 * (v1 : Int).toNat) 6) rfl ?_
    have gr := (p2.1 v1 (by omega) (by omega)).2
    refine q_if_le C 67 dX11_guard_27 (n := 30) rfl rfl (by omega) (fun h7 => ?_) (fun h7 => ?_)
    · refine q_aload_n C dX11_guard_67 (n := 68) rfl rfl ?_
      refine q_getI C dX11_guard_68 (n := 71) rfl f_X11_238 (h0.2.2.2.2.2.2.1.2.2.2.1 v1 (by omega) (by omega)).2.1 (v := M (a + 2 + 9 + 4 * (v1 : Int).toNat) 6) rfl ?_
      exact q_iret C dX11_guard_71 ⟨rfl, rfl⟩ (by rw [hPo]; exact ⟨M (a + 2 + 9 + 4 * (v1 : Int).toNat) 6, M, J, rfl, rfl, hI, hK0, (fun c k _ _ => rfl), (Or.inl ⟨⟨by omega, by omega, by omega⟩, rfl, Or.inl ⟨by omega, rfl, fun i => rfl⟩⟩)⟩)
    · refine q_aload_n C dX11_guard_30 (n := 31) rfl rfl ?_
      refine q_getI C dX11_guard_31 (n := 34) rfl f_X11_238 (h0.2.2.2.2.2.2.1.2.2.2.1 v1 (by omega) (by omega)).2.1 (v := M (a + 2 + 9 + 4 * (v1 : Int).toNat) 6) rfl ?_
      refine q_bipush C dX11_guard_34 (n := 36) rfl (x := 30) (by decide) ?_
      refine q_icmp_gt C 67 dX11_guard_36 (n := 39) rfl rfl (by omega) (fun h8 => ?_) (fun h8 => ?_)
      · refine q_aload_n C dX11_guard_67 (n := 68) rfl rfl ?_
        refine q_getI C dX11_guard_68 (n := 71) rfl f_X11_238 (h0.2.2.2.2.2.2.1.2.2.2.1 v1 (by omega) (by omega)).2.1 (v := M (a + 2 + 9 + 4 * (v1 : Int).toNat) 6) rfl ?_
        exact q_iret C dX11_guard_71 ⟨rfl, rfl⟩ (by rw [hPo]; exact ⟨M (a + 2 + 9 + 4 * (v1 : Int).toNat) 6, M, J, rfl, rfl, hI, hK0, (fun c k _ _ => rfl), (Or.inl ⟨⟨by omega, by omega, by omega⟩, rfl, Or.inl ⟨by omega, rfl, fun i => rfl⟩⟩)⟩)
      · refine q_aload_n C dX11_guard_39 (n := 40) rfl rfl ?_
        refine q_aload_n C dX11_guard_40 (n := 41) rfl rfl ?_
        refine q_getI C dX11_guard_41 (n := 44) rfl f_X11_238 (h0.2.2.2.2.2.2.1.2.2.2.1 v1 (by omega) (by omega)).2.1 (v := M (a + 2 + 9 + 4 * (v1 : Int).toNat) 6) rfl ?_
        refine q_putI C dX11_guard_44 (n := 47) rfl f_X11_35 h0.1 ⟨rfl, rfl⟩ (fun M9 (e10 : M9 = zup M a 6 (M (a + 2 + 9 + 4 * (v1 : Int).toNat) 6)) => ?_)
        have hI11 : zI G M9 := hI.put e10 h0.2.2.2.2.2.2.2.2.2.2.2.2.2.2.2.2.1 rfl (by omega)
        have hK12 := hK0.put e10 h0.2.2.2.2.2.2.2.2.2.2.2.2.2.2.2.2.1 (by decide)
        refine q_aload_n C dX11_guard_47 (n := 48) rfl rfl ?_
        refine q_getR C dX11_guard_48 (n := 51) rfl f_X11_241 (h0.2.2.2.2.2.2.1.2.2.2.1 v1 (by omega) (by omega)).2.1 (hF _ _ _ (h0.2.2.2.2.2.2.1.2.2.2.1 v1 (by omega) (by omega)).2.2.1) ?_
        refine q_aload_n C dX11_guard_51 (n := 52) rfl rfl ?_
        have g13 := zI.at hI (h0.2.2.2.2.2.2.1.2.2.2.1 v1 (by omega) (by omega)).2.2.2.2.2.2.2.2.2.2.2.2.2.1
        refine q_getI C dX11_guard_52 (n := 55) rfl f_X11_243 (h0.2.2.2.2.2.2.1.2.2.2.1 v1 (by omega) (by omega)).2.1 (v := M (a + 2 + 9 + 4 * (v1 : Int).toNat) 5) (zup_n e10 (zne_t (h0.2.2.2.2.2.2.1.2.2.2.1 v1 (by omega) (by omega)).2.2.2.2.2.2.2.2.2.2.2.2.2.1 h0.2.2.2.2.2.2.2.2.2.2.2.2.2.2.2.2.1 (by decide))) ?_
        refine q_aload_n C dX11_guard_55 (n := 56) rfl rfl ?_
        refine q_getR C dX11_guard_56 (n := 59) rfl f_X11_32 h0.1 (hF _ _ _ h0.2.2.2.2.2.2.2.2.2.2.2.2.2.1) ?_
        refine q_iconst C dX11_guard_59 (n := 60) rfl ?_
        refine q_aload_n C dX11_guard_60 (n := 61) rfl rfl ?_
        refine q_getI C dX11_guard_61 (n := 64) rfl f_X11_35 h0.1 (v := M (a + 2 + 9 + 4 * (v1 : Int).toNat) 6) (zup_s e10) ?_
        refine q_copyB C dX11_guard_64 (n := 67) rfl x_X11_246 (h0.2.2.2.2.2.2.1.2.2.2.1 v1 (by omega) (by omega)).2.2.2.1 h0.2.2.2.2.2.2.2.2.2.2.2.2.2.2.1 (by omega) (fun j => by have := zI.at hI11 ((h0.2.2.2.2.2.2.1.2.2.2.1 v1 (by omega) (by omega)).2.2.2.2.1 j); omega) (Nat.le_of_ble_eq_true rfl) (Nat.le_of_ble_eq_true rfl) (fun M14 e15 => ?_)
        have hI16 : zI G M14 := hI11.cp e15 (h0.2.2.2.2.2.2.1.2.2.2.1 v1 (by omega) (by omega)).2.2.2.2.1 h0.2.2.2.2.2.2.2.2.2.2.2.2.2.2.2.1 rfl (by omega)
        have hK17 := hK12.cp e15 h0.2.2.2.2.2.2.2.2.2.2.2.2.2.2.2.1 (by decide)
        refine q_aload_n C dX11_guard_67 (n := 68) rfl rfl ?_
        refine q_getI C dX11_guard_68 (n := 71) rfl f_X11_238 (h0.2.2.2.2.2.2.1.2.2.2.1 v1 (by omega) (by omega)).2.1 (v := M (a + 2 + 9 + 4 * (v1 : Int).toNat) 6) ((zcp_t e15 (h0.2.2.2.2.2.2.1.2.2.2.1 v1 (by omega) (by omega)).2.2.2.2.2.2.2.2.2.2.2.2.2.2 h0.2.2.2.2.2.2.2.2.2.2.2.2.2.2.2.1 (by decide)).trans (zup_n e10 (zne_t (h0.2.2.2.2.2.2.1.2.2.2.1 v1 (by omega) (by omega)).2.2.2.2.2.2.2.2.2.2.2.2.2.2 h0.2.2.2.2.2.2.2.2.2.2.2.2.2.2.2.2.1 (by decide)))) ?_
        exact q_iret C dX11_guard_71 ⟨rfl, rfl⟩ (by rw [hPo]; exact ⟨M (a + 2 + 9 + 4 * (v1 : Int).toNat) 6, M14, J, rfl, rfl, hI16, hK17, (fun c k h1 h2 => (zcp_p e15 (by omega) _).trans (zup_ne e10 h2)), (Or.inl ⟨⟨by omega, by omega, by omega⟩, rfl, Or.inr ⟨by omega, (zcp_p e15 (by omega) _).trans (zup_s e10), fun i i0 i1 => (zcp_at e15 (by omega)).trans (by rw [show M (a + 2 + 9 + 4 * v1.toNat) 5 + (i - 0) = M (a + 2 + 9 + 4 * v1.toNat) 5 + i by omega]; exact zup_p e10 (by omega) _)⟩⟩)⟩)
  · refine q_iconst C dX11_guard_11 (n := 12) rfl ?_
    exact q_iret C dX11_guard_12 ⟨rfl, rfl⟩ (by rw [hPo]; exact ⟨(-1), M, J, rfl, rfl, hI, hK0, (fun c k _ _ => rfl), (Or.inr ⟨by omega, rfl, rfl, fun i => rfl⟩)⟩)
theorem c_X11_guardAt_g {w : zWp} {T : zTl} {M : zMm} {J : zJm} {R : zRm'} {G : zGt} {F : zRm'} {a : Nat} (hI : zI G M) (hF : zF F R) (h0 : zHideSets T F G a) (v1 : Int) (p1 : -2147483648 ≤ v1 ∧ v1 ≤ 2147483647) : zCt w 1 0 0 yX11_guardAt cX11_guardAt 2 (some .int) [.ref (w.2.1 + a), zi v1] (T, M, J, R) (zPp T M J R (fun x => ((0 ≤ v1 ∧ v1 < M a 6) ∧ x = M (a + 29) v1 ∨ ¬ (0 ≤ v1 ∧ v1 < M a 6) ∧ x = -1))) := by
  refine zCt.of rfl (Nat.le_of_ble_eq_true rfl) ?_
  intro p e s m args below meth c C
  obtain ⟨Po, hPo⟩ : ∃ Po, Po = zPp T M J R (fun x => ((0 ≤ v1 ∧ v1 < M a 6) ∧ x = M (a + 29) v1 ∨ ¬ (0 ≤ v1 ∧ v1 < M a 6) ∧ x = -1)) := ⟨_, rfl⟩
  rw [← hPo]
  show zK w p e 1 0 0 s m args below meth c 2 T Po 0 [.ref (w.2.1 + a), zi v1] [] (T, M, J, R)
  refine q_iload_n C dX11_guardAt_0 (n := 1) rfl rfl ?_
  have J_4 : ∀ (u1 : Int), (-2147483648 ≤ u1 ∧ u1 ≤ 2147483647) → ((0 ≤ v1 ∧ v1 < M a 6) ∧ u1 = M (a + 29) v1 ∨ ¬ (0 ≤ v1 ∧ v1 < M a 6) ∧ u1 = -1) → zK w p e 1 0 0 s m args below meth c 2 T Po 22 [.null, .null] [zi u1] (T, M, J, R) := by
    intro u1 h2 h3
    exact q_iret C dX11_guardAt_22 ⟨rfl, rfl⟩ (by rw [hPo]; exact ⟨u1, rfl, rfl, by omega⟩)
  refine q_if_lt C 12 dX11_guardAt_1 (n := 4) rfl rfl (by omega) (fun h5 => ?_) (fun h5 => ?_)
  · refine q_iconst C dX11_guardAt_12 (n := 13) rfl ?_
    refine q_goto C 22 dX11_guardAt_13 rfl ?_
    exact zK.weak (J_4 (-1) (by omega) (by omega)) (zwk_n (zwk_n zwk_e))
  · refine q_iload_n C dX11_guardAt_4 (n := 5) rfl rfl ?_
    refine q_aload_n C dX11_guardAt_5 (n := 6) rfl rfl ?_
    have g6 := zI.at hI h0.2.2.2.2.2.2.2.2.2.2.2.2.2.2.2.2.1
    refine q_getI C dX11_guardAt_6 (n := 9) rfl f_X11_35 h0.1 (v := M a 6) rfl ?_
    refine q_icmp_lt C 16 dX11_guardAt_9 (n := 12) rfl rfl (by omega) (fun h7 => ?_) (fun h7 => ?_)
    · refine q_aload_n C dX11_guardAt_16 (n := 17) rfl rfl ?_
      refine q_getR C dX11_guardAt_17 (n := 20) rfl f_X11_32 h0.1 (hF _ _ _ h0.2.2.2.2.2.2.2.2.2.2.2.2.2.1) ?_
      refine q_iload_n C dX11_guardAt_20 (n := 21) rfl rfl ?_
      have g8 := zI.at hI (h0.2.2.2.2.2.2.2.2.2.2.2.2.2.2.2.1 v1)
      refine q_bald C dX11_guardAt_21 (n := 22) rfl h0.2.2.2.2.2.2.2.2.2.2.2.2.2.2.1 (by omega) (v := M (a + 29) v1) rfl ?_
      exact zK.weak (J_4 (M (a + 29) v1) (by omega) (by omega)) (zwk_n (zwk_n zwk_e))
    · refine q_iconst C dX11_guardAt_12 (n := 13) rfl ?_
      refine q_goto C 22 dX11_guardAt_13 rfl ?_
      exact zK.weak (J_4 (-1) (by omega) (by omega)) (zwk_n (zwk_n zwk_e))
