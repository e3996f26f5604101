/-! ===== the law's state: what stays (zVs, zVy), what changes (zVd) ===== -/
def zVs (a : Nat) (T U : zTl) (F : zRm') : Prop := zIn T a zL11 ∧ zIn T (a + 836) zL12 ∧ T[a + 919]? = some (53, 1) ∧ zIn U a zU11 ∧ zIn U (a + 836) zU12 ∧ zWu U ∧ U.length ≤ T.length ∧ (∃ R0 : zRm', zN11 R0 a ∧ ∀ (c : Nat) (z : Int), a ≤ c → c < a + 836 → ¬ (c = a ∧ z = 8 ∨ c = a + 30 ∧ z = 11 ∨ c = a + 69 ∧ z = 7 ∨ c = a + 783 ∧ z = 2) → F c z = R0 c z) ∧ (∀ (c : Nat) (z : Int), c = a ∧ z = 8 ∨ c = a + 30 ∧ z = 11 ∨ c = a + 69 ∧ z = 7 ∨ c = a + 783 ∧ z = 2 → F c z = none) ∧ (∃ R0 : zRm', zN12 R0 (a + 836) ∧ ∀ (c : Nat) (z : Int), a + 836 ≤ c → c < a + 836 + 83 → F c z = R0 c z) ∧ ∀ c k, T.length ≤ c → F c k = none
def zVp (T U : zTl) (F : zRm') (b : Nat) : Prop := zIn T b zL8 ∧ zIn U b zU8 ∧ (∃ R0 : zRm', zN8 R0 b ∧ ∀ (c : Nat) (z : Int), b ≤ c → c < b + 761 → ¬ (c = b + 1 ∧ z = 11 ∨ c = b + 40 ∧ z = 7 ∨ c = b + 754 ∧ z = 2) → F c z = R0 c z) ∧ ∀ (c : Nat) (z : Int), c = b + 1 ∧ z = 11 ∨ c = b + 40 ∧ z = 7 ∨ c = b + 754 ∧ z = 2 → F c z = none
def zVy (a : Nat) (T U : zTl) (F R : zRm') : Prop := R a 8 = none ∨ ∃ b, R a 8 = some b ∧ a + 920 ≤ b ∧ zVp T U F b
def zVd (a : Nat) (U : zTl) (F : zRm') (M : zMm) (R : zRm') : Prop := zI (zGu U) M ∧ zF F R ∧ zCI M a ∧ zFi M (a + 836) ∧ zFk M (a + 836) ∧ zMt M (a + 836)
theorem zVs.hs {a : Nat} {T U : zTl} {F : zRm'} (h : zVs a T U F) : zHideSets T F (zGu U) a := by
  obtain ⟨h1, h2, h3, h4, h5, h6, h7, ⟨R0, n1, n2⟩, h8, h9, h10⟩ := h
  exact zMk11 h1 (zGk11 h4) n1 n2 h8
theorem zVs.mo {a : Nat} {T U : zTl} {F : zRm'} (h : zVs a T U F) : zModel T F (zGu U) (a + 836) := by
  obtain ⟨h1, h2, h3, h4, h5, h6, h7, h8, h9, ⟨R0, n1, n2⟩, h10⟩ := h
  exact zMk12 h2 (zGk12 h5) n1 n2
theorem zVp.st {T U : zTl} {F : zRm'} {b : Nat} (h : zVp T U F b) : zStudy T F (zGu U) b := by
  obtain ⟨h1, h2, ⟨R0, n1, n2⟩, h3⟩ := h
  exact zMk8 h1 (zGk8 h2) n1 n2 h3
theorem zVs.g30 {a : Nat} {T U : zTl} {F : zRm'} (h : zVs a T U F) : ∀ (c : Nat) (k : Int), a ≤ c → c < a + 836 → (zGu U c k).1 < 30 := zLe.g h.2.2.2.1 zU11_len zLe_11
theorem zVs.len {a : Nat} {T U : zTl} {F : zRm'} (h : zVs a T U F) : a + 920 ≤ T.length := by
  have := (List.getElem?_eq_some_iff.mp h.2.2.1).1
  omega
theorem zVy.st {a : Nat} {T U : zTl} {F R : zRm'} (h : zVy a T U F R) : R a 8 = none ∨ ∃ sy, R a 8 = some sy ∧ zStudy T F (zGu U) sy := h.elim Or.inl (fun ⟨b, h1, _, h2⟩ => Or.inr ⟨b, h1, h2.st⟩)
theorem zVs.ext {a : Nat} {T U X : zTl} {F : zRm'} (h : zVs a T U F) : zVs a (T ++ X) U F := by
  obtain ⟨h1, h2, h3, h4, h5, h6, h7, h8, h9, h10, h11⟩ := h
  exact ⟨h1.ext, h2.ext, zlk2 rfl h3, h4, h5, h6, by rw [List.length_append]; omega, h8, h9, h10, fun c k q => h11 c k (by rw [List.length_append] at q; omega)⟩
theorem zVy.ext {a : Nat} {T U X : zTl} {F R : zRm'} (h : zVy a T U F R) : zVy a (T ++ X) U F R := h.elim Or.inl (fun ⟨b, h1, h2, h3, h4⟩ => Or.inr ⟨b, h1, h2, h3.ext, h4⟩)
theorem zVy.R {a : Nat} {T U : zTl} {F R R2 : zRm'} (h : zVy a T U F R) (e : R2 a 8 = R a 8) : zVy a T U F R2 := by
  unfold zVy
  rw [e]
  exact h
theorem zKp.le {G : zGt} {n n2 : Nat} {M M2 : zMm} (h : zKp G n M M2) (hn : n ≤ n2) : zKp G n2 M M2 := fun c k q => h c k (Nat.le_trans hn q)
/-- behind a call of the class -/
theorem zVd.cls {a : Nat} {T U : zTl} {F R R2 : zRm'} {M M2 : zMm} (h : zVd a U F M R) (hs : zVs a T U F) (hI : zI (zGu U) M2) (hk : zKp (zGu U) 30 M M2) (hc : zCI M2 a) (hF : zF F R2) : zVd a U F M2 R2 := by
  have hg := zGk12 hs.2.2.2.2.1
  obtain ⟨h1, h2, h3, h4, h5, h6⟩ := h
  exact ⟨hI, hF, hc, h4.cg (fun j => hk _ _ (by rw [(hg.2.2.2.2.1) j, zfG_t]; decide)), h5.cg (fun j => hk _ _ (by rw [(hg.2.2.2.2.2.1) j, zkG_t]; decide)), h6.cg (fun j => hk _ _ (by rw [(hg.2.2.2.2.2.2.2.2.2.2.2.2.2.2.2.2.2.2.2.2.2.2.2.2.2.2.2.2.2.2.2.1) j, zwG_t]; decide)) (fun j => hk _ _ (by rw [(hg.2.2.2.2.2.2.2.2.2.2.2.2.2.2.2.2.2.2.2.2.2.2.2.2.2.2.2.2.2.2.2.2.2.1) j]; decide))⟩
theorem zVd.cl2 {a n : Nat} {T U : zTl} {F R R2 : zRm'} {M M2 : zMm} (h : zVd a U F M R) (hs : zVs a T U F) (hI : zI (zGu U) M2) (hk : zKp (zGu U) n M M2) (hn : n ≤ 20) (hF : zF F R2) : zVd a U F M2 R2 := h.cls hs hI (hk.le (by omega)) (h.2.2.1.kp hs.hs hk hn) hF
/-- behind a call of the reference -/
theorem zVd.mod {a : Nat} {U : zTl} {F R : zRm'} {M M2 : zMm} {A : List Nat} {S : List Int} {P : List (Nat × Int)} (h : zVd a U F M R) (hI : zI (zGu U) M2) (hm : zMd (a + 836) A S P M M2) (hA : (A.all fun o => decide (o < 83)) = true) (hP : (P.all fun o => decide (o.1 < 83)) = true) (h4 : zFi M2 (a + 836)) (h5 : zFk M2 (a + 836)) (h6 : zMt M2 (a + 836)) : zVd a U F M2 R := ⟨hI, h.2.1, h.2.2.1.lo (fun c k q => hm.reg hA hP (by decide) c k (Or.inl (by omega))), h4, h5, h6⟩
/-- room: cells and slots behind it calls -/
def zVk (a : Nat) (R : zRm') (it kc nc : Nat) : Prop := kc ≤ 1681 + it ∧ nc ≤ 1108157 + 6 * it ∧ (R a 8 = none → kc ≤ 920 + it ∧ nc ≤ 943624 + 6 * it)
theorem zVk.R {a : Nat} {R R2 : zRm'} {it kc nc : Nat} (h : zVk a R it kc nc) (e : R2 a 8 = R a 8) : zVk a R2 it kc nc := by
  unfold zVk
  rw [e]
  exact h
theorem zVk.up {a : Nat} {R : zRm'} {it kc nc kc2 nc2 : Nat} (h : zVk a R it kc nc) (e : kc2 ≤ kc + 1 ∧ nc2 ≤ nc + 6) : zVk a R (it + 1) kc2 nc2 := ⟨by have := h.1; omega, by have := h.2.1; omega, fun q => by have := h.2.2 q; omega⟩
theorem zVk.mk {a b : Nat} {R R2 : zRm'} {it kc nc : Nat} (h : zVk a R it kc nc) (e : R a 8 = none) (e2 : R2 a 8 = some b) : zVk a R2 (it + 1) (kc + 761) (nc + 164533) := ⟨by have := (h.2.2 e).1; omega, by have := (h.2.2 e).2; omega, fun q => by rw [e2] at q; cases q⟩
/-! ===== the files of the class are those of the reference: told, lines, their lengths ===== -/
def zPqw (M : zMm) (p : Nat) (f : Int → Int) (o k : Int) : Prop := (0 ≤ M p 3 ∧ M p 3 ≤ 40) ∧ M p 4 = f (o + k) ∧ M p 3 = f (o + (4 + k)) ∧ ∀ l, 0 ≤ l → l < M p 3 → M (p + 2) (l + 1) - M (p + 2) l - 1 = f (o + (8 + 40 * k + l))
def zSfw (M : zMm) (p : Nat) (f : Int → Int) (o : Int) : Prop := ∀ k : Int, 0 ≤ k → k < 4 → zPqw M (p + 9 + 4 * k.toNat) f o k
def zTF (a : Nat) (M : zMm) : Prop := zSfw M (a + 2) (M (a + 836 + 2)) 0 ∧ ∀ q : Int, 0 ≤ q → q < 2 → zSfw M (a + 786 + 25 * q.toNat) (M (a + 836 + 3)) (173 * q)
theorem zPqw.cg {M M2 : zMm} {p : Nat} {f f2 : Int → Int} {o o2 k : Int} (h : zPqw M p f o k) (e : zSmw M M2 p) (ef : ∀ j, j = k ∨ j = 4 + k ∨ 8 + 40 * k ≤ j ∧ j < 48 + 40 * k → f2 (o2 + j) = f (o + j)) : zPqw M2 p f2 o2 k := by
  obtain ⟨h0, h1, h2, h3⟩ := h
  refine ⟨by rw [e.2.1]; exact h0, by rw [e.1, ef k (Or.inl rfl)]; exact h1, by rw [e.2.1, ef (4 + k) (Or.inr (Or.inl rfl))]; exact h2, fun l l0 l1 => ?_⟩
  rw [e.2.1] at l1
  rw [e.2.2, e.2.2, ef (8 + 40 * k + l) (Or.inr (Or.inr ⟨by omega, by omega⟩))]
  exact h3 l l0 l1
theorem zSfw.ou {a p r n : Nat} {M M2 : zMm} {f f2 : Int → Int} {o o2 : Int} (h : zSfw M p f o) (g : zOu a r n M M2) (hp : p = a + 2 ∨ p = a + 786 ∨ p = a + 811) (hd : p + 25 ≤ r ∨ r + n ≤ p + 9) (ef : ∀ j, 0 ≤ j → j < 168 → f2 (o2 + j) = f (o + j)) : zSfw M2 p f2 o2 := fun k k0 k1 => (h k k0 k1).cg (g.sm hp ⟨k0, k1⟩ (by omega)) (fun j hj => ef j (by omega) (by omega))
theorem zOu.mo {a r n : Nat} {M M1 M2 : zMm} (h : zOu a r n M M1) (lo : ∀ c k, c < a + 836 → M2 c k = M1 c k) : zOu a r n M M2 := h.tr (zOu.lo (fun c k _ q => lo c k q))
/-- what the class's call leaves: all files, the reference's rows -/
def zRw (a : Nat) (M M1 : zMm) : Prop := zOu a 0 0 M M1 ∧ (∀ j, M1 (a + 836 + 2) j = M (a + 836 + 2) j) ∧ (∀ j, M1 (a + 836 + 3) j = M (a + 836 + 3) j) ∧ (∀ j, M1 (a + 836 + 4) j = M (a + 836 + 4) j) ∧ ∀ j, M1 (a + 836 + 5) j = M (a + 836 + 5) j
theorem zRw.rf {a : Nat} {M : zMm} : zRw a M M := ⟨zOu.rf, fun _ => rfl, fun _ => rfl, fun _ => rfl, fun _ => rfl⟩
theorem zRw.lo {a : Nat} {M M1 : zMm} (g : ∀ c k, c < a + 920 → M1 c k = M c k) : zRw a M M1 := ⟨zOu.lo (fun c k _ q => g c k (by omega)), fun j => g _ _ (by omega), fun j => g _ _ (by omega), fun j => g _ _ (by omega), fun j => g _ _ (by omega)⟩
theorem zRw.tr {a : Nat} {M M1 M2 : zMm} (h : zRw a M M1) (g : zRw a M1 M2) : zRw a M M2 := ⟨h.1.tr g.1, fun j => (g.2.1 j).trans (h.2.1 j), fun j => (g.2.2.1 j).trans (h.2.2.1 j), fun j => (g.2.2.2.1 j).trans (h.2.2.2.1 j), fun j => (g.2.2.2.2 j).trans (h.2.2.2.2 j)⟩
theorem zTF.st {a : Nat} {M M1 M2 : zMm} (h : zTF a M) (g : zRw a M M1) (lo : ∀ c k, c < a + 836 → M2 c k = M1 c k) (m2 : ∀ j, M2 (a + 836 + 2) j = M1 (a + 836 + 2) j) (m3 : ∀ j, M2 (a + 836 + 3) j = M1 (a + 836 + 3) j) : zTF a M2 := ⟨h.1.ou (g.1.mo lo) (Or.inl rfl) (by omega) (fun j _ _ => (m2 _).trans (g.2.1 _)), fun q q0 q1 => (h.2 q q0 q1).ou (g.1.mo lo) (by omega) (by omega) (fun j _ _ => (m3 _).trans (g.2.2.1 _))⟩
/-- one file of the source has changed -/
theorem zTF.cur {a : Nat} {M M2 : zMm} {k : Int} (h : zTF a M) (hk : 0 ≤ k ∧ k ≤ 3) (g : zOu a (a + 2 + 9 + 4 * k.toNat) 4 M M2) (hp : zPqw M2 (a + 2 + 9 + 4 * k.toNat) (M2 (a + 836 + 2)) 0 k) (hf : ∀ j, j ≠ k → j ≠ 4 + k → ¬ (8 + 40 * k ≤ j ∧ j < 48 + 40 * k) → M2 (a + 836 + 2) j = M (a + 836 + 2) j) (m3 : ∀ j, M2 (a + 836 + 3) j = M (a + 836 + 3) j) : zTF a M2 := ⟨fun q q0 q1 => by
  by_cases z : q = k
  · rw [z]
    exact hp
  · exact (h.1 q q0 q1).cg (g.sm (Or.inl rfl) ⟨q0, q1⟩ (by omega)) (fun j hj => hf (0 + j) (by omega) (by omega) (by omega)), fun q q0 q1 => (h.2 q q0 q1).ou g (by omega) (by omega) (fun j _ _ => m3 _)⟩
theorem zFA.le {g : Int → Int} {n k x : Int} (h : zFA g n k x) : x ≤ 40 := by
  rcases h with ⟨h1, h2⟩ | ⟨h1, ⟨h2, h3⟩ | ⟨h2, b, l, h3, h4, h5⟩⟩ <;> omega
theorem zFA.n2 {g : Int → Int} {n k x : Int} (h : zFA g n k x) (hx : 0 ≤ x) : n ≤ 400 := by
  rcases h with ⟨h1, h2⟩ | ⟨h1, ⟨h2, h3⟩ | ⟨h2, b, l, h3, h4, h5⟩⟩ <;> omega
theorem zFA.r {g : Int → Int} {n k x : Int} (h : zFA g n k x) (hn : n ≤ 440) : -1440 ≤ x ∧ x ≤ 40 := by
  rcases h with ⟨h1, h2⟩ | ⟨h1, ⟨h2, h3⟩ | ⟨h2, b, l, h3, h4, h5⟩⟩
  · omega
  · omega
  · have hz : n < 1 ∨ 0 ≤ zTen g (n - 1).toNat := (Decidable.em (n < 1)).imp id (fun h => (zTen_le (i := n - 1) (j := n - 1) ⟨by omega, by omega⟩).1)
    rcases h4 with ⟨p1, p2⟩ | ⟨p1, p2⟩ <;> rcases h3 with ⟨q1, q2⟩ | ⟨q1, q2, q3, q4⟩ <;> omega
theorem zTF.file {a : Nat} {M M1 M2 : zMm} {k x n : Int} {g g2 : Int → Int} (h : zTF a M) (hk : 0 ≤ k ∧ k ≤ 3) (hx : 0 ≤ x ∧ x ≤ 40) (hc : zNf M1 (a + 2 + 9 + 4 * k.toNat) g n x) (ho : zOu a (a + 2 + 9 + 4 * k.toNat) 4 M M1) (e2 : ∀ j, M1 (a + 836 + 2) j = M (a + 836 + 2) j) (e3 : ∀ j, M1 (a + 836 + 3) j = M (a + 836 + 3) j) (lo : ∀ c k, c < a + 836 → M2 c k = M1 c k) (hm : zNg M2 M1 (a + 836) k x (fun l => zCn g2 l n.toNat) 40) (m3 : ∀ j, M2 (a + 836 + 3) j = M1 (a + 836 + 3) j) (hg : ∀ j, 0 ≤ j → j < n → g j = g2 j) : zTF a M2 := by
  obtain ⟨c1, c2, c3⟩ := hc
  obtain ⟨m1, m2, m4, m5⟩ := hm
  have l3 : M2 (a + 2 + 9 + 4 * k.toNat) 3 = x := (lo _ _ (by omega)).trans c2
  refine zTF.cur h hk (ho.mo lo) ⟨by omega, ?_, ?_, fun l l0 l1 => ?_⟩ (fun j j0 j1 j2 => (m5 j j0 j1 j2).trans (e2 j)) (fun j => (m3 j).trans (e3 j))
  · rw [Int.zero_add, m1]
    exact (lo _ _ (by omega)).trans c1
  · rw [Int.zero_add, m2]
    exact l3
  · rw [l3] at l1
    rw [Int.zero_add, m4 l l0 (by omega), lo _ _ (by omega), lo _ _ (by omega), c3 l l0 (by omega)]
    exact zCn_cg _ (fun j j0 j1 => hg j j0 (by omega))
theorem zTF.at {a : Nat} {M : zMm} {k : Int} (h : zTF a M) (hk : 0 ≤ k ∧ k ≤ 3) : M (a + 2 + 9 + 4 * k.toNat) 4 = M (a + 836 + 2) k ∧ M (a + 2 + 9 + 4 * k.toNat) 3 = M (a + 836 + 2) (4 + k) ∧ (0 ≤ M (a + 2 + 9 + 4 * k.toNat) 3 ∧ M (a + 2 + 9 + 4 * k.toNat) 3 ≤ 40) ∧ ∀ l, 0 ≤ l → l < M (a + 2 + 9 + 4 * k.toNat) 3 → M (a + 2 + 9 + 4 * k.toNat + 2) (l + 1) - M (a + 2 + 9 + 4 * k.toNat + 2) l - 1 = M (a + 836 + 2) (8 + 40 * k + l) := by
  obtain ⟨h0, h1, h2, h3⟩ := h.1 k hk.1 (by omega)
  rw [Int.zero_add] at h1 h2
  exact ⟨h1, h2, h0, fun l l0 l1 => by rw [h3 l l0 l1, Int.zero_add]⟩
theorem zTF.tot {a : Nat} {M : zMm} {k : Int} (h : zTF a M) (hci : zCI M a) (hk : 0 ≤ k ∧ k ≤ 3) : ∀ (n : Nat), (n : Int) ≤ M (a + 2 + 9 + 4 * k.toNat) 3 → M (a + 2 + 9 + 4 * k.toNat + 2) n = zSum (M (a + 836 + 2)) (8 + 40 * k) n + n
  | 0, _ => by
    have := (hci.1 k hk.1 (by omega)).1.2
    show M (a + 2 + 9 + 4 * k.toNat + 2) 0 = 0 + 0
    rw [this]
    rfl
  | n + 1, hn => by
    have ih := zTF.tot h hci hk n (by omega)
    have h3 := (h.at hk).2.2.2 n (by omega) (by omega)
    have e : zSum (M (a + 836 + 2)) (8 + 40 * k) (n + 1) = zSum (M (a + 836 + 2)) (8 + 40 * k) n + M (a + 836 + 2) (8 + 40 * k + (n : Int)) := rfl
    rw [e, ← h3, show ((n + 1 : Nat) : Int) = (n : Int) + 1 by omega]
    omega
theorem zTF.ea {a : Nat} {M M1 : zMm} {k l x y : Int} (h : zTF a M) (hci : zCI M a) (e2 : ∀ j, M1 (a + 836 + 2) j = M (a + 836 + 2) j) (et : ∀ j, 0 ≤ j → j < M a 1 → M (a + 1) j = M1 (a + 836 + 1) j) (hn : M1 (a + 836) 2 = M a 1) (p : zEA (M (a + 1)) (M a 1) (0 ≤ k ∧ k ≤ 3 ∧ M (a + 2 + 9 + 4 * k.toNat) 4 = 1) l (M (a + 2 + 9 + 4 * k.toNat) 3) (M (a + 2 + 9 + 4 * k.toNat + 2) (M (a + 2 + 9 + 4 * k.toNat) 3)) (M (a + 2 + 9 + 4 * k.toNat + 2) (l + 1) - M (a + 2 + 9 + 4 * k.toNat + 2) l) x) (q : zEA (M1 (a + 836 + 1)) (M1 (a + 836) 2) (0 ≤ k ∧ k ≤ 3 ∧ M1 (a + 836 + 2) k = 1) l (M1 (a + 836 + 2) (4 + k)) (zSum (M1 (a + 836 + 2)) (8 + 40 * k) (M1 (a + 836 + 2) (4 + k)).toNat + M1 (a + 836 + 2) (4 + k)) (M1 (a + 836 + 2) (8 + 40 * k + l) + 1) y) : x = y := by
  have e : M1 (a + 836 + 2) = M (a + 836 + 2) := funext e2
  rw [e, hn] at q
  refine zEA.eq p q et ⟨fun z => ⟨z.1, z.2.1, by rw [← (h.at ⟨z.1, z.2.1⟩).1]; exact z.2.2⟩, fun z => ⟨z.1, z.2.1, by rw [(h.at ⟨z.1, z.2.1⟩).1]; exact z.2.2⟩⟩ (fun z => ?_)
  obtain ⟨h1, h2, h3, h4⟩ := h.at ⟨z.1, z.2.1⟩
  have ht := zTF.tot h hci ⟨z.1, z.2.1⟩ (M (a + 836 + 2) (4 + k)).toNat (by omega)
  rw [show (((M (a + 836 + 2) (4 + k)).toNat : Nat) : Int) = M (a + 836 + 2) (4 + k) by omega] at ht
  refine ⟨h2, by rw [h2]; exact ht, fun l0 l1 => ?_⟩
  have := h4 l l0 l1
  omega
theorem zEA.le {g : Int → Int} {n l s t c x : Int} {h : Prop} (p : zEA g n h l s t c x) (hs : s ≤ 40) : x ≤ 40 := by
  rcases p with ⟨p1, p2⟩ | ⟨⟨p1, p2, p3⟩, b, p4, p5⟩ <;> omega
theorem zEA.r {g : Int → Int} {n l s t c x : Int} {h : Prop} (p : zEA g n h l s t c x) (hn : n ≤ 440) (hs : h → s ≤ 40) : -1440 ≤ x ∧ x ≤ 40 := by
  rcases p with ⟨p1, p2⟩ | ⟨⟨p1, p2, p3⟩, b, p4, p5⟩
  · omega
  · have := hs p1
    rcases p4 with ⟨q1, q2⟩ | ⟨q1, q2, q3, q4⟩ <;> omega
theorem zEA.sz {g : Int → Int} {n l s t c x : Int} {h : Prop} (p : zEA g n h l s t c x) (hx : 0 ≤ x) : 0 ≤ l ∧ (l = s ∧ x = s + 1 ∨ l < s ∧ x = s) := by
  rcases p with ⟨p1, p2⟩ | ⟨⟨p1, p2, p3⟩, b, p4, p5⟩ <;> omega
theorem zEA.l39 {g : Int → Int} {n l s t c x : Int} {h : Prop} (p : zEA g n h l s t c x) (hs : s ≤ 40) (hx : 0 ≤ x) : l ≤ 39 := by
  rcases p with ⟨p1, p2⟩ | ⟨⟨p1, p2, p3⟩, b, p4, p5⟩ <;> omega
theorem zTF.edit {a : Nat} {M M1 M2 : zMm} {k l x n : Int} (h : zTF a M) (hk : 0 ≤ k ∧ k ≤ 3) (hl : 0 ≤ l) (hx : M1 (a + 2 + 9 + 4 * k.toNat) 3 = x ∧ x ≤ 40) (hc : zChg M M1 (a + 2 + 9 + 4 * k.toNat) l n) (ho : zOu a (a + 2 + 9 + 4 * k.toNat) 4 M M1) (e2 : ∀ j, M1 (a + 836 + 2) j = M (a + 836 + 2) j) (e3 : ∀ j, M1 (a + 836 + 3) j = M (a + 836 + 3) j) (lo : ∀ c k, c < a + 836 → M2 c k = M1 c k) (hm : zR2 M1 M2 (a + 836 + 2) (8 + 40 * k + l) n (4 + k) x) (m3 : ∀ j, M2 (a + 836 + 3) j = M1 (a + 836 + 3) j) : zTF a M2 := by
  obtain ⟨h1, h2, h3, h4⟩ := h.at hk
  obtain ⟨c1, c2, c3, c4⟩ := hc
  obtain ⟨⟨m1, m2⟩, m4⟩ := hm
  have l3 : M2 (a + 2 + 9 + 4 * k.toNat) 3 = x := (lo _ _ (by omega)).trans hx.1
  refine zTF.cur h hk (ho.mo lo) ⟨by omega, ?_, ?_, fun j j0 j1 => ?_⟩ (fun j j0 j1 j2 => (m4 j (by omega) j1).trans (e2 j)) (fun j => (m3 j).trans (e3 j))
  · rw [Int.zero_add, m4 k (by omega) (by omega), e2, ← h1, ← c1]
    exact lo _ _ (by omega)
  · rw [Int.zero_add, m2]
    exact l3
  · rw [Int.zero_add, lo _ _ (by omega), lo _ _ (by omega)]
    rw [l3] at j1
    by_cases z : j = l
    · rw [z, m1]
      exact c4
    · rw [m4 _ (by omega) (by omega), e2, c3 j j0 (by omega) z]
      exact h4 j j0 (by omega)
theorem zTF.drop {a : Nat} {M M1 M2 : zMm} {k l : Int} (h : zTF a M) (hk : 0 ≤ k ∧ k ≤ 3) (hl : 0 ≤ l ∧ l < M (a + 2 + 9 + 4 * k.toNat) 3) (hc : zTko M M1 (a + 2 + 9 + 4 * k.toNat) l) (ho : zOu a (a + 2 + 9 + 4 * k.toNat) 4 M M1) (e2 : ∀ j, M1 (a + 836 + 2) j = M (a + 836 + 2) j) (e3 : ∀ j, M1 (a + 836 + 3) j = M (a + 836 + 3) j) (lo : ∀ c k, c < a + 836 → M2 c k = M1 c k) (hm : zDp M1 M2 (a + 836) k l (M1 (a + 836 + 2) (4 + k))) (m3 : ∀ j, M2 (a + 836 + 3) j = M1 (a + 836 + 3) j) : zTF a M2 := by
  obtain ⟨h1, h2, h3, h4⟩ := h.at hk
  obtain ⟨c1, c2, c3, c4⟩ := hc
  obtain ⟨m1, m2⟩ := hm
  rw [e2] at m1 m2
  have l3 : M2 (a + 2 + 9 + 4 * k.toNat) 3 = M (a + 2 + 9 + 4 * k.toNat) 3 - 1 := (lo _ _ (by omega)).trans c2
  refine zTF.cur h hk (ho.mo lo) ⟨by omega, ?_, ?_, fun j j0 j1 => ?_⟩ (fun j j0 j1 j2 => ?_) (fun j => (m3 j).trans (e3 j))
  · rw [Int.zero_add, m2 k (by omega), if_neg (by omega), e2, ← h1, ← c1]
    exact lo _ _ (by omega)
  · rw [Int.zero_add, m1, l3, h2]
  · rw [l3] at j1
    rw [Int.zero_add, lo _ _ (by omega), lo _ _ (by omega), m2 _ (by omega)]
    by_cases z : j < l
    · rw [if_neg (by omega), e2, c3 j j0 z]
      exact h4 j j0 (by omega)
    · rw [if_pos (by omega), e2, c4 j (by omega) (by omega), show 8 + 40 * k + j + 1 = 8 + 40 * k + (j + 1) by omega]
      exact h4 (j + 1) (by omega) (by omega)
  · rw [m2 j j1, if_neg (by omega)]
    exact e2 j
theorem zPqw.pc {M M1 M2 : zMm} {p q : Nat} {f f2 : Int → Int} {o o2 k : Int} (h : zPqw M q f o k) (hc : zPcw M M1 p q) (e : zSmw M1 M2 p) (ef : ∀ j, j = k ∨ j = 4 + k ∨ 8 + 40 * k ≤ j ∧ j < 48 + 40 * k → f2 (o2 + j) = f (o + j)) : zPqw M2 p f2 o2 k := by
  obtain ⟨h0, h1, h2, h3⟩ := h
  obtain ⟨c1, c2, c3⟩ := hc
  have e3 : M2 p 3 = M q 3 := e.2.1.trans c2
  refine ⟨by rw [e3]; exact h0, by rw [e.1, c1, ef k (Or.inl rfl)]; exact h1, by rw [e3, ef (4 + k) (Or.inr (Or.inl rfl))]; exact h2, fun l l0 l1 => ?_⟩
  rw [e3] at l1
  rw [e.2.2, e.2.2, c3 (l + 1) (by omega) (by omega), c3 l l0 (by omega), ef (8 + 40 * k + l) (Or.inr (Or.inr ⟨by omega, by omega⟩))]
  exact h3 l l0 l1
theorem zTF.img {a : Nat} {M M1 M2 : zMm} {q : Int} (h : zTF a M) (hq : 0 ≤ q ∧ q < 2) (hc : zScw M M1 (a + 786 + 25 * q.toNat) (a + 2)) (ho : zOu a (a + 786 + 25 * q.toNat) 25 M M1) (e2 : ∀ j, M1 (a + 836 + 2) j = M (a + 836 + 2) j) (e3 : ∀ j, M1 (a + 836 + 3) j = M (a + 836 + 3) j) (lo : ∀ c k, c < a + 836 → M2 c k = M1 c k) (hm : zImg M2 M1 (a + 836) q 173) (m2 : ∀ j, M2 (a + 836 + 2) j = M1 (a + 836 + 2) j) : zTF a M2 := by
  refine ⟨h.1.ou (ho.mo lo) (Or.inl rfl) (by omega) (fun j _ _ => (m2 _).trans (e2 _)), fun r r0 r1 => ?_⟩
  by_cases z : r = q
  · subst z
    intro k k0 k1
    refine (h.1 k k0 k1).pc (hc.2 k k0 k1) ⟨lo _ _ (by omega), lo _ _ (by omega), fun i => lo _ _ (by omega)⟩ (fun j hj => ?_)
    rw [hm, if_pos (by omega), e2, show 173 * r + j - 173 * r = 0 + j by omega]
  · refine (h.2 r r0 r1).ou (ho.mo lo) (by omega) (by omega) (fun j j0 j1 => ?_)
    rw [hm, if_neg (by omega), e3]
theorem zTF.rst {a : Nat} {M M1 M2 : zMm} {q : Int} (h : zTF a M) (hq : 0 ≤ q ∧ q < 2) (hc : zScw M M1 (a + 2) (a + 786 + 25 * q.toNat)) (ho : zOu a (a + 2) 25 M M1) (e2 : ∀ j, M1 (a + 836 + 2) j = M (a + 836 + 2) j) (e3 : ∀ j, M1 (a + 836 + 3) j = M (a + 836 + 3) j) (lo : ∀ c k, c < a + 836 → M2 c k = M1 c k) (hm : zRst M2 M1 (a + 836) q 173) (m3 : ∀ j, M2 (a + 836 + 3) j = M1 (a + 836 + 3) j) : zTF a M2 := by
  refine ⟨fun k k0 k1 => ?_, fun r r0 r1 => (h.2 r r0 r1).ou (ho.mo lo) (by omega) (by omega) (fun j _ _ => (m3 _).trans (e3 _))⟩
  refine (h.2 q hq.1 hq.2 k k0 k1).pc (hc.2 k k0 k1) ⟨lo _ _ (by omega), lo _ _ (by omega), fun i => lo _ _ (by omega)⟩ (fun j hj => ?_)
  rw [hm, if_pos (by omega), e3, Int.zero_add]
/-- what the class's call leaves of the reference's rows; the switches' cells change -/
theorem zTF.sw {a : Nat} {M M1 M2 : zMm} (h : zTF a M) (ho : zOu a (a + 2) 9 M M1) (e2 : ∀ j, M1 (a + 836 + 2) j = M (a + 836 + 2) j) (e3 : ∀ j, M1 (a + 836 + 3) j = M (a + 836 + 3) j) (lo : ∀ c k, c < a + 836 → M2 c k = M1 c k) (m2 : ∀ j, j < 168 → M2 (a + 836 + 2) j = M1 (a + 836 + 2) j) (m3 : ∀ j, M2 (a + 836 + 3) j = M1 (a + 836 + 3) j) : zTF a M2 := ⟨h.1.ou (ho.mo lo) (Or.inl rfl) (by omega) (fun j _ j1 => (m2 _ (by omega)).trans (e2 _)), fun q q0 q1 => (h.2 q q0 q1).ou (ho.mo lo) (by omega) (by omega) (fun j _ _ => (m3 _).trans (e3 _))⟩
theorem zTF.zero {a : Nat} {M : zMm} (hz : ∀ c k, (a ≤ c ∧ c < a + 30 ∨ a + 786 ≤ c) → M c k = 0) : zTF a M := by
  have pq : ∀ (p : Nat) (f : Int → Int) (o k : Int), (a ≤ p ∧ p + 3 < a + 30 ∨ a + 786 ≤ p) → (∀ j, f j = 0) → zPqw M p f o k := fun p f o k hp hf => by
    have h3 := hz p 3 (by omega)
    exact ⟨by omega, by rw [hz p 4 (by omega), hf], by rw [h3, hf], fun l l0 l1 => by omega⟩
  exact ⟨fun k k0 k1 => pq _ _ _ _ (by omega) (fun j => hz _ _ (by omega)), fun q q0 q1 k k0 k1 => pq _ _ _ _ (by omega) (fun j => hz _ _ (by omega))⟩
/-! ===== switches: how many, and the setting ===== -/
def zTW (a : Nat) (M : zMm) : Prop := (M (a + 2) 3 = M (a + 836 + 2) 168 ∧ M (a + 2) 4 = M (a + 836 + 2) 172) ∧ ∀ q : Int, 0 ≤ q → q < 2 → M (a + 786 + 25 * q.toNat) 3 = M (a + 836 + 3) (173 * q + 168) ∧ M (a + 786 + 25 * q.toNat) 4 = M (a + 836 + 3) (173 * q + 172)
theorem zTW.kept {a r n : Nat} {M M1 M2 : zMm} (h : zTW a M) (ho : zOu a r n M M1) (e3 : ∀ j, M1 (a + 836 + 3) j = M (a + 836 + 3) j) (lo : ∀ c k, c < a + 836 → M2 c k = M1 c k) (m3 : ∀ j, M2 (a + 836 + 3) j = M1 (a + 836 + 3) j) (q : Int) (hq : 0 ≤ q ∧ q < 2) (hd : a + 786 + 25 * q.toNat < r ∨ r + n ≤ a + 786 + 25 * q.toNat) : M2 (a + 786 + 25 * q.toNat) 3 = M2 (a + 836 + 3) (173 * q + 168) ∧ M2 (a + 786 + 25 * q.toNat) 4 = M2 (a + 836 + 3) (173 * q + 172) := by
  rw [m3, m3, e3, e3, lo _ _ (by omega), lo _ _ (by omega), ho.s3 (by omega) hd, ho.s4 (by omega) hd]
  exact h.2 q hq.1 hq.2
theorem zTW.pg {a r n : Nat} {M M1 M2 : zMm} (h : zTW a M) (ho : zOu a r n M M1) (hr : a + 11 ≤ r ∧ r + n ≤ a + 27 ∨ n = 0) (e2 : ∀ j, M1 (a + 836 + 2) j = M (a + 836 + 2) j) (e3 : ∀ j, M1 (a + 836 + 3) j = M (a + 836 + 3) j) (lo : ∀ c k, c < a + 836 → M2 c k = M1 c k) (m2 : ∀ j, 168 ≤ j → M2 (a + 836 + 2) j = M1 (a + 836 + 2) j) (m3 : ∀ j, M2 (a + 836 + 3) j = M1 (a + 836 + 3) j) : zTW a M2 := by
  refine ⟨?_, fun q q0 q1 => h.kept ho e3 lo m3 q ⟨q0, q1⟩ (by omega)⟩
  rw [m2 168 (by omega), m2 172 (by omega), e2, e2, lo _ _ (by omega), lo _ _ (by omega), ho.s3 (Or.inl rfl) (by omega), ho.s4 (Or.inl rfl) (by omega)]
  exact h.1
theorem zTW.st {a : Nat} {M M1 M2 : zMm} (h : zTW a M) (g : zRw a M M1) (lo : ∀ c k, c < a + 836 → M2 c k = M1 c k) (m2 : ∀ j, M2 (a + 836 + 2) j = M1 (a + 836 + 2) j) (m3 : ∀ j, M2 (a + 836 + 3) j = M1 (a + 836 + 3) j) : zTW a M2 := h.pg g.1 (Or.inr rfl) g.2.1 g.2.2.1 lo (fun j _ => m2 j) m3
theorem zTW.cur {a : Nat} {M M1 M2 : zMm} (h : zTW a M) (ho : zOu a (a + 2) 9 M M1) (e3 : ∀ j, M1 (a + 836 + 3) j = M (a + 836 + 3) j) (lo : ∀ c k, c < a + 836 → M2 c k = M1 c k) (hc : M1 (a + 2) 3 = M2 (a + 836 + 2) 168 ∧ M1 (a + 2) 4 = M2 (a + 836 + 2) 172) (m3 : ∀ j, M2 (a + 836 + 3) j = M1 (a + 836 + 3) j) : zTW a M2 := ⟨by rw [lo (a + 2) 3 (by omega), lo (a + 2) 4 (by omega)]; exact hc, fun q q0 q1 => h.kept ho e3 lo m3 q ⟨q0, q1⟩ (by omega)⟩
theorem zTW.img {a : Nat} {M M1 M2 : zMm} {q : Int} (h : zTW a M) (hq : 0 ≤ q ∧ q < 2) (hc : zScw M M1 (a + 786 + 25 * q.toNat) (a + 2)) (ho : zOu a (a + 786 + 25 * q.toNat) 25 M M1) (e2 : ∀ j, M1 (a + 836 + 2) j = M (a + 836 + 2) j) (e3 : ∀ j, M1 (a + 836 + 3) j = M (a + 836 + 3) j) (lo : ∀ c k, c < a + 836 → M2 c k = M1 c k) (hm : zImg M2 M1 (a + 836) q 173) (m2 : ∀ j, M2 (a + 836 + 2) j = M1 (a + 836 + 2) j) : zTW a M2 := by
  refine ⟨?_, fun r r0 r1 => ?_⟩
  · rw [m2, m2, e2, e2, lo _ _ (by omega), lo _ _ (by omega), ho.s3 (Or.inl rfl) (by omega), ho.s4 (Or.inl rfl) (by omega)]
    exact h.1
  · by_cases z : r = q
    · subst z
      rw [hm, hm, if_pos (by omega), if_pos (by omega), lo _ _ (by omega), lo _ _ (by omega), hc.1.1, hc.1.2, e2, e2, show 173 * r + 168 - 173 * r = 168 by omega, show 173 * r + 172 - 173 * r = 172 by omega]
      exact h.1
    · rw [hm, hm, if_neg (by omega), if_neg (by omega), e3, e3, lo _ _ (by omega), lo _ _ (by omega), ho.s3 (by omega) (by omega), ho.s4 (by omega) (by omega)]
      exact h.2 r r0 r1
theorem zTW.rst {a : Nat} {M M1 M2 : zMm} {q : Int} (h : zTW a M) (hq : 0 ≤ q ∧ q < 2) (hc : zScw M M1 (a + 2) (a + 786 + 25 * q.toNat)) (ho : zOu a (a + 2) 25 M M1) (e3 : ∀ j, M1 (a + 836 + 3) j = M (a + 836 + 3) j) (lo : ∀ c k, c < a + 836 → M2 c k = M1 c k) (hm : zRst M2 M1 (a + 836) q 173) (m3 : ∀ j, M2 (a + 836 + 3) j = M1 (a + 836 + 3) j) : zTW a M2 := by
  refine ⟨?_, fun r r0 r1 => h.kept ho e3 lo m3 r ⟨r0, r1⟩ (by omega)⟩
  rw [hm, hm, if_pos (by omega), if_pos (by omega), lo _ _ (by omega), lo _ _ (by omega), hc.1.1, hc.1.2, e3, e3]
  exact h.2 q hq.1 hq.2
theorem zTW.zero {a : Nat} {M : zMm} (hz : ∀ c k, (a ≤ c ∧ c < a + 30 ∨ a + 786 ≤ c) → M c k = 0) : zTW a M := ⟨⟨by rw [hz _ _ (by omega), hz _ _ (by omega)], by rw [hz _ _ (by omega), hz _ _ (by omega)]⟩, fun q q0 q1 => ⟨by rw [hz _ _ (by omega), hz _ _ (by omega)], by rw [hz _ _ (by omega), hz _ _ (by omega)]⟩⟩
/-! ===== the bytes of files, the words of LINES ===== -/
def zPy (M : zMm) (p : Nat) (fb : Int → Int) (o k : Int) : Prop := ∀ l, 0 ≤ l → l < M p 3 → ∀ i, 0 ≤ i → i < M (p + 2) (l + 1) - M (p + 2) l - 1 → (0 ≤ M (p + 2) l - l + i ∧ M (p + 2) l - l + i < 400) ∧ M (p + 1) (M (p + 2) l + i) = fb (o + (400 * k + (M (p + 2) l - l + i)))
def zSz (M : zMm) (p : Nat) (fb : Int → Int) (o : Int) : Prop := ∀ k : Int, 0 ≤ k → k < 4 → zPy M (p + 9 + 4 * k.toNat) fb o k ∧ zWv M (p + 9 + 4 * k.toNat)
def zTB (a : Nat) (M : zMm) : Prop := zSz M (a + 2) (M (a + 836 + 4)) 0 ∧ ∀ q : Int, 0 ≤ q → q < 2 → zSz M (a + 786 + 25 * q.toNat) (M (a + 836 + 5)) (1690 * q)
theorem zPy.cg {M M2 : zMm} {p : Nat} {f f2 : Int → Int} {o o2 k : Int} (h : zPy M p f o k) (e : zStw M M2 p) (ef : ∀ j, 400 * k ≤ j → j < 400 * k + 400 → f2 (o2 + j) = f (o + j)) : zPy M2 p f2 o2 k := by
  intro l l0 l1 i i0 i1
  rw [e.1] at l1
  rw [e.2.2, e.2.2] at i1
  obtain ⟨r1, r2⟩ := h l l0 l1 i i0 i1
  rw [e.2.2, e.2.1]
  exact ⟨r1, by rw [r2, ef _ (by omega) (by omega)]⟩
theorem zSz.ou {a p r n : Nat} {M M2 : zMm} {f f2 : Int → Int} {o o2 : Int} (h : zSz M p f o) (g : zOu a r n M M2) (hp : p = a + 2 ∨ p = a + 786 ∨ p = a + 811) (hd : p + 25 ≤ r ∨ r + n ≤ p + 9) (ef : ∀ j, 0 ≤ j → j < 1600 → f2 (o2 + j) = f (o + j)) : zSz M2 p f2 o2 := fun k k0 k1 => by
  have z := zSw.ofo g hp (q := k) ⟨k0, k1⟩ (by omega)
  exact ⟨(h k k0 k1).1.cg z.1 (fun j j0 j1 => ef j (by omega) (by omega)), (h k k0 k1).2.cg z.1 z.2.2⟩
theorem zTB.st {a r n : Nat} {M M1 M2 : zMm} (h : zTB a M) (g : zOu a r n M M1) (hr : a + 2 ≤ r ∧ r + n ≤ a + 11 ∨ r + n = 0) (e4 : ∀ j, M1 (a + 836 + 4) j = M (a + 836 + 4) j) (e5 : ∀ j, M1 (a + 836 + 5) j = M (a + 836 + 5) j) (lo : ∀ c k, c < a + 836 → M2 c k = M1 c k) (m4 : ∀ j, j < 1600 → M2 (a + 836 + 4) j = M1 (a + 836 + 4) j) (m5 : ∀ j, M2 (a + 836 + 5) j = M1 (a + 836 + 5) j) : zTB a M2 := ⟨h.1.ou (g.mo lo) (Or.inl rfl) (by omega) (fun j _ j1 => (m4 _ (by omega)).trans (e4 _)), fun q q0 q1 => (h.2 q q0 q1).ou (g.mo lo) (by omega) (by omega) (fun j _ _ => (m5 _).trans (e5 _))⟩
/-- one file has changed -/
theorem zTB.cur {a : Nat} {M M2 : zMm} {k : Int} (h : zTB a M) (hk : 0 ≤ k ∧ k ≤ 3) (g : zOu a (a + 2 + 9 + 4 * k.toNat) 4 M M2) (hp : zPy M2 (a + 2 + 9 + 4 * k.toNat) (M2 (a + 836 + 4)) 0 k) (hw : zWv M2 (a + 2 + 9 + 4 * k.toNat)) (hf : ∀ j, ¬ (400 * k ≤ j ∧ j < 400 * k + 400) → j < 1600 → 0 ≤ j → M2 (a + 836 + 4) j = M (a + 836 + 4) j) (m5 : ∀ j, M2 (a + 836 + 5) j = M (a + 836 + 5) j) : zTB a M2 := ⟨fun q q0 q1 => by
  by_cases z : q = k
  · rw [z]
    exact ⟨hp, hw⟩
  · have s := zSw.ofo g (Or.inl rfl) (q := q) ⟨q0, q1⟩ (by omega)
    exact ⟨(h.1 q q0 q1).1.cg s.1 (fun j j0 j1 => hf (0 + j) (by omega) (by omega) (by omega)), (h.1 q q0 q1).2.cg s.1 s.2.2⟩, fun q q0 q1 => (h.2 q q0 q1).ou g (by omega) (by omega) (fun j _ _ => m5 _)⟩
theorem zWv.lo {M1 M2 : zMm} {a p : Nat} (h : zWv M1 p) (lo : ∀ c k, c < a + 836 → M2 c k = M1 c k) (hp : p + 3 < a + 836) : zWv M2 p := h.cg ⟨lo _ _ (by omega), fun i => lo _ _ (by omega), fun i => lo _ _ (by omega)⟩ (fun i => lo _ _ (by omega))
theorem zTB.file {a : Nat} {M M1 M2 : zMm} {k n : Int} {g g2 : Int → Int} (h : zTB a M) (hk : 0 ≤ k ∧ k ≤ 3) (hn : n ≤ 400) (hc : zBe M1 (a + 2 + 9 + 4 * k.toNat) g n) (hw : zWv M1 (a + 2 + 9 + 4 * k.toNat)) (ho : zOu a (a + 2 + 9 + 4 * k.toNat) 4 M M1) (e4 : ∀ j, M1 (a + 836 + 4) j = M (a + 836 + 4) j) (e5 : ∀ j, M1 (a + 836 + 5) j = M (a + 836 + 5) j) (lo : ∀ c k, c < a + 836 → M2 c k = M1 c k) (hm : zNb M2 M1 (a + 836) k n g2) (m5 : ∀ j, M2 (a + 836 + 5) j = M1 (a + 836 + 5) j) (hg : ∀ j, 0 ≤ j → j < n → g j = g2 j) : zTB a M2 := by
  obtain ⟨m1, m2⟩ := hm
  refine zTB.cur h hk (ho.mo lo) (fun l l0 l1 i i0 i1 => ?_) (hw.lo lo (by omega)) (fun j j0 _ _ => (m2 j j0).trans (e4 j)) (fun j => (m5 j).trans (e5 j))
  rw [lo _ _ (by omega)] at l1
  rw [lo _ _ (by omega), lo _ _ (by omega)] at i1
  obtain ⟨c1, c2⟩ := hc l l0 l1
  rw [lo (a + 2 + 9 + 4 * k.toNat + 2) _ (by omega), lo (a + 2 + 9 + 4 * k.toNat + 1) _ (by omega)]
  obtain ⟨d1, d2, d3, d4⟩ := c2 (M1 (a + 2 + 9 + 4 * k.toNat + 2) l + i) (by omega) (by omega)
  have t : zTen g (M1 (a + 2 + 9 + 4 * k.toNat + 2) l + i).toNat = zTen g2 (M1 (a + 2 + 9 + 4 * k.toNat + 2) l + i).toNat := zTen_cg _ (fun j j0 j1 => hg j j0 (by omega))
  have u := zTen_up (g := g) (i := 0) (j := M1 (a + 2 + 9 + 4 * k.toNat + 2) l + i) (by omega)
  have hz : zTen g (0 : Int).toNat = 0 := rfl
  have e := m1 (M1 (a + 2 + 9 + 4 * k.toNat + 2) l + i) (by omega) d2 (by rw [← hg _ (by omega) d2]; exact d3)
  refine ⟨by omega, ?_⟩
  rw [d1, hg _ (by omega) d2, ← e]
  congr 1
  omega
theorem zTF.totI {a : Nat} {M : zMm} {k j : Int} (h : zTF a M) (hci : zCI M a) (hk : 0 ≤ k ∧ k ≤ 3) (hj : 0 ≤ j ∧ j ≤ M (a + 2 + 9 + 4 * k.toNat) 3) : M (a + 2 + 9 + 4 * k.toNat + 2) j = zSum (M (a + 836 + 2)) (8 + 40 * k) j.toNat + j := by
  have := h.tot hci hk j.toNat (by omega)
  rw [show ((j.toNat : Nat) : Int) = j by omega] at this
  exact this
theorem zTF.nn {a : Nat} {M : zMm} {k i j : Int} (h : zTF a M) (hci : zCI M a) (hk : 0 ≤ k ∧ k ≤ 3) (hp : ∀ j, 8 ≤ j → j < 168 → 0 ≤ M (a + 836 + 2) j) (hj : 0 ≤ i ∧ i ≤ j ∧ j ≤ M (a + 2 + 9 + 4 * k.toNat) 3) : 0 ≤ M (a + 2 + 9 + 4 * k.toNat + 2) i - i ∧ M (a + 2 + 9 + 4 * k.toNat + 2) i - i ≤ M (a + 2 + 9 + 4 * k.toNat + 2) j - j := by
  have h40 := (h.at hk).2.2.1
  have t1 := h.totI hci hk (j := i) (by omega)
  have t2 := h.totI hci hk (j := j) (by omega)
  have z0 := zSum_mo (g := M (a + 836 + 2)) (b := 8 + 40 * k) 0 i.toNat (fun t ht => hp _ (by omega) (by omega))
  have z1 := zSum_mo (g := M (a + 836 + 2)) (b := 8 + 40 * k) i.toNat (j.toNat - i.toNat) (fun t ht => hp _ (by omega) (by omega))
  rw [show i.toNat + (j.toNat - i.toNat) = j.toNat by omega] at z1
  rw [Nat.zero_add] at z0
  have e : zSum (M (a + 836 + 2)) (8 + 40 * k) 0 = 0 := rfl
  omega
theorem zTB.edit {a : Nat} {M M1 M2 : zMm} {k l n was : Int} {g g2 : Int → Int} (h : zTB a M) (hf : zTF a M) (hci : zCI M a) (hp : ∀ j, 8 ≤ j → j < 168 → 0 ≤ M (a + 836 + 2) j) (hk : 0 ≤ k ∧ k ≤ 3) (hl : 0 ≤ l ∧ l ≤ M (a + 2 + 9 + 4 * k.toNat) 3) (hc : zChg M M1 (a + 2 + 9 + 4 * k.toNat) l n) (hb : zEb M M1 (a + 2 + 9 + 4 * k.toNat) l n g) (hw : zWv M1 (a + 2 + 9 + 4 * k.toNat)) (hst : zEc M M1 (a + 2 + 9 + 4 * k.toNat) l n) (ho : zOu a (a + 2 + 9 + 4 * k.toNat) 4 M M1) (e2 : ∀ j, M1 (a + 836 + 2) j = M (a + 836 + 2) j) (e4 : ∀ j, M1 (a + 836 + 4) j = M (a + 836 + 4) j) (e5 : ∀ j, M1 (a + 836 + 5) j = M (a + 836 + 5) j) (lo : ∀ c k, c < a + 836 → M2 c k = M1 c k)
    (hm : zEf M1 M2 (a + 836) (400 * k + zSum (M1 (a + 836 + 2)) (8 + 40 * k) l.toNat) was n (400 * k + zSum (M1 (a + 836 + 2)) (8 + 40 * k) (M1 (a + 836 + 2) (4 + k)).toNat) g2) (hs : l < M1 (a + 836 + 2) (4 + k) ∧ was = M1 (a + 836 + 2) (8 + 40 * k + l) ∨ l = M1 (a + 836 + 2) (4 + k) ∧ was = 0) (m5 : ∀ j, M2 (a + 836 + 5) j = M1 (a + 836 + 5) j) (hg : ∀ j, 0 ≤ j → j < n → g j = g2 j) (hend : ∀ j, M1 (a + 2 + 9 + 4 * k.toNat + 2) j ≤ 401) (hn : 0 ≤ n) (hfi : zFi M (a + 836)) : zTB a M2 := by
  have E2 : M1 (a + 836 + 2) = M (a + 836 + 2) := funext e2
  have ft := hfi k hk.1 hk.2
  rw [E2] at hm hs
  obtain ⟨a1, a2, a3, a4⟩ := hf.at hk
  have tl := hf.totI hci hk hl
  have ts := hf.totI hci hk (j := M (a + 836 + 2) (4 + k)) (by omega)
  have nn := fun i j hj => hf.nn hci hk hp (i := i) (j := j) hj
  obtain ⟨b1, b2⟩ := hb
  obtain ⟨f1, f2, f3⟩ := hm
  obtain ⟨c1, c2, c3, c4⟩ := hc
  obtain ⟨s1, s2, s3⟩ := hst
  have nl := nn l (M (a + 836 + 2) (4 + k)) (by omega)
  -- the end of the file's bytes, before and after
  have en : M (a + 2 + 9 + 4 * k.toNat + 2) (M (a + 836 + 2) (4 + k)) - M (a + 836 + 2) (4 + k) + (n - was) ≤ 400 ∧ M (a + 2 + 9 + 4 * k.toNat + 2) l - l + was ≤ M (a + 2 + 9 + 4 * k.toNat + 2) (M (a + 836 + 2) (4 + k)) - M (a + 836 + 2) (4 + k) ∧ 0 ≤ was := by
    rcases hs with ⟨h1, h2⟩ | ⟨h1, h2⟩
    · have q1 := s3 (by omega) (M (a + 836 + 2) (4 + k)) h1 (by omega)
      have q2 := hend (M (a + 836 + 2) (4 + k))
      have q3 := a4 l hl.1 (by omega)
      have q4 := nn (l + 1) (M (a + 836 + 2) (4 + k)) (by omega)
      have q5 := nn l (l + 1) (by omega)
      omega
    · have q1 := s2 (by omega)
      have q2 := hend (l + 1)
      rw [← h1]
      omega
  refine zTB.cur h hk (ho.mo lo) (fun j j0 j1 i i0 i1 => ?_) (hw.lo lo (by omega)) (fun j jn _ j0 => (f3 j (by omega)).trans (e4 j)) (fun j => (m5 j).trans (e5 j))
  rw [lo _ _ (by omega)] at j1
  rw [lo _ _ (by omega), lo _ _ (by omega)] at i1
  rw [lo (a + 2 + 9 + 4 * k.toNat + 2) _ (by omega), lo (a + 2 + 9 + 4 * k.toNat + 1) _ (by omega)]
  by_cases z : j = l
  · subst z
    have sj := s1 j (Int.le_refl _)
    rw [b1 i i0 (by omega), hg i i0 (by omega), ← f1 i i0 (by omega), sj]
    refine ⟨by omega, ?_⟩
    congr 1
    omega
  · have q := c3 j j0 j1 z
    rw [b2 j j0 j1 z i i0 (by omega)]
    have o1 : j < M (a + 2 + 9 + 4 * k.toNat) 3 := by omega
    obtain ⟨r1, r2⟩ := (h.1 k hk.1 (by omega)).1 j j0 o1 i i0 (by omega)
    have m3 := nn (j + 1) (M (a + 836 + 2) (4 + k)) (by omega)
    rw [r2, ← e4]
    by_cases z2 : l < j
    · have sj := s3 (by omega) j z2 (by omega)
      have m1 := nn (l + 1) j (by omega)
      have a5 := a4 l hl.1 (by omega)
      rw [← f2 _ (by omega) (by omega), sj]
      refine ⟨by omega, ?_⟩
      congr 1
      omega
    · have sj := s1 j (by omega)
      have m1 := nn (j + 1) l (by omega)
      rw [sj, f3 _ (by omega)]
      exact ⟨r1, rfl⟩
theorem zTB.drop {a : Nat} {M M1 M2 : zMm} {k l : Int} (h : zTB a M) (hf : zTF a M) (hci : zCI M a) (hp : ∀ j, 8 ≤ j → j < 168 → 0 ≤ M (a + 836 + 2) j) (hk : 0 ≤ k ∧ k ≤ 3) (hl : 0 ≤ l ∧ l < M (a + 2 + 9 + 4 * k.toNat) 3) (hc : zTko M M1 (a + 2 + 9 + 4 * k.toNat) l) (hb : zTb M M1 (a + 2 + 9 + 4 * k.toNat) l) (hw : zWv M1 (a + 2 + 9 + 4 * k.toNat)) (hst : zTc M M1 (a + 2 + 9 + 4 * k.toNat) l) (ho : zOu a (a + 2 + 9 + 4 * k.toNat) 4 M M1) (e2 : ∀ j, M1 (a + 836 + 2) j = M (a + 836 + 2) j) (e4 : ∀ j, M1 (a + 836 + 4) j = M (a + 836 + 4) j) (e5 : ∀ j, M1 (a + 836 + 5) j = M (a + 836 + 5) j) (lo : ∀ c k, c < a + 836 → M2 c k = M1 c k)
    (hm : zMv M2 M1 (a + 836) (400 * k + zSum (M1 (a + 836 + 2)) (8 + 40 * k) l.toNat + M1 (a + 836 + 2) (8 + 40 * k + l)) (400 * k + zSum (M1 (a + 836 + 2)) (8 + 40 * k) (M1 (a + 836 + 2) (4 + k)).toNat) (0 - M1 (a + 836 + 2) (8 + 40 * k + l))) (m5 : ∀ j, M2 (a + 836 + 5) j = M1 (a + 836 + 5) j) (hend : ∀ j, M (a + 2 + 9 + 4 * k.toNat + 2) j ≤ 401) : zTB a M2 := by
  have E2 : M1 (a + 836 + 2) = M (a + 836 + 2) := funext e2
  rw [E2] at hm
  obtain ⟨a1, a2, a3, a4⟩ := hf.at hk
  have tl := hf.totI hci hk (j := l) (by omega)
  have ts := hf.totI hci hk (j := M (a + 836 + 2) (4 + k)) (by omega)
  have nn := fun i j hj => hf.nn hci hk hp (i := i) (j := j) hj
  obtain ⟨b1, b2⟩ := hb
  obtain ⟨f1, f2⟩ := hm
  obtain ⟨c1, c2, c3, c4⟩ := hc
  obtain ⟨s1, s2⟩ := hst
  have a5 := a4 l hl.1 hl.2
  have nl := nn l (l + 1) (by omega)
  have nl2 := nn (l + 1) (M (a + 836 + 2) (4 + k)) (by omega)
  have he := hend (M (a + 836 + 2) (4 + k))
  refine zTB.cur h hk (ho.mo lo) (fun j j0 j1 i i0 i1 => ?_) (hw.lo lo (by omega)) (fun j jn _ j0 => (f2 j (by omega)).trans (e4 j)) (fun j => (m5 j).trans (e5 j))
  rw [lo _ _ (by omega)] at j1
  rw [lo _ _ (by omega), lo _ _ (by omega)] at i1
  rw [lo (a + 2 + 9 + 4 * k.toNat + 2) _ (by omega), lo (a + 2 + 9 + 4 * k.toNat + 1) _ (by omega)]
  by_cases z : j < l
  · have q := c3 j j0 z
    rw [b1 j j0 z i i0 (by omega)]
    obtain ⟨r1, r2⟩ := (h.1 k hk.1 (by omega)).1 j j0 (by omega) i i0 (by omega)
    have sj := s1 j (by omega)
    have m1 := nn (j + 1) l (by omega)
    rw [r2, ← e4, sj, f2 _ (by omega)]
    exact ⟨r1, rfl⟩
  · have q := c4 j (by omega) j1
    rw [b2 j (by omega) j1 i i0 (by omega)]
    obtain ⟨r1, r2⟩ := (h.1 k hk.1 (by omega)).1 (j + 1) (by omega) (by omega) i i0 (by omega)
    have m1 := nn (l + 1) (j + 1) (by omega)
    have m2 := nn (j + 1 + 1) (M (a + 836 + 2) (4 + k)) (by omega)
    have sj : M1 (a + 2 + 9 + 4 * k.toNat + 2) j = M (a + 2 + 9 + 4 * k.toNat + 2) (j + 1) - (M (a + 2 + 9 + 4 * k.toNat + 2) (l + 1) - M (a + 2 + 9 + 4 * k.toNat + 2) l) := by
      by_cases z2 : j = l
      · rw [z2, s1 l (Int.le_refl _)]
        omega
      · exact s2 j (by omega) (by omega)
    rw [r2, ← e4, ← f1 _ (by omega) (by omega), sj]
    refine ⟨by omega, ?_⟩
    congr 1
    omega
theorem zPy.pd {M M1 M2 : zMm} {p q : Nat} {f f2 : Int → Int} {o o2 k : Int} (h : zPy M q f o k) (hc : zPcw M M1 p q) (hd : zPd M M1 p q) (e : zSw M1 M2 p) (h40 : M q 3 ≤ 40) (hb : ∀ j, 0 ≤ M (q + 2) j ∧ M (q + 2) j ≤ 401) (ef : ∀ j, 400 * k ≤ j → j < 400 * k + 400 → f2 (o2 + j) = f (o + j)) : zPy M2 p f2 o2 k := by
  intro l l0 l1 i i0 i1
  rw [e.1.1, hc.2.1] at l1
  rw [e.1.2.2, e.1.2.2, hc.2.2 l l0 (by omega), hc.2.2 (l + 1) (by omega) (by omega)] at i1
  obtain ⟨r1, r2⟩ := h l l0 l1 i i0 i1
  have b1 := hb l
  have b2 := hb (l + 1)
  rw [e.1.2.2, e.1.2.1, hc.2.2 l l0 (by omega), hd.2.1 _ (by omega) (by omega)]
  exact ⟨r1, by rw [r2, ef _ (by omega) (by omega)]⟩
theorem zWv.pd {M M1 M2 : zMm} {p q : Nat} (h : zWv M q) (hc : zPcw M M1 p q) (hd : zPd M M1 p q) (e : zSw M1 M2 p) (h40 : M q 3 ≤ 40) (hb : ∀ j, 0 ≤ M (q + 2) j ∧ M (q + 2) j ≤ 401) : zWv M2 p := by
  intro l l0 l1 l2
  rw [e.1.1, hc.2.1] at l1
  rw [e.1.2.2, e.1.2.2, hc.2.2 l l0 (by omega), hc.2.2 (l + 1) (by omega) (by omega)] at l2 ⊢
  have b1 := hb l
  have b2 := hb (l + 1)
  have w := h l l0 l1 l2
  have el : zLb (M2 (p + 1)) (M (q + 2) l) (M (q + 2) (l + 1) - 1 - M (q + 2) l) = zLb (M (q + 1)) (M (q + 2) l) (M (q + 2) (l + 1) - 1 - M (q + 2) l) := zClip_cg (fun j j0 j1 => by
    show M2 (p + 1) _ = M (q + 1) _
    rw [e.1.2.1, hd.2.1 _ (by omega) (by omega)])
  rw [el, e.2.2, hd.2.2 l l0 (by omega)]
  exact w
theorem zTB.img {a : Nat} {M M1 M2 : zMm} {q : Int} (h : zTB a M) (hf : zTF a M) (hq : 0 ≤ q ∧ q < 2) (hc : zScw M M1 (a + 786 + 25 * q.toNat) (a + 2)) (hd : zSe M M1 (a + 786 + 25 * q.toNat) (a + 2) 4) (ho : zOu a (a + 786 + 25 * q.toNat) 25 M M1) (hb : ∀ k : Int, 0 ≤ k → k < 4 → ∀ j, 0 ≤ M (a + 2 + 9 + 4 * k.toNat + 2) j ∧ M (a + 2 + 9 + 4 * k.toNat + 2) j ≤ 401) (e4 : ∀ j, M1 (a + 836 + 4) j = M (a + 836 + 4) j) (e5 : ∀ j, M1 (a + 836 + 5) j = M (a + 836 + 5) j) (lo : ∀ c k, c < a + 836 → M2 c k = M1 c k) (hm : zIb M2 M1 (a + 836) q 1690) (m4 : ∀ j, M2 (a + 836 + 4) j = M1 (a + 836 + 4) j) : zTB a M2 := by
  refine ⟨h.1.ou (ho.mo lo) (Or.inl rfl) (by omega) (fun j _ _ => (m4 _).trans (e4 _)), fun r r0 r1 => ?_⟩
  by_cases z : r = q
  · subst z
    intro k k0 k1
    have s : zSw M1 M2 (a + 786 + 25 * r.toNat + 9 + 4 * k.toNat) := ⟨⟨lo _ _ (by omega), fun i => lo _ _ (by omega), fun i => lo _ _ (by omega)⟩, ⟨lo _ _ (by omega), lo _ _ (by omega)⟩, fun i => lo _ _ (by omega)⟩
    exact ⟨(h.1 k k0 k1).1.pd (hc.2 k k0 k1) (hd k k0 k1) s (hf.at ⟨k0, by omega⟩).2.2.1.2 (hb k k0 k1) (fun j j0 j1 => by rw [hm, if_pos (by omega), e4, show 1690 * r + j - 1690 * r = 0 + j by omega]), (h.1 k k0 k1).2.pd (hc.2 k k0 k1) (hd k k0 k1) s (hf.at ⟨k0, by omega⟩).2.2.1.2 (hb k k0 k1)⟩
  · refine (h.2 r r0 r1).ou (ho.mo lo) (by omega) (by omega) (fun j j0 j1 => ?_)
    rw [hm, if_neg (by omega), e5]
theorem zTB.rst {a : Nat} {M M1 M2 : zMm} {q : Int} (h : zTB a M) (hf : zTF a M) (hq : 0 ≤ q ∧ q < 2) (hc : zScw M M1 (a + 2) (a + 786 + 25 * q.toNat)) (hd : zSe M M1 (a + 2) (a + 786 + 25 * q.toNat) 4) (ho : zOu a (a + 2) 25 M M1) (hb : ∀ k : Int, 0 ≤ k → k < 4 → ∀ j, 0 ≤ M (a + 786 + 25 * q.toNat + 9 + 4 * k.toNat + 2) j ∧ M (a + 786 + 25 * q.toNat + 9 + 4 * k.toNat + 2) j ≤ 401) (e5 : ∀ j, M1 (a + 836 + 5) j = M (a + 836 + 5) j) (lo : ∀ c k, c < a + 836 → M2 c k = M1 c k) (hm : zRb M2 M1 (a + 836) q 1690) (m5 : ∀ j, M2 (a + 836 + 5) j = M1 (a + 836 + 5) j) : zTB a M2 := by
  refine ⟨fun k k0 k1 => ?_, fun r r0 r1 => (h.2 r r0 r1).ou (ho.mo lo) (by omega) (by omega) (fun j _ _ => (m5 _).trans (e5 _))⟩
  have s : zSw M1 M2 (a + 2 + 9 + 4 * k.toNat) := ⟨⟨lo _ _ (by omega), fun i => lo _ _ (by omega), fun i => lo _ _ (by omega)⟩, ⟨lo _ _ (by omega), lo _ _ (by omega)⟩, fun i => lo _ _ (by omega)⟩
  have h40 := (hf.2 q hq.1 hq.2 k k0 k1).1.2
  exact ⟨(h.2 q hq.1 hq.2 k k0 k1).1.pd (hc.2 k k0 k1) (hd k k0 k1) s h40 (hb k k0 k1) (fun j j0 j1 => by rw [hm, if_pos (by omega), e5, Int.zero_add]), (h.2 q hq.1 hq.2 k k0 k1).2.pd (hc.2 k k0 k1) (hd k k0 k1) s h40 (hb k k0 k1)⟩
theorem zTB.zero {a : Nat} {M : zMm} (hz : ∀ c k, (a ≤ c ∧ c < a + 30 ∨ a + 786 ≤ c) → M c k = 0) : zTB a M := by
  have pq : ∀ (p : Nat) (f : Int → Int) (o k : Int), (a ≤ p ∧ p + 3 < a + 30 ∨ a + 786 ≤ p) → zPy M p f o k ∧ zWv M p := fun p f o k hp => by
    have h3 := hz p 3 (by omega)
    exact ⟨fun l l0 l1 => by omega, fun l l0 l1 => by omega⟩
  exact ⟨fun k k0 k1 => pq _ _ _ _ (by omega), fun q q0 q1 k k0 k1 => pq _ _ _ _ (by omega)⟩
/-- nextOf: the words of the class are those of the reference's lines -/
theorem zTB.pw {a : Nat} {M : zMm} {k : Int} (h : zTB a M) (hf : zTF a M) (hci : zCI M a) (hp : ∀ j, 8 ≤ j → j < 168 → 0 ≤ M (a + 836 + 2) j) (hk : 0 ≤ k ∧ k ≤ 3) : ∀ j, 0 ≤ j → j < M (a + 836 + 2) (4 + k) → zRole (zLb (M (a + 836 + 4)) (400 * k + zSum (M (a + 836 + 2)) (8 + 40 * k) j.toNat) (M (a + 836 + 2) (8 + 40 * k + j))) (M (a + 836 + 2) (8 + 40 * k + j)) (M (a + 2 + 9 + 4 * k.toNat + 3) j) := fun j j0 j1 => by
  obtain ⟨a1, a2, a3, a4⟩ := hf.at hk
  have q := a4 j j0 (by omega)
  have p0 := hp (8 + 40 * k + j) (by omega) (by omega)
  have tj := hf.totI hci hk (j := j) (by omega)
  have w := (h.1 k hk.1 (by omega)).2 j j0 (by omega) (by omega)
  rw [show M (a + 2 + 9 + 4 * k.toNat + 2) (j + 1) - 1 - M (a + 2 + 9 + 4 * k.toNat + 2) j = M (a + 836 + 2) (8 + 40 * k + j) by omega] at w
  have el : zLb (M (a + 836 + 4)) (400 * k + zSum (M (a + 836 + 2)) (8 + 40 * k) j.toNat) (M (a + 836 + 2) (8 + 40 * k + j)) = zLb (M (a + 2 + 9 + 4 * k.toNat + 1)) (M (a + 2 + 9 + 4 * k.toNat + 2) j) (M (a + 836 + 2) (8 + 40 * k + j)) := zClip_cg (fun i i0 i1 => by
    have e := ((h.1 k hk.1 (by omega)).1 j j0 (by omega) i i0 (by omega)).2
    show M (a + 836 + 4) _ = M (a + 2 + 9 + 4 * k.toNat + 1) _
    rw [e]
    congr 1
    omega)
  rw [el]
  exact w
/-! ===== the files' guards, the NAME told ===== -/
def zGs (M : zMm) (p : Nat) : Prop := ∀ k : Int, 0 ≤ k → k < 4 → zGp M (p + 9 + 4 * k.toNat)
def zNM (a : Nat) (M : zMm) : Prop := M a 6 = M (a + 836) 13 ∧ ∀ i, 0 ≤ i → i < M a 6 → M (a + 29) i = M (a + 836 + 8) i
def zTG (a : Nat) (M : zMm) : Prop := (zGs M (a + 2) ∧ ∀ q : Int, 0 ≤ q → q < 2 → zGs M (a + 786 + 25 * q.toNat)) ∧ zNM a M
theorem zGs.ou {a p r n : Nat} {M M2 : zMm} (h : zGs M p) (g : zOu a r n M M2) (hp : p = a + 2 ∨ p = a + 786 ∨ p = a + 811) (hd : p + 25 ≤ r ∨ r + n ≤ p + 9) : zGs M2 p := fun k k0 k1 => (h k k0 k1).cg (zSw.ofo g hp (q := k) ⟨k0, k1⟩ (by omega))
theorem zNM.cg {a : Nat} {M M1 M2 : zMm} (h : zNM a M) (c : M1 a 6 = M a 6 ∧ ∀ j, M1 (a + 29) j = M (a + 29) j) (eg : M1 (a + 836) 13 = M (a + 836) 13 ∧ ∀ j, M1 (a + 836 + 8) j = M (a + 836 + 8) j) (lo : ∀ c k, c < a + 836 → M2 c k = M1 c k) (m : M2 (a + 836) 13 = M1 (a + 836) 13 ∧ ∀ j, M2 (a + 836 + 8) j = M1 (a + 836 + 8) j) : zNM a M2 := by
  have l6 := lo a 6 (by omega)
  have h1 := h.1
  have c1 := c.1
  have e1 := eg.1
  have m1 := m.1
  refine ⟨by omega, fun i i0 i1 => ?_⟩
  rw [lo _ _ (by omega), m.2, c.2, eg.2]
  exact h.2 i i0 (by omega)
theorem zTG.st {a r n : Nat} {M M1 M2 : zMm} (h : zTG a M) (g : zOu a r n M M1) (hr : a + 2 ≤ r ∧ r + n ≤ a + 11 ∨ r + n = 0) (lo : ∀ c k, c < a + 836 → M2 c k = M1 c k) (nm : zNM a M2) : zTG a M2 := ⟨⟨h.1.1.ou (g.mo lo) (Or.inl rfl) (by omega), fun q q0 q1 => (h.1.2 q q0 q1).ou (g.mo lo) (by omega) (by omega)⟩, nm⟩
theorem zSw.lo {M1 M2 : zMm} {a p : Nat} (lo : ∀ c k, c < a + 836 → M2 c k = M1 c k) (hp : p + 3 < a + 836) : zSw M1 M2 p := ⟨⟨lo _ _ (by omega), fun i => lo _ _ (by omega), fun i => lo _ _ (by omega)⟩, ⟨lo _ _ (by omega), lo _ _ (by omega)⟩, fun i => lo _ _ (by omega)⟩
theorem zTG.cur {a : Nat} {M M1 M2 : zMm} {k : Int} (h : zTG a M) (hk : 0 ≤ k ∧ k ≤ 3) (hp : zGp M1 (a + 2 + 9 + 4 * k.toNat)) (g : zOu a (a + 2 + 9 + 4 * k.toNat) 4 M M1) (lo : ∀ c k, c < a + 836 → M2 c k = M1 c k) (nm : zNM a M2) : zTG a M2 := ⟨⟨fun q q0 q1 => by
  by_cases z : q = k
  · rw [z]
    exact hp.cg (zSw.lo lo (by omega))
  · exact (h.1.1 q q0 q1).cg (zSw.ofo (g.mo lo) (Or.inl rfl) (q := q) ⟨q0, q1⟩ (by omega)), fun q q0 q1 => (h.1.2 q q0 q1).ou (g.mo lo) (by omega) (by omega)⟩, nm⟩
theorem zGp.pd {M M1 M2 : zMm} {p q : Nat} (h : zGp M q) (hc : zPcw M M1 p q) (hd : zPd M M1 p q) (e : zSw M1 M2 p) (h40 : M q 3 ≤ 40) (hb : ∀ j, 0 ≤ M (q + 2) j ∧ M (q + 2) j ≤ 401) : zGp M2 p := by
  have t : zGp M1 p := by
    unfold zGp
    rw [hc.2.1, hd.1.1, hd.1.2]
    exact zGc.cg h (fun l _ _ => hb l) (fun j j0 j1 => hd.2.1 j j0 j1) (fun l l0 l1 => hc.2.2 l l0 (by omega)) (fun l l0 l1 => hd.2.2 l l0 (by omega))
  exact t.cg e
theorem zTG.img {a : Nat} {M M1 M2 : zMm} {q : Int} (h : zTG a M) (hf : zTF a M) (hq : 0 ≤ q ∧ q < 2) (hc : zScw M M1 (a + 786 + 25 * q.toNat) (a + 2)) (hd : zSe M M1 (a + 786 + 25 * q.toNat) (a + 2) 4) (ho : zOu a (a + 786 + 25 * q.toNat) 25 M M1) (hb : ∀ k : Int, 0 ≤ k → k < 4 → ∀ j, 0 ≤ M (a + 2 + 9 + 4 * k.toNat + 2) j ∧ M (a + 2 + 9 + 4 * k.toNat + 2) j ≤ 401) (lo : ∀ c k, c < a + 836 → M2 c k = M1 c k) (nm : zNM a M2) : zTG a M2 := by
  refine ⟨⟨h.1.1.ou (ho.mo lo) (Or.inl rfl) (by omega), fun r r0 r1 => ?_⟩, nm⟩
  by_cases z : r = q
  · subst z
    intro k k0 k1
    exact (h.1.1 k k0 k1).pd (hc.2 k k0 k1) (hd k k0 k1) (zSw.lo lo (by omega)) (hf.at ⟨k0, by omega⟩).2.2.1.2 (hb k k0 k1)
  · exact (h.1.2 r r0 r1).ou (ho.mo lo) (by omega) (by omega)
theorem zTG.rst {a : Nat} {M M1 M2 : zMm} {q : Int} (h : zTG a M) (hf : zTF a M) (hq : 0 ≤ q ∧ q < 2) (hc : zScw M M1 (a + 2) (a + 786 + 25 * q.toNat)) (hd : zSe M M1 (a + 2) (a + 786 + 25 * q.toNat) 4) (ho : zOu a (a + 2) 25 M M1) (hb : ∀ k : Int, 0 ≤ k → k < 4 → ∀ j, 0 ≤ M (a + 786 + 25 * q.toNat + 9 + 4 * k.toNat + 2) j ∧ M (a + 786 + 25 * q.toNat + 9 + 4 * k.toNat + 2) j ≤ 401) (lo : ∀ c k, c < a + 836 → M2 c k = M1 c k) (nm : zNM a M2) : zTG a M2 := ⟨⟨fun k k0 k1 => (h.1.2 q hq.1 hq.2 k k0 k1).pd (hc.2 k k0 k1) (hd k k0 k1) (zSw.lo lo (by omega)) (hf.2 q hq.1 hq.2 k k0 k1).1.2 (hb k k0 k1), fun r r0 r1 => (h.1.2 r r0 r1).ou (ho.mo lo) (by omega) (by omega)⟩, nm⟩
theorem zTG.zero {a : Nat} {M : zMm} (hz : ∀ c k, (a ≤ c ∧ c < a + 30 ∨ a + 786 ≤ c) → M c k = 0) : zTG a M := by
  have pq : ∀ p : Nat, (a ≤ p ∧ p + 3 < a + 30 ∨ a + 786 ≤ p) → zGp M p := fun p hp => by
    have h3 := hz p 3 (by omega)
    have h6 := hz p 6 (by omega)
    exact Or.inl ⟨h6, fun ⟨f, l, q⟩ => by
      have w := q.w
      have := q.2.2.1
      omega⟩
  refine ⟨⟨fun k k0 k1 => pq _ (by omega), fun q q0 q1 k k0 k1 => pq _ (by omega)⟩, by rw [hz _ _ (by omega), hz _ _ (by omega)], fun i i0 i1 => by rw [hz _ _ (by omega), hz _ _ (by omega)]⟩
/-- the lines of both sides -/
theorem zTB.el {a : Nat} {M : zMm} {k : Int} (h : zTB a M) (hf : zTF a M) (hci : zCI M a) (hp : ∀ j, 8 ≤ j → j < 168 → 0 ≤ M (a + 836 + 2) j) (hk : 0 ≤ k ∧ k ≤ 3) : ∀ j, 0 ≤ j → j < M (a + 836 + 2) (4 + k) → (M (a + 2 + 9 + 4 * k.toNat + 2) (j + 1) - 1 - M (a + 2 + 9 + 4 * k.toNat + 2) j = M (a + 836 + 2) (8 + 40 * k + j) ∧ M (a + 2 + 9 + 4 * k.toNat + 2) j < M (a + 2 + 9 + 4 * k.toNat + 2) (j + 1)) ∧ zLb (M (a + 836 + 4)) (400 * k + zSum (M (a + 836 + 2)) (8 + 40 * k) j.toNat) (M (a + 836 + 2) (8 + 40 * k + j)) = zLb (M (a + 2 + 9 + 4 * k.toNat + 1)) (M (a + 2 + 9 + 4 * k.toNat + 2) j) (M (a + 836 + 2) (8 + 40 * k + j)) := fun j j0 j1 => by
  obtain ⟨a1, a2, a3, a4⟩ := hf.at hk
  have q := a4 j j0 (by omega)
  have p0 := hp (8 + 40 * k + j) (by omega) (by omega)
  have tj := hf.totI hci hk (j := j) (by omega)
  refine ⟨by omega, zClip_cg (fun i i0 i1 => ?_)⟩
  have e := ((h.1 k hk.1 (by omega)).1 j j0 (by omega) i i0 (by omega)).2
  show M (a + 836 + 4) _ = M (a + 2 + 9 + 4 * k.toNat + 1) _
  rw [e]
  congr 1
  omega
theorem zTG.gu {a : Nat} {M : zMm} {k y : Int} {nm : Int → Int} (h : zTG a M) (hb : zTB a M) (hf : zTF a M) (hci : zCI M a) (hp : ∀ j, 8 ≤ j → j < 168 → 0 ≤ M (a + 836 + 2) j) (hk : 0 ≤ k ∧ k ≤ 3) (g : zGrw (fun j => zLb (M (a + 836 + 4)) (400 * k + zSum (M (a + 836 + 2)) (8 + 40 * k) j.toNat) (M (a + 836 + 2) (8 + 40 * k + j))) (fun j => M (a + 836 + 2) (8 + 40 * k + j)) (M (a + 2 + 9 + 4 * k.toNat + 3)) (M (a + 836 + 2) (4 + k)) y nm) : M (a + 2 + 9 + 4 * k.toNat) 6 = y ∧ ∀ i, 0 ≤ i → i < y → nm i = M (a + 2 + 9 + 4 * k.toNat + 1) (M (a + 2 + 9 + 4 * k.toNat) 5 + i) := by
  have el := hb.el hf hci hp hk
  have n3 := (hf.at hk).2.1
  have hg : zGp M (a + 2 + 9 + 4 * k.toNat) := h.1.1 k hk.1 (by omega)
  unfold zGp at hg
  have hq := hg.gq (fun l l0 l1 => (el l l0 (by omega)).1.2) (fun l l0 l1 => (hb.1 k hk.1 (by omega)).2 l l0 l1 (el l l0 (by omega)).1.2)
  rw [← n3] at g
  obtain ⟨e1, e2⟩ := hq.eq g (fun q q0 q1 => by
    obtain ⟨u1, u2⟩ := el q q0 (by omega)
    exact ⟨by show zLb _ _ _ = zLb _ _ _; rw [u1.1]; exact u2.symm, u1.1⟩)
  refine ⟨e1, fun i i0 i1 => ?_⟩
  rcases e2 with e2 | ⟨f, p, hfr, e2, e3, e4⟩
  · omega
  · have le := e3.le
    rw [e4 i i0 (by omega)]
    show zLb _ _ _ _ = _
    rw [zLb_at (by omega), e2]
    congr 1
    omega
/-- guard: the answers are the same, and so is the NAME told -/
theorem zTG.nm {a : Nat} {M M1 M2 : zMm} {k x y : Int} (h : zTG a M) (hb : zTB a M) (hf : zTF a M) (hci : zCI M a) (hp : ∀ j, 8 ≤ j → j < 168 → 0 ≤ M (a + 836 + 2) j) (hx : 0 ≤ k ∧ k ≤ 3 → 0 ≤ M (a + 2 + 9 + 4 * k.toNat) 6 ∧ M (a + 2 + 9 + 4 * k.toNat) 6 ≤ 30) (lo : ∀ c k, c < a + 836 → M2 c k = M1 c k) (eg : M1 (a + 836) 13 = M (a + 836) 13 ∧ ∀ j, M1 (a + 836 + 8) j = M (a + 836 + 8) j)
    (hA : (0 ≤ k ∧ k ≤ 3 ∧ M (a + 2 + 9 + 4 * k.toNat) 4 = 1) ∧ x = M (a + 2 + 9 + 4 * k.toNat) 6 ∧ (x = 0 ∧ M1 a 6 = M a 6 ∧ (∀ i, M1 (a + 29) i = M (a + 29) i) ∨ x ≠ 0 ∧ M1 a 6 = x ∧ ∀ i, 0 ≤ i → i < x → M1 (a + 29) i = M (a + 2 + 9 + 4 * k.toNat + 1) (M (a + 2 + 9 + 4 * k.toNat) 5 + i)) ∨ ¬ (0 ≤ k ∧ k ≤ 3 ∧ M (a + 2 + 9 + 4 * k.toNat) 4 = 1) ∧ x = -1 ∧ M1 a 6 = M a 6 ∧ (∀ i, M1 (a + 29) i = M (a + 29) i))
    (hB : (0 ≤ k ∧ k ≤ 3 ∧ M (a + 836 + 2) k = 1) ∧ (y = 0 ∧ (∃ nm, zGrw (fun j => zLb (M (a + 836 + 4)) (400 * k + zSum (M (a + 836 + 2)) (8 + 40 * k) j.toNat) (M (a + 836 + 2) (8 + 40 * k + j))) (fun j => M (a + 836 + 2) (8 + 40 * k + j)) (M (a + 2 + 9 + 4 * k.toNat + 3)) (M (a + 836 + 2) (4 + k)) 0 nm) ∧ (M2 (a + 836) 13 = M1 (a + 836) 13 ∧ (∀ i, M2 (a + 836 + 8) i = M1 (a + 836 + 8) i)) ∨ y ≠ 0 ∧ M2 (a + 836) 13 = y ∧ zGrw (fun j => zLb (M (a + 836 + 4)) (400 * k + zSum (M (a + 836 + 2)) (8 + 40 * k) j.toNat) (M (a + 836 + 2) (8 + 40 * k + j))) (fun j => M (a + 836 + 2) (8 + 40 * k + j)) (M (a + 2 + 9 + 4 * k.toNat + 3)) (M (a + 836 + 2) (4 + k)) y (fun i => M2 (a + 836 + 8) i)) ∨ ¬ (0 ≤ k ∧ k ≤ 3 ∧ M (a + 836 + 2) k = 1) ∧ y = -1 ∧ (M2 (a + 836) 13 = M1 (a + 836) 13 ∧ (∀ i, M2 (a + 836 + 8) i = M1 (a + 836 + 8) i))) : (x = y ∧ -1 ≤ x ∧ x ≤ 30) ∧ zNM a M2 := by
  have l6 := lo a 6 (by omega)
  have told : 0 ≤ k ∧ k ≤ 3 → M (a + 2 + 9 + 4 * k.toNat) 4 = M (a + 836 + 2) k := fun z => (hf.at z).1
  rcases hA with ⟨a1, a2, a3⟩ | ⟨a1, a2, a3⟩ <;> rcases hB with ⟨b1, b2⟩ | ⟨b1, b2, b3⟩
  · have hr := hx ⟨a1.1, a1.2.1⟩
    rcases b2 with ⟨b2, ⟨nm, b3⟩, b4⟩ | ⟨b2, b3, b4⟩
    · obtain ⟨e1, e2⟩ := h.gu hb hf hci hp ⟨a1.1, a1.2.1⟩ b3
      refine ⟨by omega, ?_⟩
      obtain ⟨c1, c2⟩ := (a3.resolve_right (fun z => z.1 (by omega))).2
      exact h.2.cg ⟨c1, c2⟩ eg lo b4
    · obtain ⟨e1, e2⟩ := h.gu hb hf hci hp ⟨a1.1, a1.2.1⟩ b4
      refine ⟨by omega, ?_⟩
      obtain ⟨c1, c2⟩ := (a3.resolve_left (fun z => by have := z.1; omega)).2
      refine ⟨by omega, fun i i0 i1 => ?_⟩
      rw [lo _ _ (by omega), c2 i i0 (by omega)]
      exact (e2 i i0 (by omega)).symm
  · have := told ⟨a1.1, a1.2.1⟩
    exact absurd ⟨a1.1, a1.2.1, by omega⟩ b1
  · have := told ⟨b1.1, b1.2.1⟩
    exact absurd ⟨b1.1, b1.2.1, by omega⟩ a1
  · exact ⟨by omega, h.2.cg a3 eg lo b3⟩

/-- the tapes are of one length, the same images are kept -/
def zTE (a : Nat) (M : zMm) : Prop := M a 1 = M (a + 836) 2 ∧ (∀ j : Int, 0 ≤ j → j < 2 → M (a + 28) j = M (a + 836 + 6) j) ∧ (∀ j : Int, 0 ≤ j → j < M a 1 → M (a + 1) j = M (a + 836 + 1) j) ∧ zTF a M ∧ zTW a M ∧ zTB a M ∧ zTG a M
theorem zVs.ec {a : Nat} {T U : zTl} {F : zRm'} {M M1 : zMm} (hs : zVs a T U F) (hk : zKp (zGu U) 30 M M1) : M1 (a + 836) 2 = M (a + 836) 2 ∧ (∀ j, M1 (a + 836 + 6) j = M (a + 836 + 6) j) ∧ ∀ j, M1 (a + 836 + 1) j = M (a + 836 + 1) j := by
  have hg := zGk12 hs.2.2.2.2.1
  exact ⟨hk _ _ (by rw [(hg.2.2.1)]; decide), fun j => hk _ _ (by rw [(hg.2.2.2.2.2.2.2.2.1) j]; decide), fun j => hk _ _ (by rw [(hg.2.1) j]; decide)⟩
theorem zVs.tr {a n : Nat} {T U : zTl} {F : zRm'} {M M1 : zMm} (hs : zVs a T U F) (hk : zKp (zGu U) n M M1) (hn : n ≤ 18) : ∀ j, M1 (a + 1) j = M (a + 1) j := by
  have h0 := hs.hs
  exact fun j => hk _ _ (by rw [h0.2.2.2.1 j]; exact hn)
theorem zVs.tp {a n : Nat} {T U : zTl} {F : zRm'} {M M1 : zMm} (hs : zVs a T U F) (hk : zKp (zGu U) n M M1) (hn : n ≤ 18) : M1 a 1 = M a 1 := by
  have h0 := hs.hs
  exact hk _ _ (by rw [h0.2.2.2.2.1]; exact hn)
theorem zVs.kd {a n : Nat} {T U : zTl} {F : zRm'} {M M1 : zMm} (hs : zVs a T U F) (hk : zKp (zGu U) n M M1) (hn : n ≤ 20) : ∀ j, M1 (a + 28) j = M (a + 28) j := by
  have h0 := hs.hs
  exact fun j => hk _ _ (by rw [h0.2.2.2.2.2.2.2.2.2.2.2.2.1 j]; exact hn)
theorem zVs.ef {a : Nat} {T U : zTl} {F : zRm'} {M M1 : zMm} (hs : zVs a T U F) (hk : zKp (zGu U) 30 M M1) : (∀ j, M1 (a + 836 + 2) j = M (a + 836 + 2) j) ∧ (∀ j, M1 (a + 836 + 3) j = M (a + 836 + 3) j) ∧ (∀ j, M1 (a + 836 + 4) j = M (a + 836 + 4) j) ∧ ∀ j, M1 (a + 836 + 5) j = M (a + 836 + 5) j := by
  have hg := zGk12 hs.2.2.2.2.1
  exact ⟨fun j => hk _ _ (by rw [(hg.2.2.2.2.1) j, zfG_t]; decide), fun j => hk _ _ (by rw [(hg.2.2.2.2.2.1) j, zkG_t]; decide), fun j => hk _ _ (by rw [(hg.2.2.2.2.2.2.1) j]; decide), fun j => hk _ _ (by rw [(hg.2.2.2.2.2.2.2.1) j]; decide)⟩
theorem zVs.gn {a n : Nat} {T U : zTl} {F : zRm'} {M M1 : zMm} (hs : zVs a T U F) (hk : zKp (zGu U) n M M1) (hn : n ≤ 29) : M1 a 6 = M a 6 ∧ ∀ j, M1 (a + 29) j = M (a + 29) j := by
  have h0 := hs.hs
  exact ⟨hk _ _ (by rw [h0.2.2.2.2.2.2.2.2.2.2.2.2.2.2.2.2.1]; exact hn), fun j => hk _ _ (by rw [h0.2.2.2.2.2.2.2.2.2.2.2.2.2.2.2.1 j]; exact hn)⟩
theorem zVs.eg {a : Nat} {T U : zTl} {F : zRm'} {M M1 : zMm} (hs : zVs a T U F) (hk : zKp (zGu U) 30 M M1) : M1 (a + 836) 13 = M (a + 836) 13 ∧ ∀ j, M1 (a + 836 + 8) j = M (a + 836 + 8) j := by
  have hg := zGk12 hs.2.2.2.2.1
  exact ⟨hk _ _ (by rw [(hg.2.2.2.2.2.2.2.2.2.2.2.2.2.1)]; decide), fun j => hk _ _ (by rw [(hg.2.2.2.2.2.2.2.2.2.2.2.2.1) j]; decide)⟩
theorem zVs.rws {a n : Nat} {T U : zTl} {F : zRm'} {M M1 : zMm} (hs : zVs a T U F) (hk : zKp (zGu U) n M M1) (hn : n ≤ 19) : zRw a M M1 := ⟨zOu.kp zOu.rf hs.hs hk hn, hs.ef (hk.le (by omega))⟩
theorem zTE.lo {a : Nat} {M M2 : zMm} {A : List Nat} {S : List Int} {P : List (Nat × Int)} (hm : zMd (a + 836) A S P M M2) (hA : (A.all fun o => decide (o < 83)) = true) (hP : (P.all fun o => decide (o.1 < 83)) = true) : M2 a 1 = M a 1 ∧ (∀ j, M2 (a + 28) j = M (a + 28) j) ∧ ∀ j, M2 (a + 1) j = M (a + 1) j := ⟨hm.reg hA hP (by decide) _ _ (Or.inl (by omega)), fun j => hm.reg hA hP (by decide) _ _ (Or.inl (by omega)), fun j => hm.reg hA hP (by decide) _ _ (Or.inl (by omega))⟩
def zLv (a : Nat) (it kc nc : Nat) (T : zTl) (M : zMm) (R : zRm') : Prop := zVk a R it kc nc ∧ zTE a M ∧ ∃ (U : zTl) (F : zRm'), zVs a T U F ∧ zVy a T U F R ∧ zVd a U F M R
/-- the script's cell -/
def zsc (xs : Nat → Int32) (x : Int) : Int := (xs x.toNat).toInt
theorem zsc_r (xs : Nat → Int32) (x : Int) : -2147483648 ≤ zsc xs x ∧ zsc xs x ≤ 2147483647 := ⟨Int32.le_toInt _, by have := Int32.toInt_lt (xs x.toNat); unfold zsc; omega⟩
def zScr (w : zWp) (s : State) (b L : Nat) (xs : Nat → Int32) : Prop := va_X b L xs s s.heap ∧ b < s.heap.size ∧ ¬ zA w b ∧ L ≤ 3072
section LAWR
variable {w : zWp} {p : Program} {e : Env} {d mc ms : Nat} {s : State} {m : MethodId} {args : Array Value} {below : List Frame} {meth : Method} {c : Code} {y : MethodName} {b : ByteArray} {nL : Nat} {ret : Option FieldType} {Q : State → Prop} {kc nc : Nat} {pc n : Nat} {lv st : List Value} {σ : zSg}
theorem j_sld (C : zCx w p s m args meth c y b nL ret) {sb L : Nat} {xs : Nat → Int32} {x : Int} (hS0 : zScr w s sb L xs) (hd : decode b pc = .ok (.iaload, 1)) (hn : pc + 1 = n) (hx : 0 ≤ x ∧ x < L) (kk : zJ w p e d mc ms s m args below meth c nL Q kc nc n lv (zi (zsc xs x) :: st) σ) : zJ w p e d mc ms s m args below meth c nL Q kc nc pc lv (zi x :: .ref sb :: st) σ := fun ls H locs hl hW hS => by
  obtain ⟨h1, h2, h3, h4⟩ := hS0
  obtain ⟨z1, z2⟩ := zin (i := x) (n := L) ⟨by omega, by omega, by omega⟩
  refine va_sld C.1 C.2.1 h1 h2 h3 hS z1 hd ?_
  rw [hn]
  have e1 : (Value.int (xs (Int32.ofInt x).toNatClampNeg)) = zi (zsc xs x) := by
    unfold zi zsc
    rw [Int32.ofInt_toInt, show (Int32.ofInt x).toNatClampNeg = x.toNat by omega]
  rw [e1]
  exact kk ls H locs hl hW hS
theorem j_slen (C : zCx w p s m args meth c y b nL ret) {sb L : Nat} {xs : Nat → Int32} (hS0 : zScr w s sb L xs) (hd : decode b pc = .ok (.arraylength, 1)) (hn : pc + 1 = n) (kk : zJ w p e d mc ms s m args below meth c nL Q kc nc n lv (zi (L : Int) :: st) σ) : zJ w p e d mc ms s m args below meth c nL Q kc nc pc lv (.ref sb :: st) σ := fun ls H locs hl hW hS => by
  obtain ⟨h1, h2, h3, h4⟩ := hS0
  refine va_slen C.1 C.2.1 h1 h2 h3 hS hd ?_
  rw [hn]
  have e1 : (Value.int (Int32.ofNat L)) = zi (L : Int) := by
    unfold zi
    rw [Int32.ofInt_eq_ofNat]
  rw [e1]
  exact kk ls H locs hl hW hS
theorem zJ.wid {kc2 nc2 : Nat} (k : zJ w p e d mc ms s m args below meth c nL Q kc2 nc2 pc lv st σ) (h1 : kc ≤ kc2) (h2 : nc ≤ nc2) : zJ w p e d mc ms s m args below meth c nL Q kc nc pc lv st σ := fun ls H locs hl hW hS => W.widen h1 h2 (k ls H locs hl hW hS)
theorem jafterU {H : Heap} {locs : List Loc} {mc2 ms2 : Nat} {ls : Array Slot} {stk rest : List Value} {a : Array Value} {P2 : Option Value → zSg → Prop} (hr : va_Run p w.1 e (zRm d mc ms) s m args below meth c H locs kc nc mc2 ms2 (F0 m pc ls stk) rest (zQc w P2 a) (zA w)) (hl : lv_has ls nL (zal lv)) (hS : va_S (zA w) s.heap H locs)
    (kk : ∀ (v : Option Value) (σ' : zSg), P2 v σ' → zJ w p e d mc ms s m args below meth c nL Q (kc + mc2) (nc + ms2) (pc + 3) lv (v.toList ++ rest) σ') :
    W p w.1 e (zRm d mc ms) s m args below meth c H locs kc nc Q (F0 m pc ls stk) := by
  intro T hT X
  obtain ⟨v, st₀, t, T', L, g0, X', hL, e1, e2, ⟨v2, σ', hv, hp, hW', hF⟩, stp⟩ := hr T hT X
  cases hv
  have hz := hF.1
  have hk := hF.2
  rw [g0] at hz hk
  have hS' : va_S (zA w) s.heap T'.heap (locs ++ L) := ⟨Nat.le_trans hS.1 (by rw [e1]; exact hz), fun q q1 q2 => by rw [e1, hk q (Nat.lt_of_lt_of_le q1 hS.1) q2]; exact hS.2.1 q q1 q2, fun q hq => by
      rcases List.mem_append.mp hq with h | h
      · exact hS.2.2 q h
      · exact hL q h⟩
  obtain ⟨t2, a1, b1⟩ := kk v σ' hp ls T'.heap (locs ++ L) hl (by rw [e1]; exact hW') hS' T' rfl X'
  exact ⟨t2, stp t2 a1, b1⟩
/-- a static call of a method with a table of its own -/
theorem jr_callU (C : zCx w p s m args meth c y b nL ret) {ix d2 n2 nL2 : Nat} {y2 : MethodName} {b2 : ByteArray} {ret2 : Option FieldType} {hh : List (Nat × Nat × Nat × Nat)} {As stk : List Value} {P2 : Option Value → zSg → Prop} (hl0 : (Cond.methodLink y.cls ix y2) ∈ lw_g) (hcd : (Cond.codeWith y2 b2 nL2 ret2 hh) ∈ lw_g) (hini : (Cond.initialized y2.cls) ∈ lw_g) (hv : (Cond.static y2) ∈ lw_g) (hy : y2.cls ≠ "java/lang/invoke/MethodHandle" ∧ y2.cls ≠ "java/lang/invoke/VarHandle" ∧ (parseMethodDescriptor y2.desc).map (fun d => d.parameters.length) = some n2) (hnl : nL2 ≤ 40)
    (hn : As.length = n2) (hM : zCu w d2 y2 b2 nL2 ret2 hh As σ P2) (hd2 : d2 + 1 ≤ d) (hst : stk = As.reverse ++ st) (hrm : (st.map fun v => v.category).sum ≤ 8) (hrc : kc + 1 ≤ mc ∧ nc + 6 ≤ ms) (hd : decode b pc = .ok (.invokestatic ix, 3))
    (kk : ∀ (v : Option Value) (σ' : zSg), P2 v σ' → zJ w p e d mc ms s m args below meth c nL Q (kc + 1) (nc + 6) (pc + 3) lv (v.toList ++ st) σ') : zJ w p e d mc ms s m args below meth c nL Q kc nc pc lv stk σ := fun ls H locs hl hW hS => by
  have hts := C.2.2.2.2.1
  have hpre := zPc.at (av := As) C hW hS
  have hG : GoodIn lw_g (zwsW y2 b2 nL2 ret2 hh) := by
    intro v hv
    rcases List.mem_cons.mp hv with rfl | hv
    · exact ⟨hcd, good_of_word (List.mem_filter.mp hcd).2⟩
    · exact ⟨hv, good_of_word (List.mem_filter.mp hv).2⟩
  have cw : vx_CSW (zRm d mc ms) s args y.cls ix y2 b2 nL2 ret2 hh (zwsW y2 b2 nL2 ret2 hh) (zRm d2 1 6) 1 6 n2 := ⟨⟨rfl, rfl, hd2, by show 8 + (nL2 + 11) + 64 * d2 ≤ 64 * d; omega, pay_in hts hG, List.mem_cons_self⟩, hts _ hcd, hts _ hini, ⟨hy.1, hy.2.1⟩, fun sig h => by have h2 := hy.2.2; rw [h] at h2; exact (Option.some.inj h2).symm, hts _ hl0, hts _ hv⟩
  have hrun := vx_runSW (g := F0 m pc ls stk) (rest := st) (H := H) (locs := locs) (cells := kc) (slots := nc) (p := p) (e := e) (below := below) (meth := meth) (c := c) ⟨C.1, C.2.1, C.2.2.1, C.2.2.2.1, hts⟩ hM cw hpre rfl hn hl.1 hst (lv_room hrm) hd ⟨by show kc + 1 ≤ mc; omega, by show nc + 6 ≤ ms; omega⟩
  exact jafterU hrun hl hS kk
end LAWR
/-! ===== the study is made: kinds told anew from there on ===== -/
theorem zE_cg3 {cA : Nat → ClassId} {n0 i : Nat} {T : zTl} {M M2 : zMm} {J J2 : zJm} {R R2 : zRm'} {t : Nat × Nat} (h1 : M2 i = M i) (h2 : J2 i = J i) (h3 : R2 i = R i) : zE cA n0 (T, M2, J2, R2) i t = zE cA n0 (T, M, J, R) i t := by
  simp only [zE, zfv, h1, h2, h3]
theorem zW.cg {w : zWp} {T : zTl} {M M2 : zMm} {J J2 : zJm} {R R2 : zRm'} {H : Heap} (h : zW w (T, M, J, R) H) (e : ∀ c k, c < T.length → M2 c k = M c k ∧ J2 c k = J c k ∧ R2 c k = R c k) : zW w (T, M2, J2, R2) H := by
  refine ⟨h.1, fun i t ht => ?_⟩
  have hi : i < T.length := (List.getElem?_eq_some_iff.mp ht).1
  rcases h.2 i t ht with q | q
  · exact Or.inl q
  · refine Or.inr ?_
    rw [zE_cg3 (funext fun k => (e i k hi).1) (funext fun k => (e i k hi).2.1) (funext fun k => (e i k hi).2.2)]
    exact q
theorem zJ.cg {w : zWp} {p : Program} {e : Env} {d mc ms : Nat} {s : State} {m : MethodId} {args : Array Value} {below : List Frame} {meth : Method} {c : Code} {nL : Nat} {Q : State → Prop} {kc nc pc : Nat} {lv st : List Value} {T : zTl} {M M2 : zMm} {J J2 : zJm} {R R2 : zRm'} (k : zJ w p e d mc ms s m args below meth c nL Q kc nc pc lv st (T, M2, J2, R2)) (h : ∀ c k, c < T.length → M2 c k = M c k ∧ J2 c k = J c k ∧ R2 c k = R c k) : zJ w p e d mc ms s m args below meth c nL Q kc nc pc lv st (T, M, J, R) := fun ls H locs hl hW hS => k ls H locs hl (hW.cg h) hS
theorem zI.ext2 {U V : zTl} {M M2 : zMm} {b : Nat} (h : zI (zGu U) M) (hV : zWu V) (he : ∀ c k, c < b → zGu V c k = zGu U c k) (hm : ∀ c k, c < b → M2 c k = M c k) (h0 : ∀ c k, b ≤ c → M2 c k = 0) : zI (zGu V) M2 := by
  have hty : zTy (zGu V) M2 := fun a k => by
    by_cases ha : a < b
    · rw [he a k ha, hm a k ha]
      exact h.2.1 a k
    · rw [h0 a k (by omega)]
      exact zKd_z _ _
  refine ⟨zGu_w hV, hty, fun a i q => ?_, fun a q => absurd q zGu_4.1, fun a b q => absurd q zGu_4.2⟩
  by_cases ha : a + 1 < b
  · rw [hm a i (by omega), hm (a + 1) i ha, he a i (by omega)]
    rw [he a i (by omega)] at q
    exact h.2.2.1 a i q
  · rw [h0 (a + 1) i (by omega), zand0]
    have := (hty a i).2
    exact ⟨by omega, by decide⟩
theorem zVd.at {a : Nat} {M M2 : zMm} (h3 : zCI M a) (h4 : zFi M (a + 836)) (h5 : zFk M (a + 836)) (h6 : zMt M (a + 836)) (e : ∀ c k, c < a + 920 → M2 c k = M c k) : zCI M2 a ∧ zFi M2 (a + 836) ∧ zFk M2 (a + 836) ∧ zMt M2 (a + 836) := ⟨h3.lo (fun c k q => e c k (by omega)), h4.cg (fun j => e _ _ (by omega)), h5.cg (fun j => e _ _ (by omega)), h6.cg (fun j => e _ _ (by omega)) (fun j => e _ _ (by omega))⟩
theorem zGrow {a : Nat} {T U : zTl} {F R : zRm'} {M : zMm} (J : zJm) (hs : zVs a T U F) (hd : zVd a U F M R) : ∃ (V : zTl) (M2 : zMm) (J2 : zJm) (R2 : zRm'), (∀ c k, c < T.length → M2 c k = M c k ∧ J2 c k = J c k ∧ R2 c k = R c k) ∧ zFr T.length M2 J2 R2 ∧ zIn V a zU11 ∧ zIn V (a + 836) zU12 ∧ zWu V ∧ V.length = T.length + 761 ∧ zIn V T.length zU8 ∧ zI (zGu V) M2 ∧ zF F R2 ∧ zCI M2 a ∧ zFi M2 (a + 836) ∧ zFk M2 (a + 836) ∧ zMt M2 (a + 836) := by
  have hlen := hs.len
  obtain ⟨h1, h2, h3, h4, h5, h6, h7, h8, h9, h10, h11⟩ := hs
  obtain ⟨d1, d2, d3, d4, d5, d6⟩ := hd
  have lp : (U ++ List.replicate (T.length - U.length) (0, 0)).length = T.length := by rw [List.length_append, List.length_replicate]; omega
  have hV : zWu (U ++ List.replicate (T.length - U.length) (0, 0) ++ zU8) := zWu.app (zWu.app h6 (fun i p q => by
    have := List.mem_of_getElem? q
    rw [List.mem_replicate] at this
    cases this.2)) zWu_8
  have he : ∀ c k, c < T.length → zGu (U ++ List.replicate (T.length - U.length) (0, 0) ++ zU8) c k = zGu U c k := fun c k hc => by
    unfold zGu
    rw [List.getElem?_append_left (by rw [lp]; exact hc)]
    by_cases q : c < U.length
    · rw [List.getElem?_append_left q]
    · rw [List.getElem?_append_right (by omega), List.getElem?_replicate, if_pos (by omega), List.getElem?_eq_none (by omega)]
      rfl
  have hm : ∀ c k, c < T.length → (fun c k => if c < T.length then M c k else 0 : zMm) c k = M c k := fun c k q => by simp [q]
  have h0 : ∀ c k, T.length ≤ c → (fun c k => if c < T.length then M c k else 0 : zMm) c k = 0 := fun c k q => by simp [Nat.not_lt.mpr q]
  refine ⟨U ++ List.replicate (T.length - U.length) (0, 0) ++ zU8, fun c k => if c < T.length then M c k else 0, fun c k => if c < T.length then J c k else 0, fun c k => if c < T.length then R c k else none, fun c k q => ⟨by simp [q], by simp [q], by simp [q]⟩, fun c q k => ⟨by simp [Nat.not_lt.mpr q], by simp [Nat.not_lt.mpr q], by simp [Nat.not_lt.mpr q]⟩, zIn.ext (zIn.ext h4), zIn.ext (zIn.ext h5), hV, by rw [List.length_append, lp, zU8_len], zInB lp, d1.ext2 hV he hm h0, fun c k r q => ?_, zVd.at d3 d4 d5 d6 (fun c k q => hm c k (by omega))⟩
  have hc : c < T.length := by
    by_cases z : c < T.length
    · exact z
    · rw [h11 c k (by omega)] at q
      cases q
  simp only [hc, if_true]
  exact d2 c k r q
theorem zMade.step {a : Nat} {T U V : zTl} {F : zRm'} {M2 : zMm} {v : Option Value} {τ : zSg} (hs : zVs a T U F) (v1 : zIn V a zU11) (v2 : zIn V (a + 836) zU12) (v3 : zWu V) (v4 : V.length = T.length + 761) (v5 : zIn V T.length zU8) (d3 : zCI M2 a) (d4 : zFi M2 (a + 836)) (d5 : zFk M2 (a + 836)) (d6 : zMt M2 (a + 836)) (h : zMade (zGu V) T F M2 a T.length v τ) : ∃ (x : Int) (M3 : zMm) (J3 : zJm) (R3 F3 : zRm'), v = some (zi x) ∧ τ = (T ++ zL8, M3, J3, R3) ∧ zVs a (T ++ zL8) V F3 ∧ zVy a (T ++ zL8) V F3 R3 ∧ zVd a V F3 M3 R3 ∧ R3 a 8 = some T.length ∧ (M3 a 1 = M2 a 1 ∧ (∀ j, M3 (a + 28) j = M2 (a + 28) j) ∧ M3 (a + 836) 2 = M2 (a + 836) 2 ∧ (∀ j, M3 (a + 836 + 6) j = M2 (a + 836 + 6) j) ∧ (∀ j, M3 (a + 1) j = M2 (a + 1) j) ∧ (∀ j, M3 (a + 836 + 1) j = M2 (a + 836 + 1) j) ∧ zRw a M2 M3 ∧ M3 a 6 = M2 a 6 ∧ (∀ j, M3 (a + 29) j = M2 (a + 29) j) ∧ M3 (a + 836) 13 = M2 (a + 836) 13 ∧ ∀ j, M3 (a + 836 + 8) j = M2 (a + 836 + 8) j) := by
  have hlen := hs.len
  obtain ⟨x, M3, J3, R3, F3, R1, rfl, rfl, hI, hF, hN, g1, g2, g3, g4, g5, g6⟩ := h
  obtain ⟨h1, h2, h3, h4, h5, h6, h7, ⟨R0, n1, n2⟩, h9, ⟨R9, n3, n4⟩, h11⟩ := hs
  have hs2 : zVs a (T ++ zL8) V F3 := ⟨h1.ext, h2.ext, zlk2 rfl h3, v1, v2, v3, by rw [List.length_append, zL8_len, v4]; exact Nat.le_refl _, ⟨R0, n1, fun c z q1 q2 q3 => (g3 c z (by omega)).trans (n2 c z q1 q2 q3)⟩, fun c z q => (g3 c z (by omega)).trans (h9 c z q), ⟨R9, n3, fun c z q1 q2 => (g3 c z (by omega)).trans (n4 c z q1 q2)⟩, fun c k q => g4 c k (by rw [List.length_append, zL8_len] at q; exact q)⟩
  refine ⟨x, M3, J3, R3, F3, rfl, rfl, hs2, Or.inr ⟨T.length, g6, hlen, zInB rfl, v5, ⟨R1, hN, g1⟩, g2⟩, ?_, g6, ?_⟩
  rotate_left
  · have hg := zGk12 v2
    have h0 := hs2.hs
    exact ⟨g5 _ _ (by omega) (by rw [h0.2.2.2.2.1]; decide), fun j => g5 _ _ (by omega) (by rw [h0.2.2.2.2.2.2.2.2.2.2.2.2.1 j]; decide), g5 _ _ (by omega) (by rw [(hg.2.2.1)]; decide), fun j => g5 _ _ (by omega) (by rw [(hg.2.2.2.2.2.2.2.2.1) j]; decide), fun j => g5 _ _ (by omega) (by rw [h0.2.2.2.1 j]; decide), fun j => g5 _ _ (by omega) (by rw [(hg.2.1) j]; decide), ⟨fun c k q _ => g5 _ _ (by have := q.low; omega) (Nat.le_trans (by decide) (zCe.tag h0 q)), fun j => g5 _ _ (by omega) (by rw [(hg.2.2.2.2.1) j, zfG_t]; decide), fun j => g5 _ _ (by omega) (by rw [(hg.2.2.2.2.2.1) j, zkG_t]; decide), fun j => g5 _ _ (by omega) (by rw [(hg.2.2.2.2.2.2.1) j]; decide), fun j => g5 _ _ (by omega) (by rw [(hg.2.2.2.2.2.2.2.1) j]; decide)⟩, g5 _ _ (by omega) (by rw [h0.2.2.2.2.2.2.2.2.2.2.2.2.2.2.2.2.1]; decide), fun j => g5 _ _ (by omega) (by rw [h0.2.2.2.2.2.2.2.2.2.2.2.2.2.2.2.1 j]; decide), g5 _ _ (by omega) (by rw [(hg.2.2.2.2.2.2.2.2.2.2.2.2.2.1)]; decide), fun j => g5 _ _ (by omega) (by rw [(hg.2.2.2.2.2.2.2.2.2.2.2.2.1) j]; decide)⟩
  have hg := zGk12 v2
  have hk : zKp (zGu V) 17 M2 (fun c q => if c < T.length then M3 c q else M2 c q) := fun c q ht => by
    by_cases z : c < T.length
    · simp only [z, if_true]
      exact g5 c q z ht
    · simp only [z, if_false]
  have e1 : ∀ c k, c < a + 920 → M3 c k = (fun c q => if c < T.length then M3 c q else M2 c q : zMm) c k := fun c k q => by
    have z : c < T.length := by omega
    simp only [z, if_true]
  have c3 : zCI (fun c q => if c < T.length then M3 c q else M2 c q : zMm) a := d3.kp hs2.hs hk (by decide)
  have c4 : zFi (fun c q => if c < T.length then M3 c q else M2 c q : zMm) (a + 836) := d4.cg (fun j => hk _ _ (by rw [(hg.2.2.2.2.1) j, zfG_t]; decide))
  have c5 : zFk (fun c q => if c < T.length then M3 c q else M2 c q : zMm) (a + 836) := d5.cg (fun j => hk _ _ (by rw [(hg.2.2.2.2.2.1) j, zkG_t]; decide))
  have c6 : zMt (fun c q => if c < T.length then M3 c q else M2 c q : zMm) (a + 836) := d6.cg (fun j => hk _ _ (by rw [(hg.2.2.2.2.2.2.2.2.2.2.2.2.2.2.2.2.2.2.2.2.2.2.2.2.2.2.2.2.2.2.2.1) j, zwG_t]; decide)) (fun j => hk _ _ (by rw [(hg.2.2.2.2.2.2.2.2.2.2.2.2.2.2.2.2.2.2.2.2.2.2.2.2.2.2.2.2.2.2.2.2.2.1) j]; decide))
  exact ⟨hI, hF, zVd.at c3 c4 c5 c6 e1⟩
