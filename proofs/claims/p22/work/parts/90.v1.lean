/-! the lines of a file: their lengths -/
def zCn (g : Int → Int) (l : Int) : Nat → Int
  | 0 => 0
  | n + 1 => zCn g l n + if g n ≠ 10 ∧ zTen g n = l then 1 else 0
theorem zCn_s {g : Int → Int} {l i : Int} (h : 0 ≤ i) : zCn g l (i + 1).toNat = zCn g l i.toNat + if g i ≠ 10 ∧ zTen g i.toNat = l then 1 else 0 := by
  have e : (i + 1).toNat = i.toNat + 1 := by omega
  have e2 : zCn g l (i.toNat + 1) = zCn g l i.toNat + if g ((i.toNat : Nat) : Int) ≠ 10 ∧ zTen g i.toNat = l then 1 else 0 := rfl
  rw [e, e2, show ((i.toNat : Nat) : Int) = i by omega]
theorem zCn_0 {g : Int → Int} {l : Int} : ∀ n : Nat, zTen g n < l → zCn g l n = 0
  | 0, _ => rfl
  | n + 1, h => by
    have hm := zTen_mo (g := g) n 1
    have e2 : zCn g l (n + 1) = zCn g l n + if g n ≠ 10 ∧ zTen g n = l then 1 else 0 := rfl
    rw [e2, zCn_0 n (by omega), if_neg (fun z => by omega), Int.add_zero]
theorem zCn_cg {g h : Int → Int} {l : Int} : ∀ (n : Nat), (∀ j : Int, 0 ≤ j → j < (n : Int) → g j = h j) → zCn g l n = zCn h l n
  | 0, _ => rfl
  | n + 1, e => by
    have e1 : zCn g l (n + 1) = zCn g l n + if g n ≠ 10 ∧ zTen g n = l then 1 else 0 := rfl
    have e2 : zCn h l (n + 1) = zCn h l n + if h n ≠ 10 ∧ zTen h n = l then 1 else 0 := rfl
    rw [e1, e2, zCn_cg n (fun j a b => e j a (by omega)), e n (by omega) (by omega), zTen_cg (g := g) (h := h) n (fun j a b => e j a (by omega))]
/-- a line is closed -/
def zClo (M M2 : zMm) (a : Nat) (v : Int) : Prop := M a 3 < 40 → M2 a 3 = M a 3 + 1 ∧ M2 (a + 2) (M a 3 + 1) = v ∧ ∀ j, j ≠ M a 3 + 1 → M2 (a + 2) j = M (a + 2) j
/-- as far as i bytes of g are read: the size, the lines that are closed, the open one -/
def zRl (M : zMm) (a : Nat) (g : Int → Int) (i : Int) : Prop := 0 ≤ i ∧ M a 3 = zTen g i.toNat ∧ (∀ l, 0 ≤ l → l < M a 3 → M (a + 2) (l + 1) - M (a + 2) l - 1 = zCn g l i.toNat) ∧ i - M (a + 2) (M a 3) = zCn g (M a 3) i.toNat
def zLs (M : zMm) (a : Nat) (g : Int → Int) (n : Int) : Prop := ∀ l, 0 ≤ l → l < M a 3 → M (a + 2) (l + 1) - M (a + 2) l - 1 = zCn g l n.toNat
theorem zRl.cg {M M2 : zMm} {a : Nat} {g : Int → Int} {i : Int} (h : zRl M a g i) (h3 : M2 a 3 = M a 3) (h2 : ∀ i, M2 (a + 2) i = M (a + 2) i) : zRl M2 a g i := by
  obtain ⟨q0, q1, q2, q3⟩ := h
  refine ⟨q0, by rw [h3]; exact q1, fun l l0 l1 => ?_, by rw [h3, h2]; exact q3⟩
  rw [h2, h2]
  exact q2 l l0 (by rw [h3] at l1; exact l1)
theorem zRl.nil {M : zMm} {a : Nat} {g : Int → Int} (h3 : M a 3 = 0) (h0 : M (a + 2) 0 = 0) : zRl M a g 0 := by
  have e : zCn g (M a 3) (0 : Int).toNat = 0 := rfl
  have e1 : zTen g (0 : Int).toNat = 0 := rfl
  have e2 : M (a + 2) (M a 3) = 0 := by rw [h3]; exact h0
  exact ⟨by omega, by omega, fun l l0 l1 => by omega, by omega⟩
theorem zRl.byte {M : zMm} {a : Nat} {g : Int → Int} {i : Int} (h : zRl M a g i) (hb : g i ≠ 10) : zRl M a g (i + 1) := by
  obtain ⟨q0, q1, q2, q3⟩ := h
  have t := zTen_s (g := g) (i := i) q0
  refine ⟨by omega, by omega, fun l l0 l1 => ?_, ?_⟩
  · rw [zCn_s q0, if_neg (fun z => by omega), Int.add_zero]
    exact q2 l l0 l1
  · rw [zCn_s q0, if_pos ⟨hb, q1.symm⟩]
    omega
theorem zRl.close {M M2 : zMm} {a : Nat} {g : Int → Int} {i v : Int} (h : zRl M a g i) (hb : g i = 10) (hc : zClo M M2 a v) (hv : v = i + 1) (h40 : M a 3 < 40) (h30 : 0 ≤ M a 3) : zRl M2 a g (i + 1) := by
  obtain ⟨q0, q1, q2, q3⟩ := h
  obtain ⟨c1, c2, c3⟩ := hc h40
  have t := zTen_s (g := g) (i := i) q0
  have c : ∀ l, zCn g l (i + 1).toNat = zCn g l i.toNat := fun l => by rw [zCn_s q0, if_neg (fun z => z.1 hb), Int.add_zero]
  refine ⟨by omega, by omega, fun l l0 l1 => ?_, ?_⟩
  · rw [c]
    by_cases z : l = M a 3
    · rw [z, c2, c3 (M a 3) (by omega)]
      omega
    · rw [c3 (l + 1) (by omega), c3 l (by omega)]
      exact q2 l l0 (by omega)
  · rw [c, c1, c2, zCn_0 i.toNat (by omega)]
    omega
theorem zRl.ls {M : zMm} {a : Nat} {g : Int → Int} {i n : Int} (h : zRl M a g i) (hn : i = n) : zLs M a g n := by
  subst hn
  exact h.2.2.1
theorem zRl.fin2 {M M2 : zMm} {a : Nat} {g : Int → Int} {i v n : Int} (h : zRl M a g i) (hc : zClo M M2 a v) (hv : v = i + 1) (h40 : M a 3 < 40) (h30 : 0 ≤ M a 3) (hn : i = n) : zLs M2 a g n := by
  subst hn
  obtain ⟨q0, q1, q2, q3⟩ := h
  obtain ⟨c1, c2, c3⟩ := hc h40
  intro l l0 l1
  by_cases z : l = M a 3
  · rw [z, c2, c3 (M a 3) (by omega)]
    omega
  · rw [c3 (l + 1) (by omega), c3 l (by omega)]
    exact q2 l l0 (by omega)
/-- a page whose lines are as they were -/
def zSmw (M M2 : zMm) (p : Nat) : Prop := M2 p 4 = M p 4 ∧ M2 p 3 = M p 3 ∧ ∀ i, M2 (p + 2) i = M (p + 2) i
theorem zSmw.rf {M : zMm} {p : Nat} : zSmw M M p := ⟨rfl, rfl, fun _ => rfl⟩
theorem zSmw.tr {M M1 M2 : zMm} {p : Nat} (h : zSmw M M1 p) (g : zSmw M1 M2 p) : zSmw M M2 p := ⟨g.1.trans h.1, g.2.1.trans h.2.1, fun i => (g.2.2 i).trans (h.2.2 i)⟩
theorem zSmw.ofr {M M2 : zMm} {p b n : Nat} (hr : zKr b n M M2) (hd : b + n ≤ p ∨ p + 4 ≤ b) : zSmw M M2 p := ⟨hr _ _ (by omega), hr _ _ (by omega), fun i => hr _ _ (by omega)⟩
theorem zSmw.ofu {M M2 : zMm} {p c : Nat} {i x : Int} (e : M2 = zup M c i x) (hd : c < p ∨ p + 4 ≤ c) : zSmw M M2 p := ⟨zup_p e (by omega) _, zup_p e (by omega) _, fun i => zup_p e (by omega) _⟩
theorem zSmw.ofk {T : zTl} {F : zRm'} {G : zGt} {M M2 : zMm} {p n : Nat} (h : zPage T F G p) (hk : zKp G n M M2) (hn : n ≤ 20) : zSmw M M2 p := by
  refine ⟨hk _ _ ?_, hk _ _ ?_, fun i => hk _ _ ?_⟩
  · rw [h.2.2.2.2.2.2.2.2.2.2.2.1]; exact hn
  · rw [h.2.2.2.2.2.2.2.2.2.2.1]; exact Nat.le_trans hn (by decide)
  · rw [h.2.2.2.2.2.2.1 i]; exact hn
theorem zLs.cg {M M2 : zMm} {p : Nat} {g g2 : Int → Int} {n n2 : Int} (h : zLs M p g n) (e : zSmw M M2 p) (eg : ∀ j, g j = g2 j) (hn : n = n2) : zLs M2 p g2 n2 := by
  obtain rfl : g = g2 := funext eg
  subst hn
  intro l l0 l1
  rw [e.2.2, e.2.2]
  exact h l l0 (by rw [e.2.1] at l1; exact l1)
/-- a page told anew -/
def zNf (M : zMm) (p : Nat) (g : Int → Int) (n x : Int) : Prop := M p 4 = 1 ∧ M p 3 = x ∧ zLs M p g n
theorem zNf.mk {M1 M2 : zMm} {p : Nat} {g g2 : Int → Int} {n n2 x : Int} (ht : M1 p 4 = 1) (hx : M1 p 3 = x) (hl : zLs M1 p g n) (e : zSmw M1 M2 p) (eg : ∀ j, g j = g2 j) (hn : n = n2) : zNf M2 p g2 n2 x := ⟨e.1.trans ht, e.2.1.trans hx, hl.cg e eg hn⟩
/-- a line is put: ahead of the shifting -/
def zCh0 (M M2 : zMm) (a : Nat) (l : Int) : Prop := M2 a 4 = M a 4 ∧ (l = M a 3 ∧ M2 a 3 = M a 3 + 1 ∨ l < M a 3 ∧ M2 a 3 = M a 3) ∧ ∀ j, j ≤ M a 3 → M2 (a + 2) j = M (a + 2) j
theorem zCh0.tr {M M1 M2 : zMm} {a : Nat} {l : Int} (h : zCh0 M M1 a l) (e : zSmw M1 M2 a) : zCh0 M M2 a l := ⟨e.1.trans h.1, by rw [e.2.1]; exact h.2.1, fun j hj => (e.2.2 j).trans (h.2.2 j hj)⟩
def zChg (M M2 : zMm) (a : Nat) (l many : Int) : Prop := M2 a 4 = M a 4 ∧ (l = M a 3 ∧ M2 a 3 = M a 3 + 1 ∨ l < M a 3 ∧ M2 a 3 = M a 3) ∧ (∀ j, 0 ≤ j → j < M2 a 3 → j ≠ l → M2 (a + 2) (j + 1) - M2 (a + 2) j = M (a + 2) (j + 1) - M (a + 2) j) ∧ M2 (a + 2) (l + 1) - M2 (a + 2) l - 1 = many
theorem zChg.mk {M M0 Mh M2 : zMm} {a : Nat} {l many tail shift i : Int} (h0 : zCh0 M M0 a l) (hc : zCl M0 Mh a l many tail shift i) (hi : Mh a 3 < i) (ht : Mh a 4 = M0 a 4) (e : zSmw Mh M2 a) : zChg M M2 a l many := by
  obtain ⟨⟨g1, g2, g3, g4, g5, g6⟩, h3, hr, hv⟩ := hc
  obtain ⟨k1, k2, k3⟩ := h0
  have e3 : M2 a 3 = M0 a 3 := e.2.1.trans h3
  have ev : ∀ j, M2 (a + 2) j = if l < j ∧ j < i then M0 (a + 2) j + shift else M0 (a + 2) j := fun j => (e.2.2 j).trans (hv j)
  refine ⟨(e.1.trans ht).trans k1, by omega, fun j j0 j1 jl => ?_, ?_⟩
  · rw [← k3 (j + 1) (by omega), ← k3 j (by omega), ev (j + 1), ev j]
    by_cases z : l < j
    · rw [if_pos ⟨by omega, by omega⟩, if_pos ⟨z, by omega⟩]
      omega
    · rw [if_neg (by omega), if_neg (by omega)]
  · rw [ev (l + 1), ev l, if_pos ⟨by omega, by omega⟩, if_neg (by omega)]
    omega
def zChx (M : zMm) (a : Nat) (l n x : Int) : Prop := (l = M a 3 ∧ (x = 0 ∧ (400 < M (a + 2) l + n + 1 ∨ 40 ≤ M a 3) ∨ x = 1 ∧ M (a + 2) l + n + 1 ≤ 400 ∧ M a 3 < 40)) ∨ (l < M a 3 ∧ (x = 0 ∧ 400 < M (a + 2) (M a 3) + M (a + 2) l + n + 1 - M (a + 2) (l + 1) ∨ x = 1 ∧ M (a + 2) (M a 3) + M (a + 2) l + n + 1 - M (a + 2) (l + 1) ≤ 400))
theorem zChx.cg {M M2 : zMm} {a : Nat} {l n n2 x : Int} (h : zChx M a l n x) (e : zSmw M2 M a) (hn : n = n2) : zChx M2 a l n2 x := by
  subst hn
  unfold zChx at h ⊢
  rw [e.2.1, e.2.2, e.2.2, e.2.2] at h
  exact h
/-- a line is taken out -/
def zTko (M M2 : zMm) (a : Nat) (l : Int) : Prop := M2 a 4 = M a 4 ∧ M2 a 3 = M a 3 - 1 ∧ (∀ j, 0 ≤ j → j < l → M2 (a + 2) (j + 1) - M2 (a + 2) j = M (a + 2) (j + 1) - M (a + 2) j) ∧ ∀ j, l ≤ j → j < M2 a 3 → M2 (a + 2) (j + 1) - M2 (a + 2) j = M (a + 2) (j + 1 + 1) - M (a + 2) (j + 1)
theorem zTko.mk {M M0 Mh M1 M2 : zMm} {a : Nat} {l gap i x : Int} (e0 : zSmw M M0 a) (h : zTk M0 Mh a l gap i) (hi : Mh a 3 ≤ i) (ht : Mh a 4 = M0 a 4) (e1 : M1 = zup Mh a 3 x) (hx : x = Mh a 3 - 1) (e2 : zSmw M1 M2 a) : zTko M M2 a l := by
  obtain ⟨g1, g2, g3, h3, hr, hv⟩ := h
  have m3 : M2 a 3 = M0 a 3 - 1 := by rw [e2.2.1, zup_s e1, hx, h3]
  have mv : ∀ j, M2 (a + 2) j = if l < j ∧ j < i then M0 (a + 2) (j + 1) - gap else M0 (a + 2) j := fun j => ((e2.2.2 j).trans (zup_p e1 (by omega) j)).trans (hv j)
  have m4 : M2 a 4 = M0 a 4 := (e2.1.trans (zup_n e1 (by omega))).trans ht
  have k3 := e0.2.1
  refine ⟨m4.trans e0.1, by omega, fun j j0 j1 => ?_, fun j j0 j1 => ?_⟩
  · rw [← e0.2.2, ← e0.2.2, mv (j + 1), mv j, if_neg (by omega), if_neg (by omega)]
  · rw [← e0.2.2, ← e0.2.2, mv (j + 1), mv j, if_pos ⟨by omega, by omega⟩]
    by_cases z : l < j
    · rw [if_pos ⟨z, by omega⟩]
      omega
    · have e : l = j := by omega
      rw [e] at g3
      rw [if_neg (by omega)]
      omega
/-- a page is copied -/
def zPcw (M M2 : zMm) (p q : Nat) : Prop := M2 p 4 = M q 4 ∧ M2 p 3 = M q 3 ∧ ∀ i, 0 ≤ i → i ≤ 40 → M2 (p + 2) i = M (q + 2) i
def zSd (M M2 : zMm) (a o : Nat) (n : Int) : Prop := ∀ k : Int, 0 ≤ k → k < n → zPcw M M2 (a + 9 + 4 * k.toNat) (o + 9 + 4 * k.toNat)
theorem zPcw.tr {M M1 M2 : zMm} {p q : Nat} (h : zPcw M M1 p q) (e : zSmw M1 M2 p) : zPcw M M2 p q := ⟨e.1.trans h.1, e.2.1.trans h.2.1, fun i i0 i1 => (e.2.2 i).trans (h.2.2 i i0 i1)⟩
theorem zPcw.pr {M M1 M2 : zMm} {p q : Nat} (h : zPcw M1 M2 p q) (e : zSmw M M1 q) : zPcw M M2 p q := ⟨h.1.trans e.1, h.2.1.trans e.2.1, fun i i0 i1 => (h.2.2 i i0 i1).trans (e.2.2 i)⟩
theorem zSd.pg {M Mc M2 : zMm} {a o : Nat} {k : Int} (h : zSd M Mc a o k) (hr : zKr (a + 9 + 4 * k.toNat) 4 Mc M2) (hk : 0 ≤ k ∧ k < 4) (hz : zPcw Mc M2 (a + 9 + 4 * k.toNat) (o + 9 + 4 * k.toNat)) (hf : zKr a 25 M Mc) (ho : o + 25 ≤ a ∨ a + 25 ≤ o) : zSd M M2 a o (k + 1) := fun j j0 j1 => by
  by_cases q : j = k
  · rw [q]
    exact hz.pr (zSmw.ofr hf (by omega))
  · exact (h j j0 (by omega)).tr (zSmw.ofr hr (by omega))
theorem zSd.up {M M1 M2 : zMm} {a o c : Nat} {n i x : Int} (h : zSd M M1 a o n) (e : M2 = zup M1 c i x) (hd : c < a + 9 ∨ a + 25 ≤ c) (hn : n ≤ 4) : zSd M M2 a o n := fun j j0 j1 => (h j j0 j1).tr (zSmw.ofu e (by omega))
theorem zSd.cp {M M1 M2 : zMm} {a o c c0 : Nat} {n sp dp z : Int} (h : zSd M M1 a o n) (e : M2 = zcp M1 c0 c sp dp z) (hd : c < a + 9 ∨ a + 25 ≤ c) (hn : n ≤ 4) : zSd M M2 a o n := fun j j0 j1 => (h j j0 j1).tr ⟨zcp_p e (by omega) _, zcp_p e (by omega) _, fun i => zcp_p e (by omega) _⟩

theorem c_X4_guardedBy_v {w : zWp} {T : zTl} {M : zMm} {J : zJm} {R : zRm'} {G : zGt} {F : zRm'} {a : Nat} (hI : zI G M) (hF : zF F R) (h0 : zPage T F G a) (v1 : Int) (p1 : 0 ≤ v1 ∧ v1 ≤ 39) : zCt w 10 0 0 yX4_guardedBy cX4_guardedBy 7 (some .int) [.ref (w.2.1 + a), zi v1] (T, M, J, R) (zPi T R G (fun x M2 => (zKr a 4 M M2) ∧ (x = 0 ∨ 0 < x ∧ x ≤ 30 ∧ M2 a 5 + x ≤ 401) ∧ (M2 a 3 = M a 3) ∧ (∀ i, M2 (a + 2) i = M (a + 2) i) ∧ (M2 a 4 = M a 4) ∧ (∀ i, M2 (a + 1) i = M (a + 1) i))) := by
  refine zCt.of rfl (Nat.le_of_ble_eq_true rfl) ?_
  intro p e s m args below meth c C
  obtain ⟨Po, hPo⟩ : ∃ Po, Po = zPi T R G (fun x M2 => (zKr a 4 M M2) ∧ (x = 0 ∨ 0 < x ∧ x ≤ 30 ∧ M2 a 5 + x ≤ 401) ∧ (M2 a 3 = M a 3) ∧ (∀ i, M2 (a + 2) i = M (a + 2) i) ∧ (M2 a 4 = M a 4) ∧ (∀ i, M2 (a + 1) i = M (a + 1) i)) := ⟨_, rfl⟩
  rw [← hPo]
  have hK0 : zKr a 4 M M := zKr.rf
  show zK w p e 10 0 0 s m args below meth c 7 T Po 0 [.ref (w.2.1 + a), zi v1, .null, .null, .null, .null, .null] [] (T, M, J, R)
  refine q_aload_n C dX4_guardedBy_0 (n := 1) rfl rfl ?_
  refine q_getR C dX4_guardedBy_1 (n := 4) rfl f_X4_15 h0.1 (hF _ _ _ h0.2.2.2.2.1) ?_
  refine q_iload_n C dX4_guardedBy_4 (n := 5) rfl rfl ?_
  refine q_iconst C dX4_guardedBy_5 (n := 6) rfl ?_
  refine q_iadd C dX4_guardedBy_6 (n := 7) rfl (v := v1 + 1) rfl ?_
  have g1 := zI.at hI (h0.2.2.2.2.2.2.1 (v1 + 1))
  refine q_iald C dX4_guardedBy_7 (n := 8) rfl h0.2.2.2.2.2.1 (by omega) (v := M (a + 2) (v1 + 1)) rfl ?_
  refine q_iconst C dX4_guardedBy_8 (n := 9) rfl ?_
  refine q_isub C dX4_guardedBy_9 (n := 10) rfl (v := (M (a + 2) (v1 + 1)) - 1) rfl ?_
  refine q_istore_n C [.ref (w.2.1 + a), zi v1, zi ((M (a + 2) (v1 + 1)) - 1), .null, .null, .null, .null] dX4_guardedBy_10 (n := 11) rfl rfl rfl ?_
  refine q_aload_n C dX4_guardedBy_11 (n := 12) rfl rfl ?_
  refine q_aload_n C dX4_guardedBy_12 (n := 13) rfl rfl ?_
  refine q_iload_n C dX4_guardedBy_13 (n := 14) rfl rfl ?_
  refine q_callVp C dX4_guardedBy_14 (n := 17) rfl m_X4_67 v_yX4_firstOf h0.1 ⟨by decide, rfl⟩ (c_X4_firstOf (w := w) (J := J) hI hF h0 v1 (by omega)) (Nat.le_of_ble_eq_true rfl) rfl rfl (Nat.le_of_ble_eq_true rfl) ⟨Nat.le_refl _, Nat.le_refl _⟩ (fun x3 h4 => ?_)
  refine q_iconst C dX4_guardedBy_17 (n := 18) rfl ?_
  refine q_iadd C dX4_guardedBy_18 (n := 19) rfl (v := x3 + 1) rfl ?_
  refine q_iload_n C dX4_guardedBy_19 (n := 20) rfl rfl ?_
  refine q_callVp C dX4_guardedBy_20 (n := 23) rfl m_X4_49 v_yX4_skipBlanks h0.1 ⟨by decide, rfl⟩ (c_X4_skipBlanks (w := w) (J := J) hI hF h0 (x3 + 1) ((M (a + 2) (v1 + 1)) - 1) (by omega) (by omega)) (Nat.le_of_ble_eq_true rfl) rfl rfl (Nat.le_of_ble_eq_true rfl) ⟨Nat.le_refl _, Nat.le_refl _⟩ (fun x6 h7 => ?_)
  refine q_istore_n C [.ref (w.2.1 + a), zi v1, zi ((M (a + 2) (v1 + 1)) - 1), zi x6, .null, .null, .null] dX4_guardedBy_23 (n := 24) rfl rfl rfl ?_
  refine q_aload_n C dX4_guardedBy_24 (n := 25) rfl rfl ?_
  refine q_iload_n C dX4_guardedBy_25 (n := 26) rfl rfl ?_
  refine q_iload_n C dX4_guardedBy_26 (n := 27) rfl rfl ?_
  refine q_callVp C dX4_guardedBy_27 (n := 30) rfl m_X4_70 v_yX4_skipWord h0.1 ⟨by decide, rfl⟩ (c_X4_skipWord (w := w) (J := J) hI hF h0 x6 ((M (a + 2) (v1 + 1)) - 1) (by omega) (by omega)) (Nat.le_of_ble_eq_true rfl) rfl rfl (Nat.le_of_ble_eq_true rfl) ⟨Nat.le_refl _, Nat.le_refl _⟩ (fun x9 h10 => ?_)
  refine q_istore C [.ref (w.2.1 + a), zi v1, zi ((M (a + 2) (v1 + 1)) - 1), zi x6, zi x9, .null, .null] dX4_guardedBy_30 (n := 32) rfl rfl rfl ?_
  refine q_aload_n C dX4_guardedBy_32 (n := 33) rfl rfl ?_
  refine q_getR C dX4_guardedBy_33 (n := 36) rfl f_X4_9 h0.1 (hF _ _ _ h0.2.1) ?_
  refine q_iload_n C dX4_guardedBy_36 (n := 37) rfl rfl ?_
  refine q_iload C dX4_guardedBy_37 (n := 39) rfl rfl ?_
  refine q_ldcS C dX4_guardedBy_39 (n := 41) rfl (k := 3) (by decide) ?_
  refine q_callSp C dX4_guardedBy_41 (n := 44) rfl m_X4_75 s_yX10_says (c_X10_says (w := w) (J := J) hI hF h0.2.2.1 h0.2.2.2.1 x6 x9 3 (by decide) (by omega) (by omega) (by omega)) (Nat.le_of_ble_eq_true rfl) rfl rfl (Nat.le_of_ble_eq_true rfl) ⟨Nat.le_refl _, Nat.le_refl _⟩ (fun x12 h13 => ?_)
  refine q_if_ne C 49 dX4_guardedBy_44 (n := 47) rfl rfl (by omega) (fun h14 => ?_) (fun h14 => ?_)
  · refine q_aload_n C dX4_guardedBy_49 (n := 50) rfl rfl ?_
    refine q_aload_n C dX4_guardedBy_50 (n := 51) rfl rfl ?_
    refine q_iload C dX4_guardedBy_51 (n := 53) rfl rfl ?_
    refine q_iload_n C dX4_guardedBy_53 (n := 54) rfl rfl ?_
    refine q_callVp C dX4_guardedBy_54 (n := 57) rfl m_X4_49 v_yX4_skipBlanks h0.1 ⟨by decide, rfl⟩ (c_X4_skipBlanks (w := w) (J := J) hI hF h0 x9 ((M (a + 2) (v1 + 1)) - 1) (by omega) (by omega)) (Nat.le_of_ble_eq_true rfl) rfl rfl (Nat.le_of_ble_eq_true rfl) ⟨Nat.le_refl _, Nat.le_refl _⟩ (fun x16 h17 => ?_)
    refine q_putI C dX4_guardedBy_57 (n := 60) rfl f_X4_30 h0.1 ⟨rfl, rfl⟩ (fun M18 (e19 : M18 = zup M a 5 x16) => ?_)
    have hI20 : zI G M18 := hI.put e19 h0.2.2.2.2.2.2.2.2.2.2.2.2.1 rfl (by omega)
    have hK21 := hK0.put e19 (by omega)
    refine q_aload_n C dX4_guardedBy_60 (n := 61) rfl rfl ?_
    refine q_aload_n C dX4_guardedBy_61 (n := 62) rfl rfl ?_
    refine q_getI C dX4_guardedBy_62 (n := 65) rfl f_X4_30 h0.1 (v := x16) (zup_s e19) ?_
    refine q_iload_n C dX4_guardedBy_65 (n := 66) rfl rfl ?_
    refine q_callVp C dX4_guardedBy_66 (n := 69) rfl m_X4_70 v_yX4_skipWord h0.1 ⟨by decide, rfl⟩ (c_X4_skipWord (w := w) (J := J) hI20 hF h0 x16 ((M (a + 2) (v1 + 1)) - 1) (by omega) (by omega)) (Nat.le_of_ble_eq_true rfl) rfl rfl (Nat.le_of_ble_eq_true rfl) ⟨Nat.le_refl _, Nat.le_refl _⟩ (fun x23 h24 => ?_)
    refine q_aload_n C dX4_guardedBy_69 (n := 70) rfl rfl ?_
    refine q_getI C dX4_guardedBy_70 (n := 73) rfl f_X4_30 h0.1 (v := x16) (zup_s e19) ?_
    refine q_isub C dX4_guardedBy_73 (n := 74) rfl (v := x23 - x16) rfl ?_
    refine q_istore C [.ref (w.2.1 + a), zi v1, zi ((M (a + 2) (v1 + 1)) - 1), zi x6, zi x9, zi (x23 - x16), .null] dX4_guardedBy_74 (n := 76) rfl rfl rfl ?_
    refine q_iload C dX4_guardedBy_76 (n := 78) rfl rfl ?_
    have J_29 : ∀ (u25 : Int), (-2147483648 ≤ u25 ∧ u25 ≤ 2147483647) → (u25 = 0 ∨ u25 = 1) → (u25 = 0 ∨ 0 < (x23 - x16) ∧ (x23 - x16) ≤ 30) → zK w p e 10 0 0 s m args below meth c 7 T Po 108 [.ref (w.2.1 + a), .null, zi ((M (a + 2) (v1 + 1)) - 1), .null, .null, zi (x23 - x16), .null] [zi u25] (T, M18, J, R) := by
      intro u25 h26 h27 h28
      refine q_istore C [.ref (w.2.1 + a), .null, zi ((M (a + 2) (v1 + 1)) - 1), .null, .null, zi (x23 - x16), zi u25] dX4_guardedBy_108 (n := 110) rfl rfl rfl ?_
      refine q_iload C dX4_guardedBy_110 (n := 112) rfl rfl ?_
      have J_33 : ∀ (u30 : Int), (-2147483648 ≤ u30 ∧ u30 ≤ 2147483647) → (u30 = 0 ∨ u30 = (x23 - x16) ∧ 0 < (x23 - x16) ∧ (x23 - x16) ≤ 30) → zK w p e 10 0 0 s m args below meth c 7 T Po 137 [.null, .null, .null, .null, .null, .null, .null] [zi u30] (T, M18, J, R) := by
        intro u30 h31 h32
        exact q_iret C dX4_guardedBy_137 ⟨rfl, rfl⟩ (by rw [hPo]; exact ⟨u30, M18, J, rfl, rfl, hI20, hK21, (by have hz : M18 a 5 = x16 := (zup_s e19); omega), (by have hz : M18 a 3 = M a 3 := (zup_n e19 (by omega)); omega), (fun i => (zup_p e19 (by omega) _)), (by have hz34 : M18 a 4 = M a 4 := (zup_n e19 (by omega)); omega), (fun i => (zup_p e19 (by omega) _))⟩)
      refine q_if_eq C 136 dX4_guardedBy_112 (n := 115) rfl rfl (by omega) (fun h35 => ?_) (fun h35 => ?_)
      · refine q_iconst C dX4_guardedBy_136 (n := 137) rfl ?_
        exact zK.weak (J_33 0 (by omega) (by omega)) (zwk_n (zwk_n (zwk_n (zwk_n (zwk_n (zwk_n (zwk_n zwk_e)))))))
      · refine q_aload_n C dX4_guardedBy_115 (n := 116) rfl rfl ?_
        refine q_aload_n C dX4_guardedBy_116 (n := 117) rfl rfl ?_
        refine q_getI C dX4_guardedBy_117 (n := 120) rfl f_X4_30 h0.1 (v := x16) (zup_s e19) ?_
        refine q_iload C dX4_guardedBy_120 (n := 122) rfl rfl ?_
        refine q_iadd C dX4_guardedBy_122 (n := 123) rfl (v := x16 + (x23 - x16)) rfl ?_
        refine q_iload_n C dX4_guardedBy_123 (n := 124) rfl rfl ?_
        refine q_callVp C dX4_guardedBy_124 (n := 127) rfl m_X4_49 v_yX4_skipBlanks h0.1 ⟨by decide, rfl⟩ (c_X4_skipBlanks (w := w) (J := J) hI20 hF h0 (x16 + (x23 - x16)) ((M (a + 2) (v1 + 1)) - 1) (by omega) (by omega)) (Nat.le_of_ble_eq_true rfl) rfl rfl (Nat.le_of_ble_eq_true rfl) ⟨Nat.le_refl _, Nat.le_refl _⟩ (fun x37 h38 => ?_)
        refine q_iload_n C dX4_guardedBy_127 (n := 128) rfl rfl ?_
        refine q_icmp_ne C 136 dX4_guardedBy_128 (n := 131) rfl rfl (by omega) (fun h39 => ?_) (fun h39 => ?_)
        · refine q_iconst C dX4_guardedBy_136 (n := 137) rfl ?_
          exact zK.weak (J_33 0 (by omega) (by omega)) (zwk_n (zwk_n (zwk_n (zwk_n (zwk_n (zwk_n (zwk_n zwk_e)))))))
        · refine q_iload C dX4_guardedBy_131 (n := 133) rfl rfl ?_
          refine q_goto C 137 dX4_guardedBy_133 rfl ?_
          exact zK.weak (J_33 (x23 - x16) (by omega) (by omega)) (zwk_n (zwk_n (zwk_n (zwk_n (zwk_n (zwk_n (zwk_n zwk_e)))))))
    have J_40 : zK w p e 10 0 0 s m args below meth c 7 T Po 107 [.ref (w.2.1 + a), .null, zi ((M (a + 2) (v1 + 1)) - 1), .null, .null, zi (x23 - x16), .null] [] (T, M18, J, R) := by
      refine q_iconst C dX4_guardedBy_107 (n := 108) rfl ?_
      exact zK.weak (J_29 0 (by omega) (by omega) (by omega)) (zwk_c (zwk_n (zwk_c (zwk_n (zwk_n (zwk_c (zwk_n zwk_e)))))))
    refine q_if_le C 107 dX4_guardedBy_78 (n := 81) rfl rfl (by omega) (fun h41 => ?_) (fun h41 => ?_)
    · exact zK.weak (J_40) (zwk_c (zwk_n (zwk_c (zwk_n (zwk_n (zwk_c (zwk_n zwk_e)))))))
    · refine q_iload C dX4_guardedBy_81 (n := 83) rfl rfl ?_
      refine q_bipush C dX4_guardedBy_83 (n := 85) rfl (x := 30) (by decide) ?_
      refine q_icmp_gt C 107 dX4_guardedBy_85 (n := 88) rfl rfl (by omega) (fun h42 => ?_) (fun h42 => ?_)
      · exact zK.weak (J_40) (zwk_c (zwk_n (zwk_c (zwk_n (zwk_n (zwk_c (zwk_n zwk_e)))))))
      · refine q_aload_n C dX4_guardedBy_88 (n := 89) rfl rfl ?_
        refine q_getR C dX4_guardedBy_89 (n := 92) rfl f_X4_9 h0.1 (hF _ _ _ h0.2.1) ?_
        refine q_aload_n C dX4_guardedBy_92 (n := 93) rfl rfl ?_
        refine q_getI C dX4_guardedBy_93 (n := 96) rfl f_X4_30 h0.1 (v := x16) (zup_s e19) ?_
        have g43 := zI.at hI (h0.2.2.2.1 x16)
        refine q_bald C dX4_guardedBy_96 (n := 97) rfl h0.2.2.1 (by omega) (v := M (a + 1) x16) (zup_p e19 (by omega) _) ?_
        refine q_callSp C dX4_guardedBy_97 (n := 100) rfl m_X4_95 s_yX10_isDigit (c_X10_isDigit (w := w) (J := J) hI20 hF (M (a + 1) x16) (by omega)) (Nat.le_of_ble_eq_true rfl) rfl rfl (Nat.le_of_ble_eq_true rfl) ⟨Nat.le_refl _, Nat.le_refl _⟩ (fun x45 h46 => ?_)
        refine q_if_ne C 107 dX4_guardedBy_100 (n := 103) rfl rfl (by omega) (fun h47 => ?_) (fun h47 => ?_)
        · exact zK.weak (J_40) (zwk_c (zwk_n (zwk_c (zwk_n (zwk_n (zwk_c (zwk_n zwk_e)))))))
        · refine q_iconst C dX4_guardedBy_103 (n := 104) rfl ?_
          refine q_goto C 108 dX4_guardedBy_104 rfl ?_
          exact zK.weak (J_29 1 (by omega) (by omega) (by omega)) (zwk_c (zwk_n (zwk_c (zwk_n (zwk_n (zwk_c (zwk_n zwk_e)))))))
  · refine q_iconst C dX4_guardedBy_47 (n := 48) rfl ?_
    exact q_iret C dX4_guardedBy_48 ⟨rfl, rfl⟩ (by rw [hPo]; exact ⟨0, M, J, rfl, rfl, hI, hK0, (by have hz : M a 5 = M a 5 := rfl; omega), (by have hz : M a 3 = M a 3 := rfl; omega), (fun i => rfl), (by omega), (fun i => rfl)⟩)
theorem c_X4_guardOf_v {w : zWp} {T : zTl} {M : zMm} {J : zJm} {R : zRm'} {G : zGt} {F : zRm'} {a : Nat} (hI : zI G M) (hF : zF F R) (h0 : zPage T F G a) : zCt w 11 0 0 yX4_guardOf cX4_guardOf 3 (some .int) [.ref (w.2.1 + a)] (T, M, J, R) (zPi T R G (fun x M2 => (zKr a 4 M M2) ∧ (x = 0 ∨ 0 < x ∧ x ≤ 30 ∧ M2 a 5 + x ≤ 401) ∧ (M2 a 3 = M a 3) ∧ (∀ i, M2 (a + 2) i = M (a + 2) i) ∧ (M2 a 4 = M a 4) ∧ (∀ i, M2 (a + 1) i = M (a + 1) i))) := by
  refine zCt.of rfl (Nat.le_of_ble_eq_true rfl) ?_
  intro p e s m args below meth c C
  obtain ⟨Po, hPo⟩ : ∃ Po, Po = zPi T R G (fun x M2 => (zKr a 4 M M2) ∧ (x = 0 ∨ 0 < x ∧ x ≤ 30 ∧ M2 a 5 + x ≤ 401) ∧ (M2 a 3 = M a 3) ∧ (∀ i, M2 (a + 2) i = M (a + 2) i) ∧ (M2 a 4 = M a 4) ∧ (∀ i, M2 (a + 1) i = M (a + 1) i)) := ⟨_, rfl⟩
  rw [← hPo]
  have hK0 : zKr a 4 M M := zKr.rf
  show zK w p e 11 0 0 s m args below meth c 3 T Po 0 [.ref (w.2.1 + a), .null, .null] [] (T, M, J, R)
  refine q_iconst C dX4_guardOf_0 (n := 1) rfl ?_
  refine q_istore_n C [.ref (w.2.1 + a), zi 0, .null] dX4_guardOf_1 (n := 2) rfl rfl rfl ?_
  have L_4 : ∀ n5 : Nat, ∀ (u1 : Int), (-2147483648 ≤ u1 ∧ u1 ≤ 2147483647) → (0 ≤ u1 ∧ u1 ≤ 40) → (40 - u1 + 1 ≤ (n5 : Int)) → zK w p e 11 0 0 s m args below meth c 3 T Po 2 [.ref (w.2.1 + a), zi u1, .null] [] (T, M, J, R) := by
    intro n5
    induction n5 with
    | zero =>
      intro u1 h2 h3 hm7
      exfalso
      omega
    | succ n5 ih6 =>
      intro u1 h2 h3 hm7
      refine q_iload_n C dX4_guardOf_2 (n := 3) rfl rfl ?_
      refine q_aload_n C dX4_guardOf_3 (n := 4) rfl rfl ?_
      have g8 := zI.at hI h0.2.2.2.2.2.2.2.2.2.2.1
      refine q_getI C dX4_guardOf_4 (n := 7) rfl f_X4_22 h0.1 (v := M a 3) rfl ?_
      have J_9 : zK w p e 11 0 0 s m args below meth c 3 T Po 34 [.ref (w.2.1 + a), zi u1, .null] [] (T, M, J, R) := by
        refine q_aload_n C dX4_guardOf_34 (n := 35) rfl rfl ?_
        refine q_getI C dX4_guardOf_35 (n := 38) rfl f_X4_22 h0.1 (v := M a 3) rfl ?_
        refine q_iconst C dX4_guardOf_38 (n := 39) rfl ?_
        refine q_isub C dX4_guardOf_39 (n := 40) rfl (v := (M a 3) - 1) rfl ?_
        refine q_istore_n C [.ref (w.2.1 + a), zi u1, zi ((M a 3) - 1)] dX4_guardOf_40 (n := 41) rfl rfl rfl ?_
        have L_13 : ∀ n14 : Nat, ∀ (u10 : Int), (-2147483648 ≤ u10 ∧ u10 ≤ 2147483647) → (-1 ≤ u10 ∧ u10 ≤ 39) → (u10 + 2 ≤ (n14 : Int)) → zK w p e 11 0 0 s m args below meth c 3 T Po 41 [.ref (w.2.1 + a), zi u1, zi u10] [] (T, M, J, R) := by
          intro n14
          induction n14 with
          | zero =>
            intro u10 h11 h12 hm16
            exfalso
            omega
          | succ n14 ih15 =>
            intro u10 h11 h12 hm16
            refine q_iload_n C dX4_guardOf_41 (n := 42) rfl rfl ?_
            refine q_iload_n C dX4_guardOf_42 (n := 43) rfl rfl ?_
            have J_17 : zK w p e 11 0 0 s m args below meth c 3 T Po 70 [.ref (w.2.1 + a), zi u1, zi u10] [] (T, M, J, R) := by
              refine q_iload_n C dX4_guardOf_70 (n := 71) rfl rfl ?_
              refine q_iload_n C dX4_guardOf_71 (n := 72) rfl rfl ?_
              refine q_icmp_ge C 94 dX4_guardOf_72 (n := 75) rfl rfl (by omega) (fun h18 => ?_) (fun h18 => ?_)
              · refine q_iconst C dX4_guardOf_94 (n := 95) rfl ?_
                exact q_iret C dX4_guardOf_95 ⟨rfl, rfl⟩ (by rw [hPo]; exact ⟨0, M, J, rfl, rfl, hI, hK0, (by have hz : M a 5 = M a 5 := rfl; omega), (by have hz : M a 3 = M a 3 := rfl; omega), (fun i => rfl), (by omega), (fun i => rfl)⟩)
              · refine q_aload_n C dX4_guardOf_75 (n := 76) rfl rfl ?_
                refine q_iload_n C dX4_guardOf_76 (n := 77) rfl rfl ?_
                refine q_callVp C dX4_guardOf_77 (n := 80) rfl m_X4_89 v_yX4_follower h0.1 ⟨by decide, rfl⟩ (c_X4_follower (w := w) (J := J) hI hF h0 u1 (by omega)) (Nat.le_of_ble_eq_true rfl) rfl rfl (Nat.le_of_ble_eq_true rfl) ⟨Nat.le_refl _, Nat.le_refl _⟩ (fun x20 h21 => ?_)
                refine q_iload_n C dX4_guardOf_80 (n := 81) rfl rfl ?_
                refine q_icmp_ne C 94 dX4_guardOf_81 (n := 84) rfl rfl (by omega) (fun h22 => ?_) (fun h22 => ?_)
                · refine q_iconst C dX4_guardOf_94 (n := 95) rfl ?_
                  exact q_iret C dX4_guardOf_95 ⟨rfl, rfl⟩ (by rw [hPo]; exact ⟨0, M, J, rfl, rfl, hI, hK0, (by have hz : M a 5 = M a 5 := rfl; omega), (by have hz : M a 3 = M a 3 := rfl; omega), (fun i => rfl), (by omega), (fun i => rfl)⟩)
                · refine q_aload_n C dX4_guardOf_84 (n := 85) rfl rfl ?_
                  refine q_getR C dX4_guardOf_85 (n := 88) rfl f_X4_19 h0.1 (hF _ _ _ h0.2.2.2.2.2.2.2.1) ?_
                  refine q_iload_n C dX4_guardOf_88 (n := 89) rfl rfl ?_
                  have g23 := zI.at hI (h0.2.2.2.2.2.2.2.2.2.1 u10)
                  refine q_iald C dX4_guardOf_89 (n := 90) rfl h0.2.2.2.2.2.2.2.2.1 (by omega) (v := M (a + 3) u10) rfl ?_
                  refine q_iconst C dX4_guardOf_90 (n := 91) rfl ?_
                  refine q_icmp_eq C 96 dX4_guardOf_91 (n := 94) rfl rfl (by omega) (fun h24 => ?_) (fun h24 => ?_)
                  · refine q_aload_n C dX4_guardOf_96 (n := 97) rfl rfl ?_
                    refine q_iload_n C dX4_guardOf_97 (n := 98) rfl rfl ?_
                    refine q_callVi C dX4_guardOf_98 (n := 101) rfl m_X4_92 v_yX4_guardedBy h0.1 ⟨by decide, rfl⟩ (c_X4_guardedBy_v (w := w) (J := J) hI hF h0 u1 (by omega)) (Nat.le_of_ble_eq_true rfl) rfl rfl (Nat.le_of_ble_eq_true rfl) ⟨Nat.le_refl _, Nat.le_refl _⟩ (fun x34 M30 J31  hI32 h33 => ?_)
                    obtain ⟨hk35, h25, h26, h27, h28, h29⟩ := h33
                    have hK36 := hK0.tr hk35
                    exact q_iret C dX4_guardOf_101 ⟨rfl, rfl⟩ (by rw [hPo]; exact ⟨x34, M30, J31, rfl, rfl, hI32, hK36, (by have hz : M30 a 5 = M30 a 5 := rfl; omega), (by have hz : M30 a 3 = M a 3 := (h26); omega), (fun i => (h27 i)), (by have hz37 : M30 a 4 = M a 4 := (h28); omega), (fun i => (h29 i))⟩)
                  · refine q_iconst C dX4_guardOf_94 (n := 95) rfl ?_
                    exact q_iret C dX4_guardOf_95 ⟨rfl, rfl⟩ (by rw [hPo]; exact ⟨0, M, J, rfl, rfl, hI, hK0, (by have hz : M a 5 = M a 5 := rfl; omega), (by have hz : M a 3 = M a 3 := rfl; omega), (fun i => rfl), (by omega), (fun i => rfl)⟩)
            refine q_icmp_le C 70 dX4_guardOf_43 (n := 46) rfl rfl (by omega) (fun h38 => ?_) (fun h38 => ?_)
            · exact zK.weak (J_17) (zwk_c (zwk_c (zwk_c zwk_e)))
            · refine q_aload_n C dX4_guardOf_46 (n := 47) rfl rfl ?_
              refine q_iload_n C dX4_guardOf_47 (n := 48) rfl rfl ?_
              refine q_callVp C dX4_guardOf_48 (n := 51) rfl m_X4_67 v_yX4_firstOf h0.1 ⟨by decide, rfl⟩ (c_X4_firstOf (w := w) (J := J) hI hF h0 u10 (by omega)) (Nat.le_of_ble_eq_true rfl) rfl rfl (Nat.le_of_ble_eq_true rfl) ⟨Nat.le_refl _, Nat.le_refl _⟩ (fun x40 h41 => ?_)
              refine q_aload_n C dX4_guardOf_51 (n := 52) rfl rfl ?_
              refine q_getR C dX4_guardOf_52 (n := 55) rfl f_X4_15 h0.1 (hF _ _ _ h0.2.2.2.2.1) ?_
              refine q_iload_n C dX4_guardOf_55 (n := 56) rfl rfl ?_
              refine q_iconst C dX4_guardOf_56 (n := 57) rfl ?_
              refine q_iadd C dX4_guardOf_57 (n := 58) rfl (v := u10 + 1) rfl ?_
              have g42 := zI.at hI (h0.2.2.2.2.2.2.1 (u10 + 1))
              refine q_iald C dX4_guardOf_58 (n := 59) rfl h0.2.2.2.2.2.1 (by omega) (v := M (a + 2) (u10 + 1)) rfl ?_
              refine q_iconst C dX4_guardOf_59 (n := 60) rfl ?_
              refine q_isub C dX4_guardOf_60 (n := 61) rfl (v := (M (a + 2) (u10 + 1)) - 1) rfl ?_
              refine q_icmp_ne C 70 dX4_guardOf_61 (n := 64) rfl rfl (by omega) (fun h43 => ?_) (fun h43 => ?_)
              · exact zK.weak (J_17) (zwk_c (zwk_c (zwk_c zwk_e)))
              · refine q_iinc C [.ref (w.2.1 + a), zi u1, zi (u10 + (-1))] dX4_guardOf_64 (n := 67) rfl rfl rfl rfl ?_
                refine q_goto C 41 dX4_guardOf_67 rfl ?_
                exact zK.weak (ih15 (u10 + (-1)) (by omega) (by omega) (by omega)) (zwk_c (zwk_c (zwk_c zwk_e)))
        exact zK.weak (L_13 _ ((M a 3) - 1) (by omega) (by omega) (Int.self_le_toNat _)) (zwk_c (zwk_c (zwk_c zwk_e)))
      refine q_icmp_ge C 34 dX4_guardOf_7 (n := 10) rfl rfl (by omega) (fun h44 => ?_) (fun h44 => ?_)
      · exact zK.weak (J_9) (zwk_c (zwk_c (zwk_n zwk_e)))
      · refine q_aload_n C dX4_guardOf_10 (n := 11) rfl rfl ?_
        refine q_iload_n C dX4_guardOf_11 (n := 12) rfl rfl ?_
        refine q_callVp C dX4_guardOf_12 (n := 15) rfl m_X4_67 v_yX4_firstOf h0.1 ⟨by decide, rfl⟩ (c_X4_firstOf (w := w) (J := J) hI hF h0 u1 (by omega)) (Nat.le_of_ble_eq_true rfl) rfl rfl (Nat.le_of_ble_eq_true rfl) ⟨Nat.le_refl _, Nat.le_refl _⟩ (fun x46 h47 => ?_)
        refine q_aload_n C dX4_guardOf_15 (n := 16) rfl rfl ?_
        refine q_getR C dX4_guardOf_16 (n := 19) rfl f_X4_15 h0.1 (hF _ _ _ h0.2.2.2.2.1) ?_
        refine q_iload_n C dX4_guardOf_19 (n := 20) rfl rfl ?_
        refine q_iconst C dX4_guardOf_20 (n := 21) rfl ?_
        refine q_iadd C dX4_guardOf_21 (n := 22) rfl (v := u1 + 1) rfl ?_
        have g48 := zI.at hI (h0.2.2.2.2.2.2.1 (u1 + 1))
        refine q_iald C dX4_guardOf_22 (n := 23) rfl h0.2.2.2.2.2.1 (by omega) (v := M (a + 2) (u1 + 1)) rfl ?_
        refine q_iconst C dX4_guardOf_23 (n := 24) rfl ?_
        refine q_isub C dX4_guardOf_24 (n := 25) rfl (v := (M (a + 2) (u1 + 1)) - 1) rfl ?_
        refine q_icmp_ne C 34 dX4_guardOf_25 (n := 28) rfl rfl (by omega) (fun h49 => ?_) (fun h49 => ?_)
        · exact zK.weak (J_9) (zwk_c (zwk_c (zwk_n zwk_e)))
        · refine q_iinc C [.ref (w.2.1 + a), zi (u1 + 1), .null] dX4_guardOf_28 (n := 31) rfl rfl rfl rfl ?_
          refine q_goto C 2 dX4_guardOf_31 rfl ?_
          exact zK.weak (ih6 (u1 + 1) (by omega) (by omega) (by omega)) (zwk_c (zwk_c (zwk_n zwk_e)))
  exact zK.weak (L_4 _ 0 (by omega) (by omega) (Int.self_le_toNat _)) (zwk_c (zwk_c (zwk_n zwk_e)))
theorem c_X4_mark_v {w : zWp} {T : zTl} {M : zMm} {J : zJm} {R : zRm'} {G : zGt} {F : zRm'} {a : Nat} (hI : zI G M) (hF : zF F R) (h0 : zPage T F G a) : zCt w 12 0 0 yX4_mark cX4_mark 2 none [.ref (w.2.1 + a)] (T, M, J, R) (zPv T R G (fun M2 => (zKr a 4 M M2) ∧ (M2 a 3 = M a 3) ∧ (∀ i, M2 (a + 2) i = M (a + 2) i) ∧ (M2 a 6 = 0 ∨ M2 a 5 + M2 a 6 ≤ 401) ∧ (M2 a 4 = M a 4) ∧ (∀ i, M2 (a + 1) i = M (a + 1) i))) := by
  refine zCt.of rfl (Nat.le_of_ble_eq_true rfl) ?_
  intro p e s m args below meth c C
  obtain ⟨Po, hPo⟩ : ∃ Po, Po = zPv T R G (fun M2 => (zKr a 4 M M2) ∧ (M2 a 3 = M a 3) ∧ (∀ i, M2 (a + 2) i = M (a + 2) i) ∧ (M2 a 6 = 0 ∨ M2 a 5 + M2 a 6 ≤ 401) ∧ (M2 a 4 = M a 4) ∧ (∀ i, M2 (a + 1) i = M (a + 1) i)) := ⟨_, rfl⟩
  rw [← hPo]
  have hK0 : zKr a 4 M M := zKr.rf
  show zK w p e 12 0 0 s m args below meth c 2 T Po 0 [.ref (w.2.1 + a), .null] [] (T, M, J, R)
  refine q_iconst C dX4_mark_0 (n := 1) rfl ?_
  refine q_istore_n C [.ref (w.2.1 + a), zi 0] dX4_mark_1 (n := 2) rfl rfl rfl ?_
  have L_12 : ∀ n13 : Nat, ∀ (u1 : Int) (M2 : zMm) (J3 : zJm), zI G M2 → zKr a 4 M M2 → (-2147483648 ≤ u1 ∧ u1 ≤ 2147483647) → (0 ≤ u1 ∧ u1 ≤ 40) → (M2 a 3 = M a 3) → (∀ i, M2 (a + 2) i = M (a + 2) i) → (M2 a 4 = M a 4) → (∀ i, M2 (a + 1) i = M (a + 1) i) → (40 - u1 + 1 ≤ (n13 : Int)) → zK w p e 12 0 0 s m args below meth c 2 T Po 2 [.ref (w.2.1 + a), zi u1] [] (T, M2, J3, R) := by
    intro n13
    induction n13 with
    | zero =>
      intro u1 M2 J3 hI4 hK5 h6 h7 h8 h9 h10 h11 hm15
      exfalso
      omega
    | succ n13 ih14 =>
      intro u1 M2 J3 hI4 hK5 h6 h7 h8 h9 h10 h11 hm15
      refine q_iload_n C dX4_mark_2 (n := 3) rfl rfl ?_
      refine q_aload_n C dX4_mark_3 (n := 4) rfl rfl ?_
      have g16 := zI.at hI h0.2.2.2.2.2.2.2.2.2.2.1
      refine q_getI C dX4_mark_4 (n := 7) rfl f_X4_22 h0.1 (v := M a 3) (h8) ?_
      refine q_icmp_ge C 27 dX4_mark_7 (n := 10) rfl rfl (by omega) (fun h17 => ?_) (fun h17 => ?_)
      · refine q_aload_n C dX4_mark_27 (n := 28) rfl rfl ?_
        refine q_aload_n C dX4_mark_28 (n := 29) rfl rfl ?_
        refine q_callVi C dX4_mark_29 (n := 32) rfl m_X4_63 v_yX4_guardOf h0.1 ⟨by decide, rfl⟩ (c_X4_guardOf_v (w := w) (J := J3) hI4 hF h0) (Nat.le_of_ble_eq_true rfl) rfl rfl (Nat.le_of_ble_eq_true rfl) ⟨Nat.le_refl _, Nat.le_refl _⟩ (fun x27 M23 J24  hI25 h26 => ?_)
        obtain ⟨hk28, h18, h19, h20, h21, h22⟩ := h26
        have hK29 := hK5.tr hk28
        have hz30 : M2 a 3 = M a 3 := (h8)
        have hz31 : M2 a 4 = M a 4 := (h10)
        refine q_putI C dX4_mark_32 (n := 35) rfl f_X4_33 h0.1 ⟨rfl, rfl⟩ (fun M32 (e33 : M32 = zup M23 a 6 x27) => ?_)
        have hI34 : zI G M32 := hI25.put e33 h0.2.2.2.2.2.2.2.2.2.2.2.2.2 rfl (by omega)
        have hK35 := hK29.put e33 (by omega)
        exact q_vret C dX4_mark_35 ⟨rfl, rfl⟩ (by rw [hPo]; exact ⟨M32, J24, rfl, rfl, hI34, hK35, (by have hz : M32 a 3 = M a 3 := ((zup_n e33 (by omega)).trans ((h19).trans (h8))); omega), (fun i => ((zup_p e33 (by omega) _).trans ((h20 i).trans (h9 i)))), (by have hz36 : M32 a 5 = M23 a 5 := (zup_n e33 (by omega)); have hz37 : M32 a 6 = x27 := (zup_s e33); omega), (by have hz38 : M32 a 4 = M a 4 := ((zup_n e33 (by omega)).trans ((h21).trans (h10))); omega), (fun i => ((zup_p e33 (by omega) _).trans ((h22 i).trans (h11 i))))⟩)
      · refine q_aload_n C dX4_mark_10 (n := 11) rfl rfl ?_
        refine q_getR C dX4_mark_11 (n := 14) rfl f_X4_19 h0.1 (hF _ _ _ h0.2.2.2.2.2.2.2.1) ?_
        refine q_iload_n C dX4_mark_14 (n := 15) rfl rfl ?_
        refine q_aload_n C dX4_mark_15 (n := 16) rfl rfl ?_
        refine q_iload_n C dX4_mark_16 (n := 17) rfl rfl ?_
        refine q_callVp C dX4_mark_17 (n := 20) rfl m_X4_59 v_yX4_wordOf h0.1 ⟨by decide, rfl⟩ (c_X4_wordOf (w := w) (J := J3) hI4 hF h0 u1 (by omega)) (Nat.le_of_ble_eq_true rfl) rfl rfl (Nat.le_of_ble_eq_true rfl) ⟨Nat.le_refl _, Nat.le_refl _⟩ (fun x40 h41 => ?_)
        refine q_iast C dX4_mark_20 (n := 21) rfl h0.2.2.2.2.2.2.2.2.1 (by omega)  (fun M42 e43 => ?_)
        have hI44 : zI G M42 := hI4.put e43 (h0.2.2.2.2.2.2.2.2.2.1 u1) rfl (by omega)
        have hK45 := hK5.put e43 (by omega)
        refine q_iinc C [.ref (w.2.1 + a), zi (u1 + 1)] dX4_mark_21 (n := 24) rfl rfl rfl rfl ?_
        refine q_goto C 2 dX4_mark_24 rfl ?_
        exact zK.weak (ih14 (u1 + 1) M42 J3 hI44 hK45 (by omega) (by omega) (by have hz46 : M42 a 3 = M a 3 := ((zup_p e43 (by omega) _).trans (h8)); omega) (fun i => ((zup_p e43 (by omega) _).trans (h9 i))) (by have hz47 : M42 a 4 = M a 4 := ((zup_p e43 (by omega) _).trans (h10)); omega) (fun i => ((zup_p e43 (by omega) _).trans (h11 i))) (by omega)) (zwk_c (zwk_c zwk_e))
  exact zK.weak (L_12 _ 0 M J hI hK0 (by omega) (by omega) (by omega) (fun i => rfl) (by omega) (fun i => rfl) (Int.self_le_toNat _)) (zwk_c (zwk_c zwk_e))
theorem c_X4_closeLine_v {w : zWp} {T : zTl} {M : zMm} {J : zJm} {R : zRm'} {G : zGt} {F : zRm'} {a : Nat} (hI : zI G M) (hF : zF F R) (h0 : zPage T F G a) (v1 : Int) (p1 : 0 ≤ v1 ∧ v1 ≤ 401) (p2 : M (a + 2) (M a 3) ≤ v1) (p3 : zMo M a) : zCt w 1 0 0 yX4_closeLine cX4_closeLine 2 none [.ref (w.2.1 + a), zi v1] (T, M, J, R) (zPv T R G (fun M2 => (zKr a 4 M M2) ∧ (zMo M2 a) ∧ (M2 (a + 2) (M2 a 3) ≤ v1) ∧ (M a 3 < 40 ∧ M2 a 3 = M a 3 + 1 ∧ M2 (a + 2) (M2 a 3) = v1 ∨ 40 ≤ M a 3) ∧ (M2 a 4 = M a 4) ∧ (zClo M M2 a v1) ∧ (∀ i, M2 (a + 1) i = M (a + 1) i))) := by
  refine zCt.of rfl (Nat.le_of_ble_eq_true rfl) ?_
  intro p e s m args below meth c C
  obtain ⟨Po, hPo⟩ : ∃ Po, Po = zPv T R G (fun M2 => (zKr a 4 M M2) ∧ (zMo M2 a) ∧ (M2 (a + 2) (M2 a 3) ≤ v1) ∧ (M a 3 < 40 ∧ M2 a 3 = M a 3 + 1 ∧ M2 (a + 2) (M2 a 3) = v1 ∨ 40 ≤ M a 3) ∧ (M2 a 4 = M a 4) ∧ (zClo M M2 a v1) ∧ (∀ i, M2 (a + 1) i = M (a + 1) i)) := ⟨_, rfl⟩
  rw [← hPo]
  have hK0 : zKr a 4 M M := zKr.rf
  show zK w p e 1 0 0 s m args below meth c 2 T Po 0 [.ref (w.2.1 + a), zi v1] [] (T, M, J, R)
  refine q_aload_n C dX4_closeLine_0 (n := 1) rfl rfl ?_
  have g1 := zI.at hI h0.2.2.2.2.2.2.2.2.2.2.1
  refine q_getI C dX4_closeLine_1 (n := 4) rfl f_X4_22 h0.1 (v := M a 3) rfl ?_
  refine q_bipush C dX4_closeLine_4 (n := 6) rfl (x := 40) (by decide) ?_
  refine q_icmp_ge C 29 dX4_closeLine_6 (n := 9) rfl rfl (by omega) (fun h2 => ?_) (fun h2 => ?_)
  · exact q_vret C dX4_closeLine_29 ⟨rfl, rfl⟩ (by rw [hPo]; exact ⟨M, J, rfl, rfl, hI, hK0, p3, p2, (Or.inr (by omega)), (by omega), (fun h => absurd h (by omega)), (fun i => rfl)⟩)
  · refine q_aload_n C dX4_closeLine_9 (n := 10) rfl rfl ?_
    refine q_dup C dX4_closeLine_10 (n := 11) rfl rfl ?_
    refine q_getI C dX4_closeLine_11 (n := 14) rfl f_X4_22 h0.1 (v := M a 3) rfl ?_
    refine q_iconst C dX4_closeLine_14 (n := 15) rfl ?_
    refine q_iadd C dX4_closeLine_15 (n := 16) rfl (v := (M a 3) + 1) rfl ?_
    refine q_putI C dX4_closeLine_16 (n := 19) rfl f_X4_22 h0.1 ⟨rfl, rfl⟩ (fun M3 (e4 : M3 = zup M a 3 ((M a 3) + 1)) => ?_)
    have hI5 : zI G M3 := hI.put e4 h0.2.2.2.2.2.2.2.2.2.2.1 rfl (by omega)
    have hK6 := hK0.put e4 (by omega)
    refine q_aload_n C dX4_closeLine_19 (n := 20) rfl rfl ?_
    refine q_getR C dX4_closeLine_20 (n := 23) rfl f_X4_15 h0.1 (hF _ _ _ h0.2.2.2.2.1) ?_
    refine q_aload_n C dX4_closeLine_23 (n := 24) rfl rfl ?_
    refine q_getI C dX4_closeLine_24 (n := 27) rfl f_X4_22 h0.1 (v := (M a 3) + 1) (zup_s e4) ?_
    refine q_iload_n C dX4_closeLine_27 (n := 28) rfl rfl ?_
    refine q_iast C dX4_closeLine_28 (n := 29) rfl h0.2.2.2.2.2.1 (by omega)  (fun M7 e8 => ?_)
    have hI9 : zI G M7 := hI5.put e8 (h0.2.2.2.2.2.2.1 ((M a 3) + 1)) rfl (by omega)
    have hK10 := hK6.put e8 (by omega)
    exact q_vret C dX4_closeLine_29 ⟨rfl, rfl⟩ (by rw [hPo]; exact ⟨M7, J, rfl, rfl, hI9, hK10, p3.close rfl (by omega) p2 e4 e8, (by have h3 : M7 a 3 = (M a 3) + 1 := ((zup_p e8 (by omega) _).trans (zup_s e4)); rw [h3]; have h2 : M7 (a + 2) ((M a 3) + 1) = v1 := (zup_s e8); omega), (Or.inl (by have h3 : M7 a 3 = (M a 3) + 1 := ((zup_p e8 (by omega) _).trans (zup_s e4)); have h2 : M7 (a + 2) ((M a 3) + 1) = v1 := (zup_s e8); exact ⟨by omega, by omega, by rw [h3]; omega⟩)), (by have hz11 : M7 a 4 = M a 4 := ((zup_p e8 (by omega) _).trans (zup_n e4 (by omega))); omega), (fun _ => ⟨(zup_p e8 (by omega) _).trans (zup_s e4), zup_s e8, fun j hj => (zup_n e8 (by omega)).trans (zup_p e4 (by omega) _)⟩), (fun i => ((zup_p e8 (by omega) _).trans (zup_p e4 (by omega) _)))⟩)
theorem c_X4_read_v {w : zWp} {T : zTl} {M : zMm} {J : zJm} {R : zRm'} {G : zGt} {F : zRm'} {a b tb : Nat} (hI : zI G M) (hF : zF F R) (h0 : zPage T F G a) (t_b0 : T[b]? = some (51, 440)) (g_b0 : ∀ k, G b k = (tb, (-128), 127)) (v2 : Int) (p1 : 0 ≤ v2 ∧ v2 ≤ 400) (p2 : tb < 20) (p3 : zMo M a) (p4 : v2 = 0 ∨ zTen (M b) (v2 - 1).toNat + 1 ≤ 40) : zCt w 13 0 0 yX4_read cX4_read 5 none [.ref (w.2.1 + a), .ref (w.2.1 + b), zi v2] (T, M, J, R) (zPv T R G (fun M2 => (zKr a 4 M M2) ∧ (zPr M2 a) ∧ (v2 = 0 ∧ M2 a 3 = 0 ∨ 1 ≤ v2 ∧ M2 a 3 = zTen (M b) (v2 - 1).toNat + 1) ∧ (M2 a 4 = 1) ∧ (zLs M2 a (M b) v2))) := by
  refine zCt.of rfl (Nat.le_of_ble_eq_true rfl) ?_
  intro p e s m args below meth c C
  obtain ⟨Po, hPo⟩ : ∃ Po, Po = zPv T R G (fun M2 => (zKr a 4 M M2) ∧ (zPr M2 a) ∧ (v2 = 0 ∧ M2 a 3 = 0 ∨ 1 ≤ v2 ∧ M2 a 3 = zTen (M b) (v2 - 1).toNat + 1) ∧ (M2 a 4 = 1) ∧ (zLs M2 a (M b) v2)) := ⟨_, rfl⟩
  rw [← hPo]
  have hK0 : zKr a 4 M M := zKr.rf
  have hbd : b + 1 ≤ a ∨ a + 4 ≤ b := zPgB h0 t_b0
  have gz0 := zTen_0 (g := M b)
  show zK w p e 13 0 0 s m args below meth c 5 T Po 0 [.ref (w.2.1 + a), .ref (w.2.1 + b), zi v2, .null, .null] [] (T, M, J, R)
  refine q_aload_n C dX4_read_0 (n := 1) rfl rfl ?_
  refine q_iconst C dX4_read_1 (n := 2) rfl ?_
  refine q_putZ C dX4_read_2 (n := 5) rfl f_X4_26 h0.1 ⟨rfl, rfl⟩ (by omega) (fun M1 (e2 : M1 = zup M a 4 1) => ?_)
  have hI3 : zI G M1 := hI.put e2 h0.2.2.2.2.2.2.2.2.2.2.2.1 rfl (by omega)
  have hK4 := hK0.put e2 (by omega)
  refine q_aload_n C dX4_read_5 (n := 6) rfl rfl ?_
  refine q_iconst C dX4_read_6 (n := 7) rfl ?_
  refine q_putI C dX4_read_7 (n := 10) rfl f_X4_22 h0.1 ⟨rfl, rfl⟩ (fun M5 (e6 : M5 = zup M1 a 3 0) => ?_)
  have hI7 : zI G M5 := hI3.put e6 h0.2.2.2.2.2.2.2.2.2.2.1 rfl (by omega)
  have hK8 := hK4.put e6 (by omega)
  refine q_iconst C dX4_read_10 (n := 11) rfl ?_
  refine q_istore_n C [.ref (w.2.1 + a), .ref (w.2.1 + b), zi v2, zi 0, .null] dX4_read_11 (n := 12) rfl rfl rfl ?_
  refine q_iconst C dX4_read_12 (n := 13) rfl ?_
  refine q_istore C [.ref (w.2.1 + a), .ref (w.2.1 + b), zi v2, zi 0, zi 0] dX4_read_13 (n := 15) rfl rfl rfl ?_
  have L_26 : ∀ n27 : Nat, ∀ (u9 : Int) (u10 : Int) (M11 : zMm) (J12 : zJm), zI G M11 → zKr a 4 M M11 → (-2147483648 ≤ u9 ∧ u9 ≤ 2147483647) → (-2147483648 ≤ u10 ∧ u10 ≤ 2147483647) → (0 ≤ u10 ∧ u10 ≤ v2) → (u9 = u10) → (zMo M11 a) → (M11 (a + 2) (M11 a 3) ≤ u9) → (∀ i, M11 b i = M b i) → (M11 a 3 = zTen (M b) (u10 : Int).toNat) → (M11 (a + 2) (M11 a 3) = u9 ∧ (u10 = 0 ∨ M b (u10 - 1) = 10) ∨ M11 (a + 2) (M11 a 3) < u9 ∧ 1 ≤ u10 ∧ M b (u10 - 1) ≠ 10) → (M11 a 4 = 1) → (zRl M11 a (M b) u10) → (440 - u10 + 1 ≤ (n27 : Int)) → zK w p e 13 0 0 s m args below meth c 5 T Po 15 [.ref (w.2.1 + a), .ref (w.2.1 + b), zi v2, zi u9, zi u10] [] (T, M11, J12, R) := by
    intro n27
    induction n27 with
    | zero =>
      intro u9 u10 M11 J12 hI13 hK14 h15 h16 h17 h18 h19 h20 h21 h22 h23 h24 h25 hm29
      exfalso
      omega
    | succ n27 ih28 =>
      intro u9 u10 M11 J12 hI13 hK14 h15 h16 h17 h18 h19 h20 h21 h22 h23 h24 h25 hm29
      have gE := zTen_e (g := M b) (i := u10) (v := v2) (by omega)
      refine q_iload C dX4_read_15 (n := 17) rfl rfl ?_
      refine q_iload_n C dX4_read_17 (n := 18) rfl rfl ?_
      have J_31 : (v2 ≤ u10) → zK w p e 13 0 0 s m args below meth c 5 T Po 68 [.ref (w.2.1 + a), .null, .null, zi u9, .null] [] (T, M11, J12, R) := by
        intro h30
        refine q_iload_n C dX4_read_68 (n := 69) rfl rfl ?_
        refine q_aload_n C dX4_read_69 (n := 70) rfl rfl ?_
        refine q_getR C dX4_read_70 (n := 73) rfl f_X4_15 h0.1 (hF _ _ _ h0.2.2.2.2.1) ?_
        refine q_aload_n C dX4_read_73 (n := 74) rfl rfl ?_
        have g32 := zI.at hI13 h0.2.2.2.2.2.2.2.2.2.2.1
        refine q_getI C dX4_read_74 (n := 77) rfl f_X4_22 h0.1 (v := M11 a 3) rfl ?_
        have g33 := zI.at hI13 (h0.2.2.2.2.2.2.1 (M11 a 3))
        refine q_iald C dX4_read_77 (n := 78) rfl h0.2.2.2.2.2.1 (by omega) (v := M11 (a + 2) (M11 a 3)) rfl ?_
        have J_42 : ∀ (M34 : zMm) (J35 : zJm), zI G M34 → zKr a 4 M M34 → (zMo M34 a) → (v2 = 0 ∧ M34 a 3 = 0 ∨ 1 ≤ v2 ∧ M34 a 3 = zTen (M b) (v2 - 1).toNat + 1) → (M34 a 4 = 1) → (zLs M34 a (M b) v2) → zK w p e 13 0 0 s m args below meth c 5 T Po 103 [.ref (w.2.1 + a), .null, .null, .null, .null] [] (T, M34, J35, R) := by
          intro M34 J35 hI36 hK37 h38 h39 h40 h41
          refine q_aload_n C dX4_read_103 (n := 104) rfl rfl ?_
          refine q_callVv C dX4_read_104 (n := 107) rfl m_X4_40 v_yX4_mark h0.1 ⟨by decide, rfl⟩ (c_X4_mark_v (w := w) (J := J35) hI36 hF h0) (Nat.le_of_ble_eq_true rfl) rfl rfl (Nat.le_of_ble_eq_true rfl) ⟨Nat.le_refl _, Nat.le_refl _⟩ (fun M48 J49  hI50 h51 => ?_)
          obtain ⟨hk52, h43, h44, h45, h46, h47⟩ := h51
          have hK53 := hK37.tr hk52
          exact q_vret C dX4_read_107 ⟨rfl, rfl⟩ (by rw [hPo]; exact ⟨M48, J49, rfl, rfl, hI50, hK53, ⟨(h38.cg (h43) (fun i => (h44 i))), h45⟩, (by have hz54 : M48 a 3 = M34 a 3 := (h43); omega), (by have hz55 : M48 a 4 = M34 a 4 := (h46); omega), (zLs.cg h41 ⟨(h46), (h43), fun i => (h44 i)⟩ (fun _ => rfl) rfl)⟩)
        refine q_icmp_le C 103 dX4_read_78 (n := 81) rfl rfl (by omega) (fun h56 => ?_) (fun h56 => ?_)
        · exact zK.weak (J_42 M11 J12 hI13 hK14 h19 (by omega) (by omega) (zRl.ls h25 (by omega))) (zwk_c (zwk_n (zwk_n (zwk_n (zwk_n zwk_e)))))
        · refine q_iload_n C dX4_read_81 (n := 82) rfl rfl ?_
          refine q_sipush C dX4_read_82 (n := 85) rfl (x := 401) (by decide) ?_
          refine q_icmp_ge C 103 dX4_read_85 (n := 88) rfl rfl (by omega) (fun h57 => ?_) (fun h57 => ?_)
          · exact zK.weak (J_42 M11 J12 hI13 hK14 h19 (by omega) (by omega) (zRl.ls h25 (by omega))) (zwk_c (zwk_n (zwk_n (zwk_n (zwk_n zwk_e)))))
          · refine q_aload_n C dX4_read_88 (n := 89) rfl rfl ?_
            refine q_getR C dX4_read_89 (n := 92) rfl f_X4_9 h0.1 (hF _ _ _ h0.2.1) ?_
            refine q_iload_n C dX4_read_92 (n := 93) rfl rfl ?_
            refine q_bipush C dX4_read_93 (n := 95) rfl (x := 10) (by decide) ?_
            refine q_bast C dX4_read_95 (n := 96) rfl h0.2.2.1 (by omega) (by omega) (fun M58 e59 => ?_)
            have hI60 : zI G M58 := hI13.put e59 (h0.2.2.2.1 u9) rfl (by omega)
            have hK61 := hK14.put e59 (by omega)
            refine q_aload_n C dX4_read_96 (n := 97) rfl rfl ?_
            refine q_iload_n C dX4_read_97 (n := 98) rfl rfl ?_
            refine q_iconst C dX4_read_98 (n := 99) rfl ?_
            refine q_iadd C dX4_read_99 (n := 100) rfl (v := u9 + 1) rfl ?_
            refine q_callVv C dX4_read_100 (n := 103) rfl m_X4_36 v_yX4_closeLine h0.1 ⟨by decide, rfl⟩ (c_X4_closeLine_v (w := w) (J := J12) hI60 hF h0 (u9 + 1) (by omega) (by have h3 : M58 a 3 = M11 a 3 := (zup_p e59 (by omega) _); have h2 : ∀ i, M58 (a + 2) i = M11 (a + 2) i := (fun i => (zup_p e59 (by omega) _)); rw [h3, h2]; omega) (h19.cg (zup_p e59 (by omega) _) (fun i => (zup_p e59 (by omega) _)))) (Nat.le_of_ble_eq_true rfl) rfl rfl (Nat.le_of_ble_eq_true rfl) ⟨Nat.le_refl _, Nat.le_refl _⟩ (fun M68 J69  hI70 h71 => ?_)
            obtain ⟨hk72, h62, h63, h64, h65, h66, h67⟩ := h71
            have hK73 := hK61.tr hk72
            have hz74 : M58 a 3 = M11 a 3 := (zup_p e59 (by omega) _)
            have hz75 : M58 a 4 = M11 a 4 := (zup_p e59 (by omega) _)
            exact zK.weak (J_42 M68 J69 hI70 hK73 h62 (by omega) (by have hz76 : M68 a 4 = M11 a 4 := ((h65).trans (zup_p e59 (by omega) _)); omega) (zRl.fin2 (zRl.cg h25 (zup_p e59 (by omega) _) (fun i => (zup_p e59 (by omega) _))) h66 (by omega) (by omega) (by omega) (by omega))) (zwk_c (zwk_n (zwk_n (zwk_n (zwk_n zwk_e)))))
      refine q_icmp_ge C 68 dX4_read_18 (n := 21) rfl rfl (by omega) (fun h77 => ?_) (fun h77 => ?_)
      · exact zK.weak (J_31 (by omega)) (zwk_c (zwk_n (zwk_n (zwk_c (zwk_n zwk_e)))))
      · refine q_iload C dX4_read_21 (n := 23) rfl rfl ?_
        refine q_aload_n C dX4_read_23 (n := 24) rfl rfl ?_
        refine q_alen C dX4_read_24 (n := 25) rfl ⟨by decide, by decide⟩ t_b0 ?_
        show zK w p e 13 0 0 s m args below meth c 5 T Po 25 [.ref (w.2.1 + a), .ref (w.2.1 + b), zi v2, zi u9, zi u10] [zi 440, zi u10] (T, M11, J12, R)
        refine q_icmp_ge C 68 dX4_read_25 (n := 28) rfl rfl (by omega) (fun h78 => ?_) (fun h78 => ?_)
        · exact zK.weak (J_31 (by omega)) (zwk_c (zwk_n (zwk_n (zwk_c (zwk_n zwk_e)))))
        · refine q_iload_n C dX4_read_28 (n := 29) rfl rfl ?_
          refine q_sipush C dX4_read_29 (n := 32) rfl (x := 401) (by decide) ?_
          refine q_icmp_ge C 68 dX4_read_32 (n := 35) rfl rfl (by omega) (fun h79 => ?_) (fun h79 => ?_)
          · exact zK.weak (J_31 (by omega)) (zwk_c (zwk_n (zwk_n (zwk_c (zwk_n zwk_e)))))
          · refine q_aload_n C dX4_read_35 (n := 36) rfl rfl ?_
            refine q_getR C dX4_read_36 (n := 39) rfl f_X4_9 h0.1 (hF _ _ _ h0.2.1) ?_
            refine q_iload_n C dX4_read_39 (n := 40) rfl rfl ?_
            refine q_aload_n C dX4_read_40 (n := 41) rfl rfl ?_
            refine q_iload C dX4_read_41 (n := 43) rfl rfl ?_
            have g80 := zI.at hI (g_b0 u10)
            refine q_bald C dX4_read_43 (n := 44) rfl t_b0 (by omega) (v := M b u10) (h21 u10) ?_
            refine q_bast C dX4_read_44 (n := 45) rfl h0.2.2.1 (by omega) (by omega) (fun M81 e82 => ?_)
            have hI83 : zI G M81 := hI13.put e82 (h0.2.2.2.1 u9) rfl (by omega)
            have hK84 := hK14.put e82 (by omega)
            have gs := zTen_s (g := M b) (i := u10) (by omega)
            have gm := zTen_le (g := M b) (i := u10) (j := v2 - 1) (by omega)
            refine q_iinc C [.ref (w.2.1 + a), .ref (w.2.1 + b), zi v2, zi (u9 + 1), zi u10] dX4_read_45 (n := 48) rfl rfl rfl rfl ?_
            refine q_aload_n C dX4_read_48 (n := 49) rfl rfl ?_
            refine q_iload C dX4_read_49 (n := 51) rfl rfl ?_
            refine q_bald C dX4_read_51 (n := 52) rfl t_b0 (by omega) (v := M b u10) ((zup_p e82 (by omega) _).trans (h21 u10)) ?_
            refine q_bipush C dX4_read_52 (n := 54) rfl (x := 10) (by decide) ?_
            have J_96 : ∀ (M85 : zMm) (J86 : zJm), zI G M85 → zKr a 4 M M85 → (zMo M85 a) → (M85 (a + 2) (M85 a 3) ≤ (u9 + 1)) → (∀ i, M85 b i = M b i) → (M85 a 3 = zTen (M b) (u10 + 1 : Int).toNat) → (M85 (a + 2) (M85 a 3) = (u9 + 1) ∧ M b u10 = 10 ∨ M85 (a + 2) (M85 a 3) < (u9 + 1) ∧ M b u10 ≠ 10) → (M85 a 4 = 1) → (zRl M85 a (M b) (u10 + 1)) → zK w p e 13 0 0 s m args below meth c 5 T Po 62 [.ref (w.2.1 + a), .ref (w.2.1 + b), zi v2, zi (u9 + 1), zi u10] [] (T, M85, J86, R) := by
              intro M85 J86 hI87 hK88 h89 h90 h91 h92 h93 h94 h95
              refine q_iinc C [.ref (w.2.1 + a), .ref (w.2.1 + b), zi v2, zi (u9 + 1), zi (u10 + 1)] dX4_read_62 (n := 65) rfl rfl rfl rfl ?_
              refine q_goto C 15 dX4_read_65 rfl ?_
              exact zK.weak (ih28 (u9 + 1) (u10 + 1) M85 J86 hI87 hK88 (by omega) (by omega) (by omega) (by omega) h89 (by omega) (fun i => (h91 i)) (by omega) (by rw [show (u10 + 1 : Int) - 1 = u10 by omega]; omega) (by omega) h95 (by omega)) (zwk_c (zwk_c (zwk_c (zwk_c (zwk_c zwk_e)))))
            refine q_icmp_ne C 62 dX4_read_54 (n := 57) rfl rfl (by omega) (fun h97 => ?_) (fun h97 => ?_)
            · exact zK.weak (J_96 M81 J12 hI83 hK84 (h19.cg (zup_p e82 (by omega) _) (fun i => (zup_p e82 (by omega) _))) (by have h3 : M81 a 3 = M11 a 3 := (zup_p e82 (by omega) _); have h2 : ∀ i, M81 (a + 2) i = M11 (a + 2) i := (fun i => (zup_p e82 (by omega) _)); rw [h3, h2]; omega) (fun i => ((zup_p e82 (by omega) _).trans (h21 i))) (by have hz98 : M81 a 3 = M11 a 3 := (zup_p e82 (by omega) _); omega) (by have h3 : M81 a 3 = M11 a 3 := (zup_p e82 (by omega) _); have h2 : ∀ i, M81 (a + 2) i = M11 (a + 2) i := (fun i => (zup_p e82 (by omega) _)); rw [h3, h2]; omega) (by have hz99 : M81 a 4 = M11 a 4 := (zup_p e82 (by omega) _); omega) (zRl.byte (zRl.cg h25 (zup_p e82 (by omega) _) (fun i => (zup_p e82 (by omega) _))) (by omega))) (zwk_c (zwk_c (zwk_c (zwk_c (zwk_c zwk_e)))))
            · refine q_aload_n C dX4_read_57 (n := 58) rfl rfl ?_
              refine q_iload_n C dX4_read_58 (n := 59) rfl rfl ?_
              refine q_callVv C dX4_read_59 (n := 62) rfl m_X4_36 v_yX4_closeLine h0.1 ⟨by decide, rfl⟩ (c_X4_closeLine_v (w := w) (J := J12) hI83 hF h0 (u9 + 1) (by omega) (by have h3 : M81 a 3 = M11 a 3 := (zup_p e82 (by omega) _); have h2 : ∀ i, M81 (a + 2) i = M11 (a + 2) i := (fun i => (zup_p e82 (by omega) _)); rw [h3, h2]; omega) (h19.cg (zup_p e82 (by omega) _) (fun i => (zup_p e82 (by omega) _)))) (Nat.le_of_ble_eq_true rfl) rfl rfl (Nat.le_of_ble_eq_true rfl) ⟨Nat.le_refl _, Nat.le_refl _⟩ (fun M106 J107  hI108 h109 => ?_)
              obtain ⟨hk110, h100, h101, h102, h103, h104, h105⟩ := h109
              have hK111 := hK84.tr hk110
              have hz112 : M81 a 3 = M11 a 3 := (zup_p e82 (by omega) _)
              have hz113 : M81 a 4 = M11 a 4 := (zup_p e82 (by omega) _)
              exact zK.weak (J_96 M106 J107 hI108 hK111 h100 (by omega) (fun i => ((hk110 _ _ (by omega)).trans ((zup_p e82 (by omega) _).trans (h21 i)))) (by omega) (by omega) (by have hz114 : M106 a 4 = M11 a 4 := ((h103).trans (zup_p e82 (by omega) _)); omega) (zRl.close (zRl.cg h25 (zup_p e82 (by omega) _) (fun i => (zup_p e82 (by omega) _))) (by omega) h104 (by omega) (by omega) (by omega))) (zwk_c (zwk_c (zwk_c (zwk_c (zwk_c zwk_e)))))
  exact zK.weak (L_26 _ 0 0 M5 J hI7 hK8 (by omega) (by omega) (by omega) (by omega) (zMo.nil (by have hz : M5 a 3 = 0 := (zup_s e6); omega) (((zup_p e6 (by omega) _).trans (zup_p e2 (by omega) _)).trans p3.2)) (by have h3 : M5 a 3 = 0 := (zup_s e6); rw [h3]; have h2 : M5 (a + 2) 0 = 0 := (((zup_p e6 (by omega) _).trans (zup_p e2 (by omega) _)).trans p3.2); omega) (fun i => ((zup_p e6 (by omega) _).trans (zup_p e2 (by omega) _))) (by have hz115 : M5 a 3 = 0 := (zup_s e6); omega) (Or.inl ⟨by have h3 : M5 a 3 = 0 := (zup_s e6); rw [h3]; exact (((zup_p e6 (by omega) _).trans (zup_p e2 (by omega) _)).trans p3.2), Or.inl rfl⟩) (by have hz116 : M5 a 4 = 1 := ((zup_n e6 (by omega)).trans (zup_s e2)); omega) (zRl.nil (zup_s e6) (((zup_p e6 (by omega) _).trans (zup_p e2 (by omega) _)).trans p3.2)) (Int.self_le_toNat _)) (zwk_c (zwk_c (zwk_c (zwk_c (zwk_c zwk_e)))))
theorem c_X4_change_v {w : zWp} {T : zTl} {M : zMm} {J : zJm} {R : zRm'} {G : zGt} {F : zRm'} {a b tb : Nat} (hI : zI G M) (hF : zF F R) (h0 : zPage T F G a) (v1 : Int) (t_b0 : T[b]? = some (51, 440)) (g_b0 : ∀ k, G b k = (tb, (-128), 127)) (v3 : Int) (p1 : 0 ≤ v1 ∧ v1 ≤ M a 3) (p2 : 0 ≤ v3 ∧ v3 ≤ 440) (p3 : tb < 20) (p4 : zPr M a) : zCt w 13 0 0 yX4_change cX4_change 8 (some .boolean) [.ref (w.2.1 + a), zi v1, .ref (w.2.1 + b), zi v3] (T, M, J, R) (zPi T R G (fun x M2 => (zKr a 4 M M2) ∧ (x = 0 ∨ x = 1) ∧ (zPr M2 a) ∧ (x = 0 → M2 = M) ∧ (zChx M a v1 v3 x) ∧ (x = 1 → zChg M M2 a v1 v3))) := by
  refine zCt.of rfl (Nat.le_of_ble_eq_true rfl) ?_
  intro p e s m args below meth c C
  obtain ⟨Po, hPo⟩ : ∃ Po, Po = zPi T R G (fun x M2 => (zKr a 4 M M2) ∧ (x = 0 ∨ x = 1) ∧ (zPr M2 a) ∧ (x = 0 → M2 = M) ∧ (zChx M a v1 v3 x) ∧ (x = 1 → zChg M M2 a v1 v3)) := ⟨_, rfl⟩
  rw [← hPo]
  have hK0 : zKr a 4 M M := zKr.rf
  show zK w p e 13 0 0 s m args below meth c 8 T Po 0 [.ref (w.2.1 + a), zi v1, .ref (w.2.1 + b), zi v3, .null, .null, .null, .null] [] (T, M, J, R)
  have q0 := zI.at hI h0.2.2.2.2.2.2.2.2.2.2.1
  have q1 := p4.1.lt (i := v1) (j := M a 3) (by omega) (by omega) (by omega)
  have q2 : v1 < M a 3 → M (a + 2) v1 ≤ M (a + 2) (v1 + 1) := fun h => p4.1.1 v1 (by omega) h
  have q3 : v1 < M a 3 → M (a + 2) (v1 + 1) ≤ M (a + 2) (M a 3) := fun h => p4.1.lt (by omega) (by omega) (by omega)
  have qSL : ¬ v1 = M a 3 ∨ M (a + 2) v1 = M (a + 2) (M a 3) := (Decidable.em (v1 = M a 3)).symm.imp id (fun h => by rw [h])
  refine q_iload_n C dX4_change_0 (n := 1) rfl rfl ?_
  refine q_aload_n C dX4_change_1 (n := 2) rfl rfl ?_
  have g1 := zI.at hI h0.2.2.2.2.2.2.2.2.2.2.1
  refine q_getI C dX4_change_2 (n := 5) rfl f_X4_22 h0.1 (v := M a 3) rfl ?_
  have J_6 : ∀ (u2 : Int), (-2147483648 ≤ u2 ∧ u2 ≤ 2147483647) → (u2 = 0 ∨ u2 = 1) → (u2 = 1 ∧ v1 = M a 3 ∨ u2 = 0 ∧ ¬ v1 = M a 3) → zK w p e 13 0 0 s m args below meth c 8 T Po 13 [.ref (w.2.1 + a), zi v1, .ref (w.2.1 + b), zi v3, .null, .null, .null, .null] [zi u2] (T, M, J, R) := by
    intro u2 h3 h4 h5
    refine q_istore C [.ref (w.2.1 + a), zi v1, .ref (w.2.1 + b), zi v3, zi u2, .null, .null, .null] dX4_change_13 (n := 15) rfl rfl rfl ?_
    refine q_iload C dX4_change_15 (n := 17) rfl rfl ?_
    have J_10 : ∀ (u7 : Int), (-2147483648 ≤ u7 ∧ u7 ≤ 2147483647) → ((u7 = M (a + 2) (M a 3) ∧ v1 = M a 3) ∨ (u7 = M (a + 2) (v1 + 1) ∧ v1 < M a 3)) → zK w p e 13 0 0 s m args below meth c 8 T Po 40 [.ref (w.2.1 + a), zi v1, .ref (w.2.1 + b), zi v3, zi u2, .null, .null, .null] [zi u7] (T, M, J, R) := by
      intro u7 h8 h9
      refine q_istore C [.ref (w.2.1 + a), zi v1, .ref (w.2.1 + b), zi v3, zi u2, zi u7, .null, .null] dX4_change_40 (n := 42) rfl rfl rfl ?_
      refine q_aload_n C dX4_change_42 (n := 43) rfl rfl ?_
      refine q_getR C dX4_change_43 (n := 46) rfl f_X4_15 h0.1 (hF _ _ _ h0.2.2.2.2.1) ?_
      refine q_iload_n C dX4_change_46 (n := 47) rfl rfl ?_
      have g11 := zI.at hI (h0.2.2.2.2.2.2.1 v1)
      refine q_iald C dX4_change_47 (n := 48) rfl h0.2.2.2.2.2.1 (by omega) (v := M (a + 2) v1) rfl ?_
      refine q_iload_n C dX4_change_48 (n := 49) rfl rfl ?_
      refine q_iadd C dX4_change_49 (n := 50) rfl (v := (M (a + 2) v1) + v3) rfl ?_
      refine q_iconst C dX4_change_50 (n := 51) rfl ?_
      refine q_iadd C dX4_change_51 (n := 52) rfl (v := ((M (a + 2) v1) + v3) + 1) rfl ?_
      refine q_iload C dX4_change_52 (n := 54) rfl rfl ?_
      refine q_isub C dX4_change_54 (n := 55) rfl (v := (((M (a + 2) v1) + v3) + 1) - u7) rfl ?_
      refine q_istore C [.ref (w.2.1 + a), zi v1, .ref (w.2.1 + b), zi v3, zi u2, zi u7, zi ((((M (a + 2) v1) + v3) + 1) - u7), .null] dX4_change_55 (n := 57) rfl rfl rfl ?_
      refine q_aload_n C dX4_change_57 (n := 58) rfl rfl ?_
      refine q_getR C dX4_change_58 (n := 61) rfl f_X4_15 h0.1 (hF _ _ _ h0.2.2.2.2.1) ?_
      refine q_aload_n C dX4_change_61 (n := 62) rfl rfl ?_
      refine q_getI C dX4_change_62 (n := 65) rfl f_X4_22 h0.1 (v := M a 3) rfl ?_
      have g12 := zI.at hI (h0.2.2.2.2.2.2.1 (M a 3))
      refine q_iald C dX4_change_65 (n := 66) rfl h0.2.2.2.2.2.1 (by omega) (v := M (a + 2) (M a 3)) rfl ?_
      refine q_iload C dX4_change_66 (n := 68) rfl rfl ?_
      refine q_iadd C dX4_change_68 (n := 69) rfl (v := (M (a + 2) (M a 3)) + ((((M (a + 2) v1) + v3) + 1) - u7)) rfl ?_
      refine q_sipush C dX4_change_69 (n := 72) rfl (x := 400) (by decide) ?_
      refine q_icmp_gt C 89 dX4_change_72 (n := 75) rfl rfl (by omega) (fun h13 => ?_) (fun h13 => ?_)
      · refine q_iconst C dX4_change_89 (n := 90) rfl ?_
        exact q_zret C dX4_change_90 ⟨rfl, rfl⟩ (by omega) (by rw [hPo]; exact ⟨0, M, J, rfl, rfl, hI, hK0, by omega, p4, (fun _ => rfl), (by unfold zChx; omega), (fun h => absurd h (by decide))⟩)
      · refine q_iload C dX4_change_75 (n := 77) rfl rfl ?_
        have J_15 : (u2 = 0 ∨ M a 3 < 40) → zK w p e 13 0 0 s m args below meth c 8 T Po 91 [.ref (w.2.1 + a), zi v1, .ref (w.2.1 + b), zi v3, zi u2, zi u7, zi ((((M (a + 2) v1) + v3) + 1) - u7), .null] [] (T, M, J, R) := by
          intro h14
          refine q_iload C dX4_change_91 (n := 93) rfl rfl ?_
          have J_22 : ∀ (M16 : zMm) (J17 : zJm), zI G M16 → zKr a 4 M M16 → (zCg M16 a v1 v3 u7 ((((M (a + 2) v1) + v3) + 1) - u7)) → (zCh0 M M16 a v1) → zK w p e 13 0 0 s m args below meth c 8 T Po 117 [.ref (w.2.1 + a), zi v1, .ref (w.2.1 + b), zi v3, .null, zi u7, zi ((((M (a + 2) v1) + v3) + 1) - u7), .null] [] (T, M16, J17, R) := by
            intro M16 J17 hI18 hK19 h20 h21
            obtain ⟨c1, c2, c3, c4, c5, c6⟩ := id h20
            have c7 := c1.lt (i := v1 + 1) (j := M16 a 3) (by omega) (by omega) (by omega)
            have c8 := c1.1 v1 (by omega) (by omega)
            have c9 := zI.at hI18 (h0.2.2.2.2.2.2.1 (v1 + 1))
            have c10 := zI.at hI18 (h0.2.2.2.2.2.2.1 v1)
            have c11 := zI.at hI18 (h0.2.2.2.2.2.2.1 (M16 a 3))
            refine q_aload_n C dX4_change_117 (n := 118) rfl rfl ?_
            refine q_getR C dX4_change_118 (n := 121) rfl f_X4_9 h0.1 (hF _ _ _ h0.2.1) ?_
            refine q_iload C dX4_change_121 (n := 123) rfl rfl ?_
            refine q_aload_n C dX4_change_123 (n := 124) rfl rfl ?_
            refine q_getR C dX4_change_124 (n := 127) rfl f_X4_9 h0.1 (hF _ _ _ h0.2.1) ?_
            refine q_iload C dX4_change_127 (n := 129) rfl rfl ?_
            refine q_iload C dX4_change_129 (n := 131) rfl rfl ?_
            refine q_iadd C dX4_change_131 (n := 132) rfl (v := u7 + ((((M (a + 2) v1) + v3) + 1) - u7)) rfl ?_
            refine q_aload_n C dX4_change_132 (n := 133) rfl rfl ?_
            refine q_getR C dX4_change_133 (n := 136) rfl f_X4_15 h0.1 (hF _ _ _ h0.2.2.2.2.1) ?_
            refine q_aload_n C dX4_change_136 (n := 137) rfl rfl ?_
            have g23 := zI.at hI18 h0.2.2.2.2.2.2.2.2.2.2.1
            refine q_getI C dX4_change_137 (n := 140) rfl f_X4_22 h0.1 (v := M16 a 3) rfl ?_
            have g24 := zI.at hI18 (h0.2.2.2.2.2.2.1 (M16 a 3))
            refine q_iald C dX4_change_140 (n := 141) rfl h0.2.2.2.2.2.1 (by omega) (v := M16 (a + 2) (M16 a 3)) rfl ?_
            refine q_iload C dX4_change_141 (n := 143) rfl rfl ?_
            refine q_isub C dX4_change_143 (n := 144) rfl (v := (M16 (a + 2) (M16 a 3)) - u7) rfl ?_
            refine q_copyB C dX4_change_144 (n := 147) rfl x_X4_43 h0.2.2.1 h0.2.2.1 (by omega) (fun j => by have := zI.at hI18 (h0.2.2.2.1 j); omega) (Nat.le_of_ble_eq_true rfl) (Nat.le_of_ble_eq_true rfl) (fun M25 e26 => ?_)
            have hI27 : zI G M25 := hI18.cp e26 h0.2.2.2.1 h0.2.2.2.1 rfl (by omega)
            have hK28 := hK19.cp e26 (by omega)
            refine q_aload_n C dX4_change_147 (n := 148) rfl rfl ?_
            refine q_iconst C dX4_change_148 (n := 149) rfl ?_
            refine q_aload_n C dX4_change_149 (n := 150) rfl rfl ?_
            refine q_getR C dX4_change_150 (n := 153) rfl f_X4_9 h0.1 (hF _ _ _ h0.2.1) ?_
            refine q_aload_n C dX4_change_153 (n := 154) rfl rfl ?_
            refine q_getR C dX4_change_154 (n := 157) rfl f_X4_15 h0.1 (hF _ _ _ h0.2.2.2.2.1) ?_
            refine q_iload_n C dX4_change_157 (n := 158) rfl rfl ?_
            have g29 := zI.at hI18 (h0.2.2.2.2.2.2.1 v1)
            refine q_iald C dX4_change_158 (n := 159) rfl h0.2.2.2.2.2.1 (by omega) (v := M16 (a + 2) v1) (zcp_p e26 (by omega) _) ?_
            refine q_iload_n C dX4_change_159 (n := 160) rfl rfl ?_
            refine q_copyB C dX4_change_160 (n := 163) rfl x_X4_43 t_b0 h0.2.2.1 (by omega) (fun j => by have := zI.at hI27 (g_b0 j); omega) (Nat.le_of_ble_eq_true rfl) (Nat.le_of_ble_eq_true rfl) (fun M30 e31 => ?_)
            have hI32 : zI G M30 := hI27.cp e31 g_b0 h0.2.2.2.1 rfl (by omega)
            have hK33 := hK28.cp e31 (by omega)
            refine q_aload_n C dX4_change_163 (n := 164) rfl rfl ?_
            refine q_getR C dX4_change_164 (n := 167) rfl f_X4_9 h0.1 (hF _ _ _ h0.2.1) ?_
            refine q_aload_n C dX4_change_167 (n := 168) rfl rfl ?_
            refine q_getR C dX4_change_168 (n := 171) rfl f_X4_15 h0.1 (hF _ _ _ h0.2.2.2.2.1) ?_
            refine q_iload_n C dX4_change_171 (n := 172) rfl rfl ?_
            refine q_iald C dX4_change_172 (n := 173) rfl h0.2.2.2.2.2.1 (by omega) (v := M16 (a + 2) v1) ((zcp_p e31 (by omega) _).trans (zcp_p e26 (by omega) _)) ?_
            refine q_iload_n C dX4_change_173 (n := 174) rfl rfl ?_
            refine q_iadd C dX4_change_174 (n := 175) rfl (v := (M16 (a + 2) v1) + v3) rfl ?_
            refine q_bipush C dX4_change_175 (n := 177) rfl (x := 10) (by decide) ?_
            refine q_bast C dX4_change_177 (n := 178) rfl h0.2.2.1 (by omega) (by omega) (fun M34 e35 => ?_)
            have hI36 : zI G M34 := hI32.put e35 (h0.2.2.2.1 ((M16 (a + 2) v1) + v3)) rfl (by omega)
            have hK37 := hK33.put e35 (by omega)
            refine q_iload_n C dX4_change_178 (n := 179) rfl rfl ?_
            refine q_iconst C dX4_change_179 (n := 180) rfl ?_
            refine q_iadd C dX4_change_180 (n := 181) rfl (v := v1 + 1) rfl ?_
            refine q_istore C [.ref (w.2.1 + a), zi v1, .ref (w.2.1 + b), zi v3, .null, zi u7, zi ((((M (a + 2) v1) + v3) + 1) - u7), zi (v1 + 1)] dX4_change_181 (n := 183) rfl rfl rfl ?_
            have L_46 : ∀ n47 : Nat, ∀ (u38 : Int) (M39 : zMm) (J40 : zJm), zI G M39 → zKr a 4 M M39 → (-2147483648 ≤ u38 ∧ u38 ≤ 2147483647) → (zCl M34 M39 a v1 v3 u7 ((((M (a + 2) v1) + v3) + 1) - u7) u38) → (M39 a 4 = M34 a 4) → (42 - u38 ≤ (n47 : Int)) → zK w p e 13 0 0 s m args below meth c 8 T Po 183 [.ref (w.2.1 + a), .null, .null, .null, .null, .null, zi ((((M (a + 2) v1) + v3) + 1) - u7), zi u38] [] (T, M39, J40, R) := by
              intro n47
              induction n47 with
              | zero =>
                intro u38 M39 J40 hI41 hK42 h43 h44 h45 hm49
                exfalso
                have s1 := zCl.size h44
                omega
              | succ n47 ih48 =>
                intro u38 M39 J40 hI41 hK42 h43 h44 h45 hm49
                have s1 := zCl.size h44
                refine q_iload C dX4_change_183 (n := 185) rfl rfl ?_
                refine q_aload_n C dX4_change_185 (n := 186) rfl rfl ?_
                have g50 := zI.at hI41 h0.2.2.2.2.2.2.2.2.2.2.1
                refine q_getI C dX4_change_186 (n := 189) rfl f_X4_22 h0.1 (v := M39 a 3) rfl ?_
                refine q_icmp_gt C 210 dX4_change_189 (n := 192) rfl rfl (by omega) (fun h51 => ?_) (fun h51 => ?_)
                · have s3 := h44.fin (by omega)
                  refine q_aload_n C dX4_change_210 (n := 211) rfl rfl ?_
                  refine q_callVv C dX4_change_211 (n := 214) rfl m_X4_40 v_yX4_mark h0.1 ⟨by decide, rfl⟩ (c_X4_mark_v (w := w) (J := J40) hI41 hF h0) (Nat.le_of_ble_eq_true rfl) rfl rfl (Nat.le_of_ble_eq_true rfl) ⟨Nat.le_refl _, Nat.le_refl _⟩ (fun M57 J58  hI59 h60 => ?_)
                  obtain ⟨hk61, h52, h53, h54, h55, h56⟩ := h60
                  have hK62 := hK42.tr hk61
                  have hz63 : M39 a 4 = M16 a 4 := ((h45).trans ((zup_p e35 (by omega) _).trans ((zcp_p e31 (by omega) _).trans (zcp_p e26 (by omega) _))))
                  refine q_iconst C dX4_change_214 (n := 215) rfl ?_
                  exact q_zret C dX4_change_215 ⟨rfl, rfl⟩ (by omega) (by rw [hPo]; exact ⟨1, M57, J58, rfl, rfl, hI59, hK62, by omega, ⟨(s3.cg (h52) (fun i => (h53 i))), h54⟩, (fun h => absurd h (by decide)), (by unfold zChx; omega), (fun _ => zChg.mk (zCh0.tr h21 ⟨((zup_p e35 (by omega) _).trans ((zcp_p e31 (by omega) _).trans (zcp_p e26 (by omega) _))), ((zup_p e35 (by omega) _).trans ((zcp_p e31 (by omega) _).trans (zcp_p e26 (by omega) _))), fun i => ((zup_p e35 (by omega) _).trans ((zcp_p e31 (by omega) _).trans (zcp_p e26 (by omega) _)))⟩) h44 (by omega) (by omega) ⟨(h55), (h52), fun i => (h53 i)⟩)⟩)
                · refine q_aload_n C dX4_change_192 (n := 193) rfl rfl ?_
                  refine q_getR C dX4_change_193 (n := 196) rfl f_X4_15 h0.1 (hF _ _ _ h0.2.2.2.2.1) ?_
                  refine q_iload C dX4_change_196 (n := 198) rfl rfl ?_
                  refine q_dup2 C dX4_change_198 (n := 199) rfl ⟨rfl, rfl⟩ ?_
                  have g64 := zI.at hI41 (h0.2.2.2.2.2.2.1 u38)
                  refine q_iald C dX4_change_199 (n := 200) rfl h0.2.2.2.2.2.1 (by omega) (v := M39 (a + 2) u38) rfl ?_
                  refine q_iload C dX4_change_200 (n := 202) rfl rfl ?_
                  refine q_iadd C dX4_change_202 (n := 203) rfl (v := (M39 (a + 2) u38) + ((((M (a + 2) v1) + v3) + 1) - u7)) rfl ?_
                  have s2 := h44.bound (fun j => (zI.at hI36 (h0.2.2.2.2.2.2.1 j)).1) (by omega)
                  refine q_iast C dX4_change_203 (n := 204) rfl h0.2.2.2.2.2.1 (by omega)  (fun M65 e66 => ?_)
                  have hI67 : zI G M65 := hI41.put e66 (h0.2.2.2.2.2.2.1 u38) rfl (by omega)
                  have hK68 := hK42.put e66 (by omega)
                  refine q_iinc C [.ref (w.2.1 + a), .null, .null, .null, .null, .null, zi ((((M (a + 2) v1) + v3) + 1) - u7), zi (u38 + 1)] dX4_change_204 (n := 207) rfl rfl rfl rfl ?_
                  refine q_goto C 183 dX4_change_207 rfl ?_
                  exact zK.weak (ih48 (u38 + 1) M65 J40 hI67 hK68 (by omega) (h44.step (by omega) e66) (((zup_p e66 (by omega) _)).trans h45) (by omega)) (zwk_c (zwk_n (zwk_n (zwk_n (zwk_n (zwk_n (zwk_c (zwk_c zwk_e))))))))
            exact zK.weak (L_46 _ (v1 + 1) M34 J17 hI36 hK37 (by omega) (zCl.start (h20.cg ((zup_p e35 (by omega) _).trans ((zcp_p e31 (by omega) _).trans (zcp_p e26 (by omega) _))) (fun i => ((zup_p e35 (by omega) _).trans ((zcp_p e31 (by omega) _).trans (zcp_p e26 (by omega) _))))) rfl) rfl (Int.self_le_toNat _)) (zwk_c (zwk_n (zwk_n (zwk_n (zwk_n (zwk_n (zwk_c (zwk_c zwk_e))))))))
          refine q_if_eq C 117 dX4_change_93 (n := 96) rfl rfl (by omega) (fun h69 => ?_) (fun h69 => ?_)
          · exact zK.weak (J_22 M J hI hK0 ⟨p4.1, ⟨by omega, by omega, by omega⟩, by omega, by omega, by omega, by omega⟩ ⟨rfl, Or.inr ⟨by omega, rfl⟩, fun _ _ => rfl⟩) (zwk_c (zwk_c (zwk_c (zwk_c (zwk_n (zwk_c (zwk_c (zwk_n zwk_e))))))))
          · refine q_aload_n C dX4_change_96 (n := 97) rfl rfl ?_
            refine q_dup C dX4_change_97 (n := 98) rfl rfl ?_
            refine q_getI C dX4_change_98 (n := 101) rfl f_X4_22 h0.1 (v := M a 3) rfl ?_
            refine q_iconst C dX4_change_101 (n := 102) rfl ?_
            refine q_iadd C dX4_change_102 (n := 103) rfl (v := (M a 3) + 1) rfl ?_
            refine q_putI C dX4_change_103 (n := 106) rfl f_X4_22 h0.1 ⟨rfl, rfl⟩ (fun M70 (e71 : M70 = zup M a 3 ((M a 3) + 1)) => ?_)
            have hI72 : zI G M70 := hI.put e71 h0.2.2.2.2.2.2.2.2.2.2.1 rfl (by omega)
            have hK73 := hK0.put e71 (by omega)
            refine q_aload_n C dX4_change_106 (n := 107) rfl rfl ?_
            refine q_getR C dX4_change_107 (n := 110) rfl f_X4_15 h0.1 (hF _ _ _ h0.2.2.2.2.1) ?_
            refine q_aload_n C dX4_change_110 (n := 111) rfl rfl ?_
            refine q_getI C dX4_change_111 (n := 114) rfl f_X4_22 h0.1 (v := (M a 3) + 1) (zup_s e71) ?_
            refine q_iload C dX4_change_114 (n := 116) rfl rfl ?_
            refine q_iast C dX4_change_116 (n := 117) rfl h0.2.2.2.2.2.1 (by omega)  (fun M74 e75 => ?_)
            have hI76 : zI G M74 := hI72.put e75 (h0.2.2.2.2.2.2.1 ((M a 3) + 1)) rfl (by omega)
            have hK77 := hK73.put e75 (by omega)
            exact zK.weak (J_22 M74 J hI76 hK77 (zCg.B p4.1 rfl (by omega) (by omega) (by omega) (by omega) (by omega) (by omega) (by omega) e71 e75) ⟨(zup_p e75 (by omega) _).trans (zup_n e71 (by omega)), Or.inl ⟨by omega, (zup_p e75 (by omega) _).trans (zup_s e71)⟩, fun j hj => (zup_n e75 (by omega)).trans (zup_p e71 (by omega) _)⟩) (zwk_c (zwk_c (zwk_c (zwk_c (zwk_n (zwk_c (zwk_c (zwk_n zwk_e))))))))
        refine q_if_eq C 91 dX4_change_77 (n := 80) rfl rfl (by omega) (fun h78 => ?_) (fun h78 => ?_)
        · exact zK.weak (J_15 (by omega)) (zwk_c (zwk_c (zwk_c (zwk_c (zwk_c (zwk_c (zwk_c (zwk_n zwk_e))))))))
        · refine q_aload_n C dX4_change_80 (n := 81) rfl rfl ?_
          refine q_getI C dX4_change_81 (n := 84) rfl f_X4_22 h0.1 (v := M a 3) rfl ?_
          refine q_bipush C dX4_change_84 (n := 86) rfl (x := 40) (by decide) ?_
          refine q_icmp_lt C 91 dX4_change_86 (n := 89) rfl rfl (by omega) (fun h79 => ?_) (fun h79 => ?_)
          · exact zK.weak (J_15 (by omega)) (zwk_c (zwk_c (zwk_c (zwk_c (zwk_c (zwk_c (zwk_c (zwk_n zwk_e))))))))
          · refine q_iconst C dX4_change_89 (n := 90) rfl ?_
            exact q_zret C dX4_change_90 ⟨rfl, rfl⟩ (by omega) (by rw [hPo]; exact ⟨0, M, J, rfl, rfl, hI, hK0, by omega, p4, (fun _ => rfl), (by unfold zChx; omega), (fun h => absurd h (by decide))⟩)
    refine q_if_eq C 32 dX4_change_17 (n := 20) rfl rfl (by omega) (fun h80 => ?_) (fun h80 => ?_)
    · refine q_aload_n C dX4_change_32 (n := 33) rfl rfl ?_
      refine q_getR C dX4_change_33 (n := 36) rfl f_X4_15 h0.1 (hF _ _ _ h0.2.2.2.2.1) ?_
      refine q_iload_n C dX4_change_36 (n := 37) rfl rfl ?_
      refine q_iconst C dX4_change_37 (n := 38) rfl ?_
      refine q_iadd C dX4_change_38 (n := 39) rfl (v := v1 + 1) rfl ?_
      have g81 := zI.at hI (h0.2.2.2.2.2.2.1 (v1 + 1))
      refine q_iald C dX4_change_39 (n := 40) rfl h0.2.2.2.2.2.1 (by omega) (v := M (a + 2) (v1 + 1)) rfl ?_
      exact zK.weak (J_10 (M (a + 2) (v1 + 1)) (by omega) (by omega)) (zwk_c (zwk_c (zwk_c (zwk_c (zwk_c (zwk_n (zwk_n (zwk_n zwk_e))))))))
    · refine q_aload_n C dX4_change_20 (n := 21) rfl rfl ?_
      refine q_getR C dX4_change_21 (n := 24) rfl f_X4_15 h0.1 (hF _ _ _ h0.2.2.2.2.1) ?_
      refine q_aload_n C dX4_change_24 (n := 25) rfl rfl ?_
      refine q_getI C dX4_change_25 (n := 28) rfl f_X4_22 h0.1 (v := M a 3) rfl ?_
      have g82 := zI.at hI (h0.2.2.2.2.2.2.1 (M a 3))
      refine q_iald C dX4_change_28 (n := 29) rfl h0.2.2.2.2.2.1 (by omega) (v := M (a + 2) (M a 3)) rfl ?_
      refine q_goto C 40 dX4_change_29 rfl ?_
      exact zK.weak (J_10 (M (a + 2) (M a 3)) (by omega) (by omega)) (zwk_c (zwk_c (zwk_c (zwk_c (zwk_c (zwk_n (zwk_n (zwk_n zwk_e))))))))
  refine q_icmp_ne C 12 dX4_change_5 (n := 8) rfl rfl (by omega) (fun h83 => ?_) (fun h83 => ?_)
  · refine q_iconst C dX4_change_12 (n := 13) rfl ?_
    exact zK.weak (J_6 0 (by omega) (by omega) (by omega)) (zwk_c (zwk_c (zwk_c (zwk_c (zwk_n (zwk_n (zwk_n (zwk_n zwk_e))))))))
  · refine q_iconst C dX4_change_8 (n := 9) rfl ?_
    refine q_goto C 13 dX4_change_9 rfl ?_
    exact zK.weak (J_6 1 (by omega) (by omega) (by omega)) (zwk_c (zwk_c (zwk_c (zwk_c (zwk_n (zwk_n (zwk_n (zwk_n zwk_e))))))))
theorem c_X4_takeOut_v {w : zWp} {T : zTl} {M : zMm} {J : zJm} {R : zRm'} {G : zGt} {F : zRm'} {a : Nat} (hI : zI G M) (hF : zF F R) (h0 : zPage T F G a) (v1 : Int) (p1 : 0 ≤ v1 ∧ v1 < M a 3) (p2 : zPr M a) : zCt w 13 0 0 yX4_takeOut cX4_takeOut 4 none [.ref (w.2.1 + a), zi v1] (T, M, J, R) (zPv T R G (fun M2 => (zKr a 4 M M2) ∧ (zPr M2 a) ∧ (zTko M M2 a v1))) := by
  refine zCt.of rfl (Nat.le_of_ble_eq_true rfl) ?_
  intro p e s m args below meth c C
  obtain ⟨Po, hPo⟩ : ∃ Po, Po = zPv T R G (fun M2 => (zKr a 4 M M2) ∧ (zPr M2 a) ∧ (zTko M M2 a v1)) := ⟨_, rfl⟩
  rw [← hPo]
  have hK0 : zKr a 4 M M := zKr.rf
  show zK w p e 13 0 0 s m args below meth c 4 T Po 0 [.ref (w.2.1 + a), zi v1, .null, .null] [] (T, M, J, R)
  have q0 := zI.at hI h0.2.2.2.2.2.2.2.2.2.2.1
  have q1 := p2.1.1 v1 (by omega) (by omega)
  have q2 := p2.1.lt (i := v1 + 1) (j := M a 3) (by omega) (by omega) (by omega)
  refine q_aload_n C dX4_takeOut_0 (n := 1) rfl rfl ?_
  refine q_getR C dX4_takeOut_1 (n := 4) rfl f_X4_15 h0.1 (hF _ _ _ h0.2.2.2.2.1) ?_
  refine q_iload_n C dX4_takeOut_4 (n := 5) rfl rfl ?_
  refine q_iconst C dX4_takeOut_5 (n := 6) rfl ?_
  refine q_iadd C dX4_takeOut_6 (n := 7) rfl (v := v1 + 1) rfl ?_
  have g1 := zI.at hI (h0.2.2.2.2.2.2.1 (v1 + 1))
  refine q_iald C dX4_takeOut_7 (n := 8) rfl h0.2.2.2.2.2.1 (by omega) (v := M (a + 2) (v1 + 1)) rfl ?_
  refine q_aload_n C dX4_takeOut_8 (n := 9) rfl rfl ?_
  refine q_getR C dX4_takeOut_9 (n := 12) rfl f_X4_15 h0.1 (hF _ _ _ h0.2.2.2.2.1) ?_
  refine q_iload_n C dX4_takeOut_12 (n := 13) rfl rfl ?_
  have g2 := zI.at hI (h0.2.2.2.2.2.2.1 v1)
  refine q_iald C dX4_takeOut_13 (n := 14) rfl h0.2.2.2.2.2.1 (by omega) (v := M (a + 2) v1) rfl ?_
  refine q_isub C dX4_takeOut_14 (n := 15) rfl (v := (M (a + 2) (v1 + 1)) - (M (a + 2) v1)) rfl ?_
  refine q_istore_n C [.ref (w.2.1 + a), zi v1, zi ((M (a + 2) (v1 + 1)) - (M (a + 2) v1)), .null] dX4_takeOut_15 (n := 16) rfl rfl rfl ?_
  refine q_aload_n C dX4_takeOut_16 (n := 17) rfl rfl ?_
  refine q_getR C dX4_takeOut_17 (n := 20) rfl f_X4_9 h0.1 (hF _ _ _ h0.2.1) ?_
  refine q_aload_n C dX4_takeOut_20 (n := 21) rfl rfl ?_
  refine q_getR C dX4_takeOut_21 (n := 24) rfl f_X4_15 h0.1 (hF _ _ _ h0.2.2.2.2.1) ?_
  refine q_iload_n C dX4_takeOut_24 (n := 25) rfl rfl ?_
  refine q_iconst C dX4_takeOut_25 (n := 26) rfl ?_
  refine q_iadd C dX4_takeOut_26 (n := 27) rfl (v := v1 + 1) rfl ?_
  refine q_iald C dX4_takeOut_27 (n := 28) rfl h0.2.2.2.2.2.1 (by omega) (v := M (a + 2) (v1 + 1)) rfl ?_
  refine q_aload_n C dX4_takeOut_28 (n := 29) rfl rfl ?_
  refine q_getR C dX4_takeOut_29 (n := 32) rfl f_X4_9 h0.1 (hF _ _ _ h0.2.1) ?_
  refine q_aload_n C dX4_takeOut_32 (n := 33) rfl rfl ?_
  refine q_getR C dX4_takeOut_33 (n := 36) rfl f_X4_15 h0.1 (hF _ _ _ h0.2.2.2.2.1) ?_
  refine q_iload_n C dX4_takeOut_36 (n := 37) rfl rfl ?_
  refine q_iald C dX4_takeOut_37 (n := 38) rfl h0.2.2.2.2.2.1 (by omega) (v := M (a + 2) v1) rfl ?_
  refine q_aload_n C dX4_takeOut_38 (n := 39) rfl rfl ?_
  refine q_getR C dX4_takeOut_39 (n := 42) rfl f_X4_15 h0.1 (hF _ _ _ h0.2.2.2.2.1) ?_
  refine q_aload_n C dX4_takeOut_42 (n := 43) rfl rfl ?_
  have g3 := zI.at hI h0.2.2.2.2.2.2.2.2.2.2.1
  refine q_getI C dX4_takeOut_43 (n := 46) rfl f_X4_22 h0.1 (v := M a 3) rfl ?_
  have g4 := zI.at hI (h0.2.2.2.2.2.2.1 (M a 3))
  refine q_iald C dX4_takeOut_46 (n := 47) rfl h0.2.2.2.2.2.1 (by omega) (v := M (a + 2) (M a 3)) rfl ?_
  refine q_aload_n C dX4_takeOut_47 (n := 48) rfl rfl ?_
  refine q_getR C dX4_takeOut_48 (n := 51) rfl f_X4_15 h0.1 (hF _ _ _ h0.2.2.2.2.1) ?_
  refine q_iload_n C dX4_takeOut_51 (n := 52) rfl rfl ?_
  refine q_iconst C dX4_takeOut_52 (n := 53) rfl ?_
  refine q_iadd C dX4_takeOut_53 (n := 54) rfl (v := v1 + 1) rfl ?_
  refine q_iald C dX4_takeOut_54 (n := 55) rfl h0.2.2.2.2.2.1 (by omega) (v := M (a + 2) (v1 + 1)) rfl ?_
  refine q_isub C dX4_takeOut_55 (n := 56) rfl (v := (M (a + 2) (M a 3)) - (M (a + 2) (v1 + 1))) rfl ?_
  refine q_copyB C dX4_takeOut_56 (n := 59) rfl x_X4_43 h0.2.2.1 h0.2.2.1 (by omega) (fun j => by have := zI.at hI (h0.2.2.2.1 j); omega) (Nat.le_of_ble_eq_true rfl) (Nat.le_of_ble_eq_true rfl) (fun M5 e6 => ?_)
  have hI7 : zI G M5 := hI.cp e6 h0.2.2.2.1 h0.2.2.2.1 rfl (by omega)
  have hK8 := hK0.cp e6 (by omega)
  refine q_iload_n C dX4_takeOut_59 (n := 60) rfl rfl ?_
  refine q_iconst C dX4_takeOut_60 (n := 61) rfl ?_
  refine q_iadd C dX4_takeOut_61 (n := 62) rfl (v := v1 + 1) rfl ?_
  refine q_istore_n C [.ref (w.2.1 + a), zi v1, zi ((M (a + 2) (v1 + 1)) - (M (a + 2) v1)), zi (v1 + 1)] dX4_takeOut_62 (n := 63) rfl rfl rfl ?_
  have L_17 : ∀ n18 : Nat, ∀ (u9 : Int) (M10 : zMm) (J11 : zJm), zI G M10 → zKr a 4 M M10 → (-2147483648 ≤ u9 ∧ u9 ≤ 2147483647) → (zTk M5 M10 a v1 ((M (a + 2) (v1 + 1)) - (M (a + 2) v1)) u9) → (M10 a 4 = M5 a 4) → (42 - u9 ≤ (n18 : Int)) → zK w p e 13 0 0 s m args below meth c 4 T Po 63 [.ref (w.2.1 + a), .null, zi ((M (a + 2) (v1 + 1)) - (M (a + 2) v1)), zi u9] [] (T, M10, J11, R) := by
    intro n18
    induction n18 with
    | zero =>
      intro u9 M10 J11 hI12 hK13 h14 h15 h16 hm20
      exfalso
      have s1 := zTk.size h15
      omega
    | succ n18 ih19 =>
      intro u9 M10 J11 hI12 hK13 h14 h15 h16 hm20
      have s1 := zTk.size h15
      refine q_iload_n C dX4_takeOut_63 (n := 64) rfl rfl ?_
      refine q_aload_n C dX4_takeOut_64 (n := 65) rfl rfl ?_
      have g21 := zI.at hI12 h0.2.2.2.2.2.2.2.2.2.2.1
      refine q_getI C dX4_takeOut_65 (n := 68) rfl f_X4_22 h0.1 (v := M10 a 3) rfl ?_
      refine q_icmp_ge C 93 dX4_takeOut_68 (n := 71) rfl rfl (by omega) (fun h22 => ?_) (fun h22 => ?_)
      · refine q_aload_n C dX4_takeOut_93 (n := 94) rfl rfl ?_
        refine q_dup C dX4_takeOut_94 (n := 95) rfl rfl ?_
        refine q_getI C dX4_takeOut_95 (n := 98) rfl f_X4_22 h0.1 (v := M10 a 3) rfl ?_
        refine q_iconst C dX4_takeOut_98 (n := 99) rfl ?_
        refine q_isub C dX4_takeOut_99 (n := 100) rfl (v := (M10 a 3) - 1) rfl ?_
        refine q_putI C dX4_takeOut_100 (n := 103) rfl f_X4_22 h0.1 ⟨rfl, rfl⟩ (fun M23 (e24 : M23 = zup M10 a 3 ((M10 a 3) - 1)) => ?_)
        have hI25 : zI G M23 := hI12.put e24 h0.2.2.2.2.2.2.2.2.2.2.1 rfl (by omega)
        have hK26 := hK13.put e24 (by omega)
        have s3 := h15.fin (by omega) e24 (by omega)
        refine q_aload_n C dX4_takeOut_103 (n := 104) rfl rfl ?_
        refine q_callVv C dX4_takeOut_104 (n := 107) rfl m_X4_40 v_yX4_mark h0.1 ⟨by decide, rfl⟩ (c_X4_mark_v (w := w) (J := J11) hI25 hF h0) (Nat.le_of_ble_eq_true rfl) rfl rfl (Nat.le_of_ble_eq_true rfl) ⟨Nat.le_refl _, Nat.le_refl _⟩ (fun M32 J33  hI34 h35 => ?_)
        obtain ⟨hk36, h27, h28, h29, h30, h31⟩ := h35
        have hK37 := hK26.tr hk36
        have hz38 : M23 a 3 = (M10 a 3) - 1 := (zup_s e24)
        have hz39 : M23 a 4 = M a 4 := ((zup_n e24 (by omega)).trans ((h16).trans (zcp_p e6 (by omega) _)))
        exact q_vret C dX4_takeOut_107 ⟨rfl, rfl⟩ (by rw [hPo]; exact ⟨M32, J33, rfl, rfl, hI34, hK37, ⟨(s3.cg (h27) (fun i => (h28 i))), h29⟩, (zTko.mk ⟨(zcp_p e6 (by omega) _), (zcp_p e6 (by omega) _), fun i => (zcp_p e6 (by omega) _)⟩ h15 (by omega) (by omega) e24 (by omega) ⟨(h30), (h27), fun i => (h28 i)⟩)⟩)
      · refine q_aload_n C dX4_takeOut_71 (n := 72) rfl rfl ?_
        refine q_getR C dX4_takeOut_72 (n := 75) rfl f_X4_15 h0.1 (hF _ _ _ h0.2.2.2.2.1) ?_
        refine q_iload_n C dX4_takeOut_75 (n := 76) rfl rfl ?_
        refine q_aload_n C dX4_takeOut_76 (n := 77) rfl rfl ?_
        refine q_getR C dX4_takeOut_77 (n := 80) rfl f_X4_15 h0.1 (hF _ _ _ h0.2.2.2.2.1) ?_
        refine q_iload_n C dX4_takeOut_80 (n := 81) rfl rfl ?_
        refine q_iconst C dX4_takeOut_81 (n := 82) rfl ?_
        refine q_iadd C dX4_takeOut_82 (n := 83) rfl (v := u9 + 1) rfl ?_
        have g40 := zI.at hI12 (h0.2.2.2.2.2.2.1 (u9 + 1))
        refine q_iald C dX4_takeOut_83 (n := 84) rfl h0.2.2.2.2.2.1 (by omega) (v := M10 (a + 2) (u9 + 1)) rfl ?_
        refine q_iload_n C dX4_takeOut_84 (n := 85) rfl rfl ?_
        refine q_isub C dX4_takeOut_85 (n := 86) rfl (v := (M10 (a + 2) (u9 + 1)) - ((M (a + 2) (v1 + 1)) - (M (a + 2) v1))) rfl ?_
        have s2 := h15.bound (fun j => zI.at hI7 (h0.2.2.2.2.2.2.1 j)) (by omega)
        refine q_iast C dX4_takeOut_86 (n := 87) rfl h0.2.2.2.2.2.1 (by omega)  (fun M41 e42 => ?_)
        have hI43 : zI G M41 := hI12.put e42 (h0.2.2.2.2.2.2.1 u9) rfl (by omega)
        have hK44 := hK13.put e42 (by omega)
        refine q_iinc C [.ref (w.2.1 + a), .null, zi ((M (a + 2) (v1 + 1)) - (M (a + 2) v1)), zi (u9 + 1)] dX4_takeOut_87 (n := 90) rfl rfl rfl rfl ?_
        refine q_goto C 63 dX4_takeOut_90 rfl ?_
        exact zK.weak (ih19 (u9 + 1) M41 J11 hI43 hK44 (by omega) (h15.step (by omega) e42) (((zup_p e42 (by omega) _)).trans h16) (by omega)) (zwk_c (zwk_n (zwk_c (zwk_c zwk_e))))
  exact zK.weak (L_17 _ (v1 + 1) M5 J hI7 hK8 (by omega) (zTk.start (p2.1.cg (zcp_p e6 (by omega) _) (fun i => (zcp_p e6 (by omega) _))) (by have h3 : M5 a 3 = M a 3 := (zcp_p e6 (by omega) _); omega) (by have h1 : M5 (a + 2) (v1 + 1) = M (a + 2) (v1 + 1) := (zcp_p e6 (by omega) _); have h2 : M5 (a + 2) v1 = M (a + 2) v1 := (zcp_p e6 (by omega) _); omega) rfl) rfl (Int.self_le_toNat _)) (zwk_c (zwk_n (zwk_c (zwk_c zwk_e))))
theorem c_X4_copy_v {w : zWp} {T : zTl} {M : zMm} {J : zJm} {R : zRm'} {G : zGt} {F : zRm'} {a o : Nat} (hI : zI G M) (hF : zF F R) (h0 : zPage T F G a) (h_oth : zPage T F G o) (p1 : zPr M o) (p2 : o + 4 ≤ a ∨ a + 4 ≤ o) : zCt w 1 0 0 yX4_copy cX4_copy 2 none [.ref (w.2.1 + a), .ref (w.2.1 + o)] (T, M, J, R) (zPv T R G (fun M2 => (zKr a 4 M M2) ∧ (zPr M2 a) ∧ (zPcw M M2 a o))) := by
  refine zCt.of rfl (Nat.le_of_ble_eq_true rfl) ?_
  intro p e s m args below meth c C
  obtain ⟨Po, hPo⟩ : ∃ Po, Po = zPv T R G (fun M2 => (zKr a 4 M M2) ∧ (zPr M2 a) ∧ (zPcw M M2 a o)) := ⟨_, rfl⟩
  rw [← hPo]
  have hK0 : zKr a 4 M M := zKr.rf
  show zK w p e 1 0 0 s m args below meth c 2 T Po 0 [.ref (w.2.1 + a), .ref (w.2.1 + o)] [] (T, M, J, R)
  refine q_aload_n C dX4_copy_0 (n := 1) rfl rfl ?_
  refine q_getR C dX4_copy_1 (n := 4) rfl f_X4_9 h_oth.1 (hF _ _ _ h_oth.2.1) ?_
  refine q_iconst C dX4_copy_4 (n := 5) rfl ?_
  refine q_aload_n C dX4_copy_5 (n := 6) rfl rfl ?_
  refine q_getR C dX4_copy_6 (n := 9) rfl f_X4_9 h0.1 (hF _ _ _ h0.2.1) ?_
  refine q_iconst C dX4_copy_9 (n := 10) rfl ?_
  refine q_sipush C dX4_copy_10 (n := 13) rfl (x := 401) (by decide) ?_
  refine q_copyB C dX4_copy_13 (n := 16) rfl x_X4_43 h_oth.2.2.1 h0.2.2.1 (by omega) (fun j => by have := zI.at hI (h_oth.2.2.2.1 j); omega) (Nat.le_of_ble_eq_true rfl) (Nat.le_of_ble_eq_true rfl) (fun M1 e2 => ?_)
  have hI3 : zI G M1 := hI.cp e2 h_oth.2.2.2.1 h0.2.2.2.1 rfl (by omega)
  have hK4 := hK0.cp e2 (by omega)
  refine q_aload_n C dX4_copy_16 (n := 17) rfl rfl ?_
  refine q_getR C dX4_copy_17 (n := 20) rfl f_X4_15 h_oth.1 (hF _ _ _ h_oth.2.2.2.2.1) ?_
  refine q_iconst C dX4_copy_20 (n := 21) rfl ?_
  refine q_aload_n C dX4_copy_21 (n := 22) rfl rfl ?_
  refine q_getR C dX4_copy_22 (n := 25) rfl f_X4_15 h0.1 (hF _ _ _ h0.2.2.2.2.1) ?_
  refine q_iconst C dX4_copy_25 (n := 26) rfl ?_
  refine q_bipush C dX4_copy_26 (n := 28) rfl (x := 41) (by decide) ?_
  refine q_copyI C dX4_copy_28 (n := 31) rfl x_X4_43 h_oth.2.2.2.2.2.1 h0.2.2.2.2.2.1 (by omega) (Nat.le_of_ble_eq_true rfl) (Nat.le_of_ble_eq_true rfl) (fun M5 e6 => ?_)
  have hI7 : zI G M5 := hI3.cp e6 h_oth.2.2.2.2.2.2.1 h0.2.2.2.2.2.2.1 rfl (by omega)
  have hK8 := hK4.cp e6 (by omega)
  refine q_aload_n C dX4_copy_31 (n := 32) rfl rfl ?_
  refine q_getR C dX4_copy_32 (n := 35) rfl f_X4_19 h_oth.1 (hF _ _ _ h_oth.2.2.2.2.2.2.2.1) ?_
  refine q_iconst C dX4_copy_35 (n := 36) rfl ?_
  refine q_aload_n C dX4_copy_36 (n := 37) rfl rfl ?_
  refine q_getR C dX4_copy_37 (n := 40) rfl f_X4_19 h0.1 (hF _ _ _ h0.2.2.2.2.2.2.2.1) ?_
  refine q_iconst C dX4_copy_40 (n := 41) rfl ?_
  refine q_bipush C dX4_copy_41 (n := 43) rfl (x := 40) (by decide) ?_
  refine q_copyI C dX4_copy_43 (n := 46) rfl x_X4_43 h_oth.2.2.2.2.2.2.2.2.1 h0.2.2.2.2.2.2.2.2.1 (by omega) (Nat.le_of_ble_eq_true rfl) (Nat.le_of_ble_eq_true rfl) (fun M9 e10 => ?_)
  have hI11 : zI G M9 := hI7.cp e10 h_oth.2.2.2.2.2.2.2.2.2.1 h0.2.2.2.2.2.2.2.2.2.1 rfl (by omega)
  have hK12 := hK8.cp e10 (by omega)
  refine q_aload_n C dX4_copy_46 (n := 47) rfl rfl ?_
  refine q_aload_n C dX4_copy_47 (n := 48) rfl rfl ?_
  have g13 := zI.at hI h_oth.2.2.2.2.2.2.2.2.2.2.1
  refine q_getI C dX4_copy_48 (n := 51) rfl f_X4_22 h_oth.1 (v := M o 3) ((zcp_p e10 (by omega) _).trans ((zcp_p e6 (by omega) _).trans (zcp_p e2 (by omega) _))) ?_
  refine q_putI C dX4_copy_51 (n := 54) rfl f_X4_22 h0.1 ⟨rfl, rfl⟩ (fun M14 (e15 : M14 = zup M9 a 3 (M o 3)) => ?_)
  have hI16 : zI G M14 := hI11.put e15 h0.2.2.2.2.2.2.2.2.2.2.1 rfl (by omega)
  have hK17 := hK12.put e15 (by omega)
  refine q_aload_n C dX4_copy_54 (n := 55) rfl rfl ?_
  refine q_aload_n C dX4_copy_55 (n := 56) rfl rfl ?_
  have g18 := zI.at hI h_oth.2.2.2.2.2.2.2.2.2.2.2.1
  refine q_getI C dX4_copy_56 (n := 59) rfl f_X4_26 h_oth.1 (v := M o 4) ((zup_p e15 (by omega) _).trans ((zcp_p e10 (by omega) _).trans ((zcp_p e6 (by omega) _).trans (zcp_p e2 (by omega) _)))) ?_
  refine q_putZ C dX4_copy_59 (n := 62) rfl f_X4_26 h0.1 ⟨rfl, rfl⟩ (by omega) (fun M19 (e20 : M19 = zup M14 a 4 (M o 4)) => ?_)
  have hI21 : zI G M19 := hI16.put e20 h0.2.2.2.2.2.2.2.2.2.2.2.1 rfl (by omega)
  have hK22 := hK17.put e20 (by omega)
  refine q_aload_n C dX4_copy_62 (n := 63) rfl rfl ?_
  refine q_aload_n C dX4_copy_63 (n := 64) rfl rfl ?_
  have g23 := zI.at hI h_oth.2.2.2.2.2.2.2.2.2.2.2.2.1
  refine q_getI C dX4_copy_64 (n := 67) rfl f_X4_30 h_oth.1 (v := M o 5) ((zup_p e20 (by omega) _).trans ((zup_p e15 (by omega) _).trans ((zcp_p e10 (by omega) _).trans ((zcp_p e6 (by omega) _).trans (zcp_p e2 (by omega) _))))) ?_
  refine q_putI C dX4_copy_67 (n := 70) rfl f_X4_30 h0.1 ⟨rfl, rfl⟩ (fun M24 (e25 : M24 = zup M19 a 5 (M o 5)) => ?_)
  have hI26 : zI G M24 := hI21.put e25 h0.2.2.2.2.2.2.2.2.2.2.2.2.1 rfl (by omega)
  have hK27 := hK22.put e25 (by omega)
  refine q_aload_n C dX4_copy_70 (n := 71) rfl rfl ?_
  refine q_aload_n C dX4_copy_71 (n := 72) rfl rfl ?_
  have g28 := zI.at hI h_oth.2.2.2.2.2.2.2.2.2.2.2.2.2
  refine q_getI C dX4_copy_72 (n := 75) rfl f_X4_33 h_oth.1 (v := M o 6) ((zup_p e25 (by omega) _).trans ((zup_p e20 (by omega) _).trans ((zup_p e15 (by omega) _).trans ((zcp_p e10 (by omega) _).trans ((zcp_p e6 (by omega) _).trans (zcp_p e2 (by omega) _)))))) ?_
  refine q_putI C dX4_copy_75 (n := 78) rfl f_X4_33 h0.1 ⟨rfl, rfl⟩ (fun M29 (e30 : M29 = zup M24 a 6 (M o 6)) => ?_)
  have hI31 : zI G M29 := hI26.put e30 h0.2.2.2.2.2.2.2.2.2.2.2.2.2 rfl (by omega)
  have hK32 := hK27.put e30 (by omega)
  exact q_vret C dX4_copy_78 ⟨rfl, rfl⟩ (by rw [hPo]; exact ⟨M29, J, rfl, rfl, hI31, hK32, (p1.copy ((zup_n e30 (by omega)).trans ((zup_n e25 (by omega)).trans ((zup_n e20 (by omega)).trans (zup_s e15)))) ((zup_n e30 (by omega)).trans (zup_s e25)) (zup_s e30) (by omega) (by omega) (fun i i0 i1 => ((zup_p e30 (by omega) _).trans ((zup_p e25 (by omega) _).trans ((zup_p e20 (by omega) _).trans ((zup_p e15 (by omega) _).trans (zcp_p e10 (by omega) _))))).trans ((zcp_at e6 (by omega)).trans (by rw [show (0 : Int) + (i - 0) = i by omega]; exact (zcp_p e2 (by omega) _))))), ⟨((zup_n e30 (by omega)).trans ((zup_n e25 (by omega)).trans (zup_s e20))), ((zup_n e30 (by omega)).trans ((zup_n e25 (by omega)).trans ((zup_n e20 (by omega)).trans (zup_s e15)))), fun i i0 i1 => ((zup_p e30 (by omega) _).trans ((zup_p e25 (by omega) _).trans ((zup_p e20 (by omega) _).trans ((zup_p e15 (by omega) _).trans (zcp_p e10 (by omega) _))))).trans ((zcp_at e6 (by omega)).trans (by rw [show (0 : Int) + (i - 0) = i by omega]; exact (zcp_p e2 (by omega) _)))⟩⟩)
theorem c_X7_copy_v {w : zWp} {T : zTl} {M : zMm} {J : zJm} {R : zRm'} {G : zGt} {F : zRm'} {a o : Nat} (hI : zI G M) (hF : zF F R) (h0 : zSource T F G a) (h_oth : zSource T F G o) (p1 : zSA M o) (p2 : o + 25 ≤ a ∨ a + 25 ≤ o) : zCt w 2 0 0 yX7_copy cX7_copy 3 none [.ref (w.2.1 + a), .ref (w.2.1 + o)] (T, M, J, R) (zPv T R G (fun M2 => (zKr a 25 M M2) ∧ (zSA M2 a) ∧ (zSd M M2 a o 4) ∧ (M2 a 3 = M o 3 ∧ M2 a 4 = M o 4))) := by
  refine zCt.of rfl (Nat.le_of_ble_eq_true rfl) ?_
  intro p e s m args below meth c C
  obtain ⟨Po, hPo⟩ : ∃ Po, Po = zPv T R G (fun M2 => (zKr a 25 M M2) ∧ (zSA M2 a) ∧ (zSd M M2 a o 4) ∧ (M2 a 3 = M o 3 ∧ M2 a 4 = M o 4)) := ⟨_, rfl⟩
  rw [← hPo]
  have hK0 : zKr a 25 M M := zKr.rf
  show zK w p e 2 0 0 s m args below meth c 3 T Po 0 [.ref (w.2.1 + a), .ref (w.2.1 + o), .null] [] (T, M, J, R)
  refine q_iconst C dX7_copy_0 (n := 1) rfl ?_
  refine q_istore_n C [.ref (w.2.1 + a), .ref (w.2.1 + o), zi 0] dX7_copy_1 (n := 2) rfl rfl rfl ?_
  have L_11 : ∀ n12 : Nat, ∀ (u1 : Int) (M2 : zMm) (J3 : zJm), zI G M2 → zKr a 25 M M2 → (-2147483648 ≤ u1 ∧ u1 ≤ 2147483647) → (0 ≤ u1 ∧ u1 ≤ 4) → (zSB M2 a u1) → (zSA M2 o) → (zSd M M2 a o u1) → (4 - u1 + 1 ≤ (n12 : Int)) → zK w p e 2 0 0 s m args below meth c 3 T Po 2 [.ref (w.2.1 + a), .ref (w.2.1 + o), zi u1] [] (T, M2, J3, R) := by
    intro n12
    induction n12 with
    | zero =>
      intro u1 M2 J3 hI4 hK5 h6 h7 h8 h9 h10 hm14
      exfalso
      omega
    | succ n12 ih13 =>
      intro u1 M2 J3 hI4 hK5 h6 h7 h8 h9 h10 hm14
      refine q_iload_n C dX7_copy_2 (n := 3) rfl rfl ?_
      refine q_iconst C dX7_copy_3 (n := 4) rfl ?_
      refine q_icmp_ge C 28 dX7_copy_4 (n := 7) rfl rfl (by omega) (fun h15 => ?_) (fun h15 => ?_)
      · have hsa := zSB.all h8 (by omega)
        have hsd : zSd M M2 a o 4 := fun k k0 k1 => h10 k k0 (by omega)
        refine q_iconst C dX7_copy_28 (n := 29) rfl ?_
        refine q_istore_n C [.ref (w.2.1 + a), .ref (w.2.1 + o), zi 0] dX7_copy_29 (n := 30) rfl rfl rfl ?_
        have L_25 : ∀ n26 : Nat, ∀ (u16 : Int) (M17 : zMm) (J18 : zJm), zI G M17 → zKr a 25 M M17 → (-2147483648 ≤ u16 ∧ u16 ≤ 2147483647) → (0 ≤ u16 ∧ u16 ≤ 3) → (zSA M17 a) → (zSd M M17 a o 4) → (3 - u16 + 1 ≤ (n26 : Int)) → zK w p e 2 0 0 s m args below meth c 3 T Po 30 [.ref (w.2.1 + a), .ref (w.2.1 + o), zi u16] [] (T, M17, J18, R) := by
          intro n26
          induction n26 with
          | zero =>
            intro u16 M17 J18 hI19 hK20 h21 h22 h23 h24 hm28
            exfalso
            omega
          | succ n26 ih27 =>
            intro u16 M17 J18 hI19 hK20 h21 h22 h23 h24 hm28
            refine q_iload_n C dX7_copy_30 (n := 31) rfl rfl ?_
            refine q_iconst C dX7_copy_31 (n := 32) rfl ?_
            refine q_icmp_ge C 72 dX7_copy_32 (n := 35) rfl rfl (by omega) (fun h29 => ?_) (fun h29 => ?_)
            · refine q_aload_n C dX7_copy_72 (n := 73) rfl rfl ?_
              refine q_aload_n C dX7_copy_73 (n := 74) rfl rfl ?_
              have g30 := zI.at hI h_oth.2.2.2.2.2.2.2.2.2.2.1
              refine q_getI C dX7_copy_74 (n := 77) rfl f_X7_26 h_oth.1 (v := M o 3) (hK20 _ _ (by omega)) ?_
              refine q_putI C dX7_copy_77 (n := 80) rfl f_X7_26 h0.1 ⟨rfl, rfl⟩ (fun M31 (e32 : M31 = zup M17 a 3 (M o 3)) => ?_)
              have hI33 : zI G M31 := hI19.put e32 h0.2.2.2.2.2.2.2.2.2.2.1 rfl (by omega)
              have hK34 := hK20.put e32 (by omega)
              refine q_aload_n C dX7_copy_80 (n := 81) rfl rfl ?_
              refine q_aload_n C dX7_copy_81 (n := 82) rfl rfl ?_
              have g35 := zI.at hI h_oth.2.2.2.2.2.2.2.2.2.2.2.1
              refine q_getI C dX7_copy_82 (n := 85) rfl f_X7_30 h_oth.1 (v := M o 4) ((zup_p e32 (by omega) _).trans (hK20 _ _ (by omega))) ?_
              refine q_putI C dX7_copy_85 (n := 88) rfl f_X7_30 h0.1 ⟨rfl, rfl⟩ (fun M36 (e37 : M36 = zup M31 a 4 (M o 4)) => ?_)
              have hI38 : zI G M36 := hI33.put e37 h0.2.2.2.2.2.2.2.2.2.2.2.1 rfl (by omega)
              have hK39 := hK34.put e37 (by omega)
              exact q_vret C dX7_copy_88 ⟨rfl, rfl⟩ (by rw [hPo]; exact ⟨M36, J18, rfl, rfl, hI38, hK39, (zSA.up (zSA.up h23 e32 (by omega)) e37 (by omega)), (zSd.up (zSd.up h24 e32 (by omega) (by omega)) e37 (by omega) (by omega)), (by have hz40 : M36 a 3 = M o 3 := ((zup_n e37 (by omega)).trans (zup_s e32)); have hz41 : M36 a 4 = M o 4 := (zup_s e37); omega)⟩)
            · refine q_aload_n C dX7_copy_35 (n := 36) rfl rfl ?_
              refine q_getR C dX7_copy_36 (n := 39) rfl f_X7_19 h_oth.1 (hF _ _ _ h_oth.2.2.2.2.1) ?_
              refine q_iload_n C dX7_copy_39 (n := 40) rfl rfl ?_
              refine q_aald7 C dX7_copy_40 (n := 41) rfl h_oth.2.2.2.2.2.1 (by omega) (hF _ _ _ (h_oth.2.2.2.2.2.2.1 u16 (by omega) (by omega)).1) ?_
              refine q_iconst C dX7_copy_41 (n := 42) rfl ?_
              refine q_aload_n C dX7_copy_42 (n := 43) rfl rfl ?_
              refine q_getR C dX7_copy_43 (n := 46) rfl f_X7_19 h0.1 (hF _ _ _ h0.2.2.2.2.1) ?_
              refine q_iload_n C dX7_copy_46 (n := 47) rfl rfl ?_
              refine q_aald7 C dX7_copy_47 (n := 48) rfl h0.2.2.2.2.2.1 (by omega) (hF _ _ _ (h0.2.2.2.2.2.2.1 u16 (by omega) (by omega)).1) ?_
              refine q_iconst C dX7_copy_48 (n := 49) rfl ?_
              refine q_bipush C dX7_copy_49 (n := 51) rfl (x := 30) (by decide) ?_
              refine q_copyB C dX7_copy_51 (n := 54) rfl x_X7_55 (h_oth.2.2.2.2.2.2.1 u16 (by omega) (by omega)).2.1 (h0.2.2.2.2.2.2.1 u16 (by omega) (by omega)).2.1 (by omega) (fun j => by have := zI.at hI19 ((h_oth.2.2.2.2.2.2.1 u16 (by omega) (by omega)).2.2 j); omega) (Nat.le_of_ble_eq_true rfl) (Nat.le_of_ble_eq_true rfl) (fun M42 e43 => ?_)
              have hI44 : zI G M42 := hI19.cp e43 (h_oth.2.2.2.2.2.2.1 u16 (by omega) (by omega)).2.2 (h0.2.2.2.2.2.2.1 u16 (by omega) (by omega)).2.2 rfl (by omega)
              have hK45 := hK20.cp e43 (by omega)
              refine q_aload_n C dX7_copy_54 (n := 55) rfl rfl ?_
              refine q_getR C dX7_copy_55 (n := 58) rfl f_X7_22 h0.1 (hF _ _ _ h0.2.2.2.2.2.2.2.1) ?_
              refine q_iload_n C dX7_copy_58 (n := 59) rfl rfl ?_
              refine q_aload_n C dX7_copy_59 (n := 60) rfl rfl ?_
              refine q_getR C dX7_copy_60 (n := 63) rfl f_X7_22 h_oth.1 (hF _ _ _ h_oth.2.2.2.2.2.2.2.1) ?_
              refine q_iload_n C dX7_copy_63 (n := 64) rfl rfl ?_
              have g46 := zI.at hI44 (h_oth.2.2.2.2.2.2.2.2.2.1 u16)
              refine q_iald C dX7_copy_64 (n := 65) rfl h_oth.2.2.2.2.2.2.2.2.1 (by omega) (v := M42 (o + 6) u16) rfl ?_
              refine q_iast C dX7_copy_65 (n := 66) rfl h0.2.2.2.2.2.2.2.2.1 (by omega)  (fun M47 e48 => ?_)
              have hI49 : zI G M47 := hI44.put e48 (h0.2.2.2.2.2.2.2.2.2.1 u16) rfl (by omega)
              have hK50 := hK45.put e48 (by omega)
              refine q_iinc C [.ref (w.2.1 + a), .ref (w.2.1 + o), zi (u16 + 1)] dX7_copy_66 (n := 69) rfl rfl rfl rfl ?_
              refine q_goto C 30 dX7_copy_69 rfl ?_
              exact zK.weak (ih27 (u16 + 1) M47 J18 hI49 hK50 (by omega) (by omega) (zSA.up (zSA.cp h23 e43 (by omega)) e48 (by omega)) (zSd.up (zSd.cp h24 e43 (by omega) (by omega)) e48 (by omega) (by omega)) (by omega)) (zwk_c (zwk_c (zwk_c zwk_e)))
        exact zK.weak (L_25 _ 0 M2 J3 hI4 hK5 (by omega) (by omega) hsa (hsd) (Int.self_le_toNat _)) (zwk_c (zwk_c (zwk_c zwk_e)))
      · refine q_aload_n C dX7_copy_7 (n := 8) rfl rfl ?_
        refine q_getR C dX7_copy_8 (n := 11) rfl f_X7_11 h0.1 (hF _ _ _ h0.2.1) ?_
        refine q_iload_n C dX7_copy_11 (n := 12) rfl rfl ?_
        refine q_aald C dX7_copy_12 (n := 13) rfl ⟨by decide, by decide⟩ h0.2.2.1 (by omega) (hF _ _ _ (h0.2.2.2.1 u1 (by omega) (by omega)).1) ?_
        refine q_aload_n C dX7_copy_13 (n := 14) rfl rfl ?_
        refine q_getR C dX7_copy_14 (n := 17) rfl f_X7_11 h_oth.1 (hF _ _ _ h_oth.2.1) ?_
        refine q_iload_n C dX7_copy_17 (n := 18) rfl rfl ?_
        refine q_aald C dX7_copy_18 (n := 19) rfl ⟨by decide, by decide⟩ h_oth.2.2.1 (by omega) (hF _ _ _ (h_oth.2.2.2.1 u1 (by omega) (by omega)).1) ?_
        refine q_callVv C dX7_copy_19 (n := 22) rfl m_X7_82 v_yX4_copy (h0.2.2.2.1 u1 (by omega) (by omega)).2.1 ⟨by decide, rfl⟩ (c_X4_copy_v (w := w) (J := J3) hI4 hF (h0.2.2.2.1 u1 (by omega) (by omega)).2 (h_oth.2.2.2.1 u1 (by omega) (by omega)).2 (h9 u1 (by omega) (by omega)) (by omega)) (Nat.le_of_ble_eq_true rfl) rfl rfl (Nat.le_of_ble_eq_true rfl) ⟨Nat.le_refl _, Nat.le_refl _⟩ (fun M53 J54  hI55 h56 => ?_)
        obtain ⟨hk57, h51, h52⟩ := h56
        have hK58 := hK5.tr (zKr.sub hk57 (by omega))
        refine q_iinc C [.ref (w.2.1 + a), .ref (w.2.1 + o), zi (u1 + 1)] dX7_copy_22 (n := 25) rfl rfl rfl rfl ?_
        refine q_goto C 2 dX7_copy_25 rfl ?_
        exact zK.weak (ih13 (u1 + 1) M53 J54 hI55 hK58 (by omega) (by omega) (zSB.pg h8 hk57 (by omega) h51) (zSA.off h9 hk57 (by omega)) (zSd.pg h10 hk57 (by omega) h52 hK5 p2) (by omega)) (zwk_c (zwk_c (zwk_c zwk_e)))
  exact zK.weak (L_11 _ 0 M J hI hK0 (by omega) (by omega) (fun j j0 j1 => by omega) p1 (fun k k0 k1 => by omega) (Int.self_le_toNat _)) (zwk_c (zwk_c (zwk_c zwk_e)))
