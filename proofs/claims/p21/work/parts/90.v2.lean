/-! the cells that tell what files and switches there are: of the source and the two kept ones -/
def zCe (a c : Nat) (k : Int) : Prop := ∃ p : Nat, (p = a + 2 ∨ p = a + 786 ∨ p = a + 811) ∧ (c = p ∧ (k = 3 ∨ k = 4) ∨ ∃ q : Nat, q < 4 ∧ (c = p + 9 + 4 * q ∧ (k = 3 ∨ k = 4 ∨ k = 5 ∨ k = 6) ∨ p + 9 + 4 * q < c ∧ c < p + 9 + 4 * q + 4))
/-- they are as they were, but for those of the n places from r on -/
def zOu (a r n : Nat) (M M2 : zMm) : Prop := ∀ c k, zCe a c k → ¬ (r ≤ c ∧ c < r + n) → M2 c k = M c k
theorem zPage.tag {T : zTl} {F : zRm'} {G : zGt} {p c : Nat} {k : Int} (h : zPage T F G p) (hc : c = p ∧ (k = 3 ∨ k = 4 ∨ k = 5 ∨ k = 6) ∨ p < c ∧ c < p + 4) : 20 ≤ (G c k).1 := by
  rcases hc with ⟨rfl, rfl | rfl | rfl | rfl⟩ | hc
  · rw [h.2.2.2.2.2.2.2.2.2.2.1]; decide
  · rw [h.2.2.2.2.2.2.2.2.2.2.2.1]; decide
  · rw [h.2.2.2.2.2.2.2.2.2.2.2.2.1]; decide
  · rw [h.2.2.2.2.2.2.2.2.2.2.2.2.2]; decide
  · rcases (show c = p + 1 ∨ c = p + 2 ∨ c = p + 3 by omega) with rfl | rfl | rfl
    · rw [h.2.2.2.1 k]; decide
    · rw [h.2.2.2.2.2.2.1 k]; decide
    · rw [h.2.2.2.2.2.2.2.2.2.1 k]; decide
theorem zSource.tag {T : zTl} {F : zRm'} {G : zGt} {p c : Nat} {k : Int} (h : zSource T F G p) (hc : c = p ∧ (k = 3 ∨ k = 4) ∨ ∃ q : Nat, q < 4 ∧ (c = p + 9 + 4 * q ∧ (k = 3 ∨ k = 4 ∨ k = 5 ∨ k = 6) ∨ p + 9 + 4 * q < c ∧ c < p + 9 + 4 * q + 4)) : 19 ≤ (G c k).1 := by
  rcases hc with ⟨rfl, rfl | rfl⟩ | ⟨q, hq, hc⟩
  · rw [h.2.2.2.2.2.2.2.2.2.2.1]; decide
  · rw [h.2.2.2.2.2.2.2.2.2.2.2.1]; decide
  · have := (h.2.2.2.1 (q : Int) (by omega) (by omega)).2
    have h2 := this.tag (c := c) (k := k) (by omega)
    omega
theorem zCe.tag {T : zTl} {F : zRm'} {G : zGt} {a c : Nat} {k : Int} (h0 : zHideSets T F G a) (h : zCe a c k) : 19 ≤ (G c k).1 := by
  obtain ⟨p, rfl | rfl | rfl, hc⟩ := h
  · exact h0.2.2.2.2.2.2.1.tag hc
  · exact (h0.2.2.2.2.2.2.2.2.2.1 0 (by omega) (by omega)).2.tag hc
  · exact (h0.2.2.2.2.2.2.2.2.2.1 1 (by omega) (by omega)).2.tag hc
theorem zOu.rf {a r n : Nat} {M : zMm} : zOu a r n M M := fun _ _ _ _ => rfl
theorem zOu.kp {T : zTl} {F : zRm'} {G : zGt} {a r n m : Nat} {M M1 M2 : zMm} (h : zOu a r n M M1) (h0 : zHideSets T F G a) (hk : zKp G m M1 M2) (hm : m ≤ 19) : zOu a r n M M2 := fun c k q z => (hk c k (Nat.le_trans hm (zCe.tag h0 q))).trans (h c k q z)
theorem zOu.rg {a r n b m : Nat} {M M1 M2 : zMm} (h : zOu a r n M M1) (hr : zKr b m M1 M2) (hb : r ≤ b ∧ b + m ≤ r + n) : zOu a r n M M2 := fun c k q z => (hr c k (by omega)).trans (h c k q z)
theorem zCe.low {a c : Nat} {k : Int} (h : zCe a c k) : c ≠ a ∧ c ≠ a + 1 ∧ c ≠ a + 28 ∧ c ≠ a + 29 ∧ a + 2 ≤ c ∧ c < a + 836 := by
  obtain ⟨p, hp, hc⟩ := h
  rcases hc with ⟨h1, h2⟩ | ⟨q, h1, h2⟩ <;> omega
theorem zOu.up {a r n c : Nat} {M M1 M2 : zMm} {i x : Int} (h : zOu a r n M M1) (e : M2 = zup M1 (a + c) i x) (hc : c < 2 ∨ c = 28 ∨ c = 29) : zOu a r n M M2 := fun d k q z => by
  have := q.low
  exact (zup_p e (by omega) k).trans (h d k q z)
theorem zOu.wd {a r n r2 n2 : Nat} {M M2 : zMm} (h : zOu a r n M M2) (hr : r2 ≤ r ∧ r + n ≤ r2 + n2 ∨ n = 0) : zOu a r2 n2 M M2 := fun c k q z => h c k q (by omega)
theorem zOu.lo {a r n : Nat} {M M2 : zMm} (g : ∀ c k, a ≤ c → c < a + 836 → M2 c k = M c k) : zOu a r n M M2 := fun c k q _ => g c k (by have := q.low; omega) (by have := q.low; omega)
theorem zOu.tr {a r n : Nat} {M M1 M2 : zMm} (h : zOu a r n M M1) (g : zOu a r n M1 M2) : zOu a r n M M2 := fun c k q z => (g c k q z).trans (h c k q z)
theorem zCe.pg {a c p : Nat} {k q : Int} (hp : p = a + 2 ∨ p = a + 786 ∨ p = a + 811) (hq : 0 ≤ q ∧ q < 4) (hc : c = p + 9 + 4 * q.toNat ∧ (k = 3 ∨ k = 4 ∨ k = 5 ∨ k = 6) ∨ p + 9 + 4 * q.toNat < c ∧ c < p + 9 + 4 * q.toNat + 4) : zCe a c k := ⟨p, hp, Or.inr ⟨q.toNat, by omega, hc⟩⟩
theorem zOu.sm {a r n p : Nat} {M M2 : zMm} {q : Int} (h : zOu a r n M M2) (hp : p = a + 2 ∨ p = a + 786 ∨ p = a + 811) (hq : 0 ≤ q ∧ q < 4) (hd : p + 9 + 4 * q.toNat + 4 ≤ r ∨ r + n ≤ p + 9 + 4 * q.toNat) : zSmw M M2 (p + 9 + 4 * q.toNat) := ⟨h _ _ (zCe.pg hp hq (Or.inl ⟨rfl, by omega⟩)) (by omega), h _ _ (zCe.pg hp hq (Or.inl ⟨rfl, by omega⟩)) (by omega), fun i => h _ _ (zCe.pg hp hq (Or.inr ⟨by omega, by omega⟩)) (by omega)⟩
theorem zOu.s3 {a r n p : Nat} {M M2 : zMm} (h : zOu a r n M M2) (hp : p = a + 2 ∨ p = a + 786 ∨ p = a + 811) (hd : p < r ∨ r + n ≤ p) : M2 p 3 = M p 3 := h _ _ ⟨p, hp, Or.inl ⟨rfl, by omega⟩⟩ (by omega)
theorem zOu.s4 {a r n p : Nat} {M M2 : zMm} (h : zOu a r n M M2) (hp : p = a + 2 ∨ p = a + 786 ∨ p = a + 811) (hd : p < r ∨ r + n ≤ p) : M2 p 4 = M p 4 := h _ _ ⟨p, hp, Or.inl ⟨rfl, by omega⟩⟩ (by omega)
theorem zSmw.ofo {a r n p : Nat} {M M2 : zMm} {q : Int} (h : zOu a r n M M2) (hp : p = a + 2 + 9 + 4 * q.toNat) (hq : 0 ≤ q ∧ q < 4) (hd : p + 4 ≤ r ∨ r + n ≤ p) : zSmw M M2 p := by
  subst hp
  exact h.sm (Or.inl rfl) hq (by omega)
theorem zChg.cg {M M1 M2 M3 : zMm} {p : Nat} {l n n2 : Int} (e : zSmw M M1 p) (h : zChg M1 M2 p l n) (e2 : zSmw M2 M3 p) (hn : n = n2) : zChg M M3 p l n2 := by
  subst hn
  obtain ⟨h1, h2, h3, h4⟩ := h
  refine ⟨e2.1.trans (h1.trans e.1), by rw [e2.2.1, ← e.2.1]; exact h2, fun j j0 j1 jl => ?_, by rw [e2.2.2, e2.2.2]; exact h4⟩
  rw [e2.2.2, e2.2.2, ← e.2.2 (j + 1), ← e.2.2 j]
  exact h3 j j0 (by rw [e2.2.1] at j1; exact j1) jl
theorem zTko.cg {M M1 M2 M3 : zMm} {p : Nat} {l : Int} (e : zSmw M M1 p) (h : zTko M1 M2 p l) (e2 : zSmw M2 M3 p) : zTko M M3 p l := by
  obtain ⟨h1, h2, h3, h4⟩ := h
  refine ⟨e2.1.trans (h1.trans e.1), by rw [e2.2.1, ← e.2.1]; exact h2, fun j j0 j1 => ?_, fun j j0 j1 => ?_⟩
  · rw [e2.2.2, e2.2.2, ← e.2.2 (j + 1), ← e.2.2 j]
    exact h3 j j0 j1
  · rw [e2.2.2, e2.2.2, ← e.2.2 (j + 1 + 1), ← e.2.2 (j + 1)]
    exact h4 j j0 (by rw [e2.2.1] at j1; exact j1)
/-- what edit of line l answers: n bytes of g, a file told (h) of s lines and t bytes, line l of c bytes with its 10 -/
def zEA (g : Int → Int) (n : Int) (h : Prop) (l s t c x : Int) : Prop := ¬ (h ∧ 0 ≤ l ∧ l ≤ s) ∧ x = -2 ∨ (h ∧ 0 ≤ l ∧ l ≤ s) ∧ ∃ b, zWb g n 32 b ∧ (0 ≤ b ∧ x = -1000 - b ∨ b = -1 ∧ (l = s ∧ (x = -3 ∧ (400 < t + n + 1 ∨ 40 ≤ s) ∨ x = s + 1 ∧ t + n + 1 ≤ 400 ∧ s < 40) ∨ l < s ∧ (x = -3 ∧ 400 < t + n + 1 - c ∨ x = s ∧ t + n + 1 - c ≤ 400)))
theorem zEA.eq {g g2 : Int → Int} {n l s s2 t t2 c c2 x y : Int} {h h2 : Prop} (p : zEA g n h l s t c x) (q : zEA g2 n h2 l s2 t2 c2 y) (e : ∀ j, 0 ≤ j → j < n → g j = g2 j) (hh : h ↔ h2) (hs : h → s = s2 ∧ t = t2 ∧ (0 ≤ l → l < s → c = c2)) : x = y := by
  rcases p with ⟨p1, p2⟩ | ⟨⟨p1, p2, p3⟩, b, p4, p5⟩
  · rcases q with ⟨q1, q2⟩ | ⟨⟨q1, q2, q3⟩, b2, q4, q5⟩
    · omega
    · obtain ⟨r1, r2, r3⟩ := hs (hh.mpr q1)
      exact absurd ⟨hh.mpr q1, q2, by omega⟩ p1
  · obtain ⟨r1, r2, r3⟩ := hs p1
    rcases q with ⟨q1, q2⟩ | ⟨⟨q1, q2, q3⟩, b2, q4, q5⟩
    · exact absurd ⟨hh.mp p1, p2, by omega⟩ q1
    · have e1 := zWb.eq p4 q4 e
      by_cases z : l < s
      · have r4 := r3 p2 z
        omega
      · omega
/-- a source is now as another one was -/
def zScw (M M2 : zMm) (p o : Nat) : Prop := (M2 p 3 = M o 3 ∧ M2 p 4 = M o 4) ∧ zSd M M2 p o 4
theorem zScw.ou {a p o : Nat} {M M1 M2 : zMm} (h : zScw M M1 p o) (g : zOu a 0 0 M1 M2) (hp : p = a + 2 ∨ p = a + 786 ∨ p = a + 811) : zScw M M2 p o := ⟨⟨(g.s3 hp (by omega)).trans h.1.1, (g.s4 hp (by omega)).trans h.1.2⟩, fun k k0 k1 => (h.2 k k0 k1).tr (g.sm hp ⟨k0, k1⟩ (by omega))⟩
theorem zOu.ur {a r n c : Nat} {M M1 M2 : zMm} {i x : Int} (h : zOu a r n M M1) (e : M2 = zup M1 c i x) (hc : r ≤ c ∧ c < r + n) : zOu a r n M M2 := fun d k q z => (zup_p e (by omega) k).trans (h d k q z)
/-- how many files are told, of the first i -/
def zFt (M : zMm) (a : Nat) (i : Int) : Int := zSum (fun j => M (a + 9 + 4 * j.toNat) 4) 0 i.toNat
theorem zFt_0 {M : zMm} {a : Nat} : zFt M a 0 = 0 := rfl
theorem zFt_s {M : zMm} {a : Nat} {i : Int} (h : 0 ≤ i) : zFt M a (i + 1) = zFt M a i + M (a + 9 + 4 * i.toNat) 4 := by
  unfold zFt
  rw [zSum_s h]
  show _ + M (a + 9 + 4 * ((0 : Int) + i).toNat) 4 = _
  rw [Int.zero_add]
theorem zFt_4 {M : zMm} {a : Nat} : zFt M a 4 = M (a + 9) 4 + M (a + 13) 4 + M (a + 17) 4 + M (a + 21) 4 := by
  have h0 := zFt_s (M := M) (a := a) (i := 0) (by omega)
  have h1 := zFt_s (M := M) (a := a) (i := 1) (by omega)
  have h2 := zFt_s (M := M) (a := a) (i := 2) (by omega)
  have h3 := zFt_s (M := M) (a := a) (i := 3) (by omega)
  rw [zFt_0] at h0
  rw [show (0 : Int) + 1 = 1 from rfl, show a + 9 + 4 * (0 : Int).toNat = a + 9 from rfl] at h0
  rw [show (1 : Int) + 1 = 2 from rfl, show a + 9 + 4 * (1 : Int).toNat = a + 13 from rfl] at h1
  rw [show (2 : Int) + 1 = 3 from rfl, show a + 9 + 4 * (2 : Int).toNat = a + 17 from rfl] at h2
  rw [show (3 : Int) + 1 = 4 from rfl, show a + 9 + 4 * (3 : Int).toNat = a + 21 from rfl] at h3
  omega

theorem c_X11_file_v {w : zWp} {T : zTl} {M : zMm} {J : zJm} {R : zRm'} {G : zGt} {F : zRm'} {a : Nat} (hI : zI G M) (hF : zF F R) (h0 : zHideSets T F G a) (v1 : Int) (hst : R a 8 = none ∨ ∃ sy, R a 8 = some sy ∧ zStudy T F G sy) (hg30 : ∀ (c : Nat) (k : Int), a ≤ c → c < a + 836 → (G c k).1 < 30) (p1 : -2147483648 ≤ v1 ∧ v1 ≤ 2147483647) (p2 : zCI M a) : zCt w 14 0 0 yX11_file cX11_file 4 (some .int) [.ref (w.2.1 + a), zi v1] (T, M, J, R) (zPi T R G (fun x M2 => (zKp G 30 M M2) ∧ (M2 a 1 = 0) ∧ (∀ j : Int, M2 (a + 28) j = M (a + 28) j) ∧ (zFA (M (a + 1)) (M a 1) v1 x) ∧ (zCI M2 a) ∧ (x < 0 ∧ zOu a 0 0 M M2 ∨ 0 ≤ x ∧ (0 ≤ v1 ∧ v1 ≤ 3) ∧ zNf M2 (a + 2 + 9 + 4 * v1.toNat) (M (a + 1)) (M a 1) x ∧ zOu a (a + 2 + 9 + 4 * v1.toNat) 4 M M2))) := by
  refine zCt.of rfl (Nat.le_of_ble_eq_true rfl) ?_
  intro p e s m args below meth c C
  obtain ⟨Po, hPo⟩ : ∃ Po, Po = zPi T R G (fun x M2 => (zKp G 30 M M2) ∧ (M2 a 1 = 0) ∧ (∀ j : Int, M2 (a + 28) j = M (a + 28) j) ∧ (zFA (M (a + 1)) (M a 1) v1 x) ∧ (zCI M2 a) ∧ (x < 0 ∧ zOu a 0 0 M M2 ∨ 0 ≤ x ∧ (0 ≤ v1 ∧ v1 ≤ 3) ∧ zNf M2 (a + 2 + 9 + 4 * v1.toNat) (M (a + 1)) (M a 1) x ∧ zOu a (a + 2 + 9 + 4 * v1.toNat) 4 M M2)) := ⟨_, rfl⟩
  rw [← hPo]
  have hK0 : zKp G 30 M M := zKp.rf
  show zK w p e 14 0 0 s m args below meth c 4 T Po 0 [.ref (w.2.1 + a), zi v1, .null, .null] [] (T, M, J, R)
  refine q_aload_n C dX11_file_0 (n := 1) rfl rfl ?_
  refine q_callVi C dX11_file_1 (n := 4) rfl m_X11_54 v_yX11_takeTape h0.1 ⟨by decide, rfl⟩ (c_X11_takeTape (w := w) (J := J) hI hF h0) (Nat.le_of_ble_eq_true rfl) rfl rfl (Nat.le_of_ble_eq_true rfl) ⟨Nat.le_refl _, Nat.le_refl _⟩ (fun x9 M5 J6  hI7 h8 => ?_)
  obtain ⟨hk10, h1, h2, h3, h4⟩ := h8
  have hK11 := hK0.tr hk10 (by decide)
  refine q_istore_n C [.ref (w.2.1 + a), zi v1, zi x9, .null] dX11_file_4 (n := 5) rfl rfl rfl ?_
  refine q_iload_n C dX11_file_5 (n := 6) rfl rfl ?_
  refine q_if_lt C 14 dX11_file_6 (n := 9) rfl rfl (by omega) (fun h12 => ?_) (fun h12 => ?_)
  · refine q_bipush C dX11_file_14 (n := 16) rfl (x := (-2)) (by decide) ?_
    have hci13 : zCI M5 a := (zCI.kp p2 h0 hk10 (by decide))
    exact q_iret C dX11_file_16 ⟨rfl, rfl⟩ (by rw [hPo]; exact ⟨(-2), M5, J6, rfl, rfl, hI7, hK11, (by have hz : M5 a 1 = M5 a 1 := rfl; omega), (fun j => (hk10 _ _ (zle_t (h0.2.2.2.2.2.2.2.2.2.2.2.2.1 j) (by decide)))), (Or.inl ⟨by omega, rfl⟩), hci13, (Or.inl ⟨by omega, (zOu.kp (zOu.rf (r := 0) (n := 0)) h0 hk10 (by decide))⟩)⟩)
  · refine q_iload_n C dX11_file_9 (n := 10) rfl rfl ?_
    refine q_iconst C dX11_file_10 (n := 11) rfl ?_
    refine q_icmp_lt C 17 dX11_file_11 (n := 14) rfl rfl (by omega) (fun h14 => ?_) (fun h14 => ?_)
    · refine q_iload_n C dX11_file_17 (n := 18) rfl rfl ?_
      refine q_sipush C dX11_file_18 (n := 21) rfl (x := 400) (by decide) ?_
      refine q_icmp_le C 27 dX11_file_21 (n := 24) rfl rfl (by omega) (fun h15 => ?_) (fun h15 => ?_)
      · refine q_aload_n C dX11_file_27 (n := 28) rfl rfl ?_
        refine q_iload_n C dX11_file_28 (n := 29) rfl rfl ?_
        refine q_bipush C dX11_file_29 (n := 31) rfl (x := 10) (by decide) ?_
        refine q_callVp C dX11_file_31 (n := 34) rfl m_X11_58 v_yX11_wrongByte h0.1 ⟨by decide, rfl⟩ (c_X11_wrongByte (w := w) (J := J6) hI7 hF h0 x9 10 (by omega) (by omega)) (Nat.le_of_ble_eq_true rfl) rfl rfl (Nat.le_of_ble_eq_true rfl) ⟨Nat.le_refl _, Nat.le_refl _⟩ (fun x18 h19 => ?_)
        obtain ⟨h16, h17⟩ := h19
        refine q_istore_n C [.ref (w.2.1 + a), zi v1, zi x9, zi x18] dX11_file_34 (n := 35) rfl rfl rfl ?_
        refine q_iload_n C dX11_file_35 (n := 36) rfl rfl ?_
        refine q_iconst C dX11_file_36 (n := 37) rfl ?_
        refine q_icmp_eq C 46 dX11_file_37 (n := 40) rfl rfl (by omega) (fun h20 => ?_) (fun h20 => ?_)
        · refine q_aload_n C dX11_file_46 (n := 47) rfl rfl ?_
          refine q_iload_n C dX11_file_47 (n := 48) rfl rfl ?_
          refine q_callVp C dX11_file_48 (n := 51) rfl m_X11_62 v_yX11_linesOnTape h0.1 ⟨by decide, rfl⟩ (c_X11_linesOnTape (w := w) (J := J6) hI7 hF h0 x9 (by omega)) (Nat.le_of_ble_eq_true rfl) rfl rfl (Nat.le_of_ble_eq_true rfl) ⟨Nat.le_refl _, Nat.le_refl _⟩ (fun x23 h24 => ?_)
          obtain ⟨h21, h22⟩ := h24
          refine q_bipush C dX11_file_51 (n := 53) rfl (x := 40) (by decide) ?_
          refine q_icmp_le C 59 dX11_file_53 (n := 56) rfl rfl (by omega) (fun h25 => ?_) (fun h25 => ?_)
          · refine q_aload_n C dX11_file_59 (n := 60) rfl rfl ?_
            refine q_getR C dX11_file_60 (n := 63) rfl f_X11_20 h0.1 (hF _ _ _ h0.2.2.2.2.2.1) ?_
            refine q_getR C dX11_file_63 (n := 66) rfl f_X11_66 h0.2.2.2.2.2.2.1.1 (hF _ _ _ h0.2.2.2.2.2.2.1.2.1) ?_
            refine q_iload_n C dX11_file_66 (n := 67) rfl rfl ?_
            refine q_aald C dX11_file_67 (n := 68) rfl ⟨by decide, by decide⟩ h0.2.2.2.2.2.2.1.2.2.1 (by omega) (hF _ _ _ (h0.2.2.2.2.2.2.1.2.2.2.1 v1 (by omega) (by omega)).1) ?_
            refine q_aload_n C dX11_file_68 (n := 69) rfl rfl ?_
            refine q_getR C dX11_file_69 (n := 72) rfl f_X11_9 h0.1 (hF _ _ _ h0.2.1) ?_
            refine q_iload_n C dX11_file_72 (n := 73) rfl rfl ?_
            have hci26 : zCI M5 a := (zCI.kp p2 h0 hk10 (by decide))
            refine q_callVv C dX11_file_73 (n := 76) rfl m_X11_70 v_yX4_read (h0.2.2.2.2.2.2.1.2.2.2.1 v1 (by omega) (by omega)).2.1 ⟨by decide, rfl⟩ (c_X4_read_v (w := w) (J := J6) hI7 hF (h0.2.2.2.2.2.2.1.2.2.2.1 v1 (by omega) (by omega)).2 h0.2.2.1 h0.2.2.2.1 x9 (by omega) (by omega) ((hci26).1 v1 (by omega) (by omega)).1 (by omega)) (Nat.le_of_ble_eq_true rfl) rfl rfl (Nat.le_of_ble_eq_true rfl) ⟨Nat.le_refl _, Nat.le_refl _⟩ (fun M31 J32  hI33 h34 => ?_)
            obtain ⟨hk35, h27, h28, h29, h30⟩ := h34
            have hK36 := hK11.tr (zKp.ofr hk35 (fun c k h1 h2 => hg30 c k (by omega) (by omega))) (by decide)
            refine q_aload_n C dX11_file_76 (n := 77) rfl rfl ?_
            refine q_callVv C dX11_file_77 (n := 80) rfl m_X11_76 v_yX11_forgetStudy h0.1 ⟨by decide, rfl⟩ (c_X11_forgetStudy (w := w) (J := J32) hI33 hF h0 (by assumption)) (Nat.le_of_ble_eq_true rfl) rfl rfl (Nat.le_of_ble_eq_true rfl) ⟨Nat.le_refl _, Nat.le_refl _⟩ (fun M37 J38  hI39 h40 => ?_)
            have hK42 := hK36.tr h40 (by decide)
            refine q_aload_n C dX11_file_80 (n := 81) rfl rfl ?_
            refine q_getR C dX11_file_81 (n := 84) rfl f_X11_20 h0.1 (hF _ _ _ h0.2.2.2.2.2.1) ?_
            refine q_getR C dX11_file_84 (n := 87) rfl f_X11_66 h0.2.2.2.2.2.2.1.1 (hF _ _ _ h0.2.2.2.2.2.2.1.2.1) ?_
            refine q_iload_n C dX11_file_87 (n := 88) rfl rfl ?_
            refine q_aald C dX11_file_88 (n := 89) rfl ⟨by decide, by decide⟩ h0.2.2.2.2.2.2.1.2.2.1 (by omega) (hF _ _ _ (h0.2.2.2.2.2.2.1.2.2.2.1 v1 (by omega) (by omega)).1) ?_
            have g43 := zI.at hI33 (h0.2.2.2.2.2.2.1.2.2.2.1 v1 (by omega) (by omega)).2.2.2.2.2.2.2.2.2.2.2.1
            refine q_getI C dX11_file_89 (n := 92) rfl f_X11_79 (h0.2.2.2.2.2.2.1.2.2.2.1 v1 (by omega) (by omega)).2.1 (v := M31 (a + 2 + 9 + 4 * (v1 : Int).toNat) 3) (h40 _ _ (zle_t (h0.2.2.2.2.2.2.1.2.2.2.1 v1 (by omega) (by omega)).2.2.2.2.2.2.2.2.2.2.2.1 (by decide))) ?_
            have hci44 : zCI M37 a := (zCI.kp (zCI.pg (k := v1) hci26 hk35 (by omega) h27) h0 h40 (by decide))
            exact q_iret C dX11_file_92 ⟨rfl, rfl⟩ (by rw [hPo]; exact ⟨M31 (a + 2 + 9 + 4 * (v1 : Int).toNat) 3, M37, J38, rfl, rfl, hI39, hK42, (by have hz : M37 a 1 = M5 a 1 := ((h40 _ _ (zle_t h0.2.2.2.2.1 (by decide))).trans (hk35 _ _ (by omega))); omega), (fun j => ((h40 _ _ (zle_t (h0.2.2.2.2.2.2.2.2.2.2.2.2.1 j) (by decide))).trans ((hk35 _ _ (by omega)).trans (hk10 _ _ (zle_t (h0.2.2.2.2.2.2.2.2.2.2.2.2.1 j) (by decide)))))), (zFA.d (by omega) (by omega) (zWb.cg h17 (fun j => (h4 j)) (by omega) rfl) (by omega) (zLi.cg (g := M5 (a + 1)) (l := M31 (a + 2 + 9 + 4 * (v1 : Int).toNat) 3) h28 (fun j => (h4 j)) (by omega)) (Or.inr ⟨by omega, rfl⟩)), hci44, (Or.inr ⟨by omega, by omega, zNf.mk h29 rfl h30 (zSmw.ofo (q := v1) (zOu.kp (zOu.rf (r := 0) (n := 0)) h0 h40 (by decide)) (by omega) (by omega) (Or.inr (by omega))) (fun j => (h4 j)) (by omega), (zOu.kp (zOu.rg (zOu.kp (zOu.rf (r := a + 2 + 9 + 4 * v1.toNat) (n := 4)) h0 hk10 (by decide)) hk35 (by omega)) h0 h40 (by decide))⟩)⟩)
          · refine q_bipush C dX11_file_56 (n := 58) rfl (x := (-3)) (by decide) ?_
            have hci45 : zCI M5 a := (zCI.kp p2 h0 hk10 (by decide))
            exact q_iret C dX11_file_58 ⟨rfl, rfl⟩ (by rw [hPo]; exact ⟨(-3), M5, J6, rfl, rfl, hI7, hK11, (by have hz : M5 a 1 = M5 a 1 := rfl; omega), (fun j => (hk10 _ _ (zle_t (h0.2.2.2.2.2.2.2.2.2.2.2.2.1 j) (by decide)))), (zFA.d (by omega) (by omega) (zWb.cg h17 (fun j => (h4 j)) (by omega) rfl) (by omega) (zLi.cg (g := M5 (a + 1)) (l := x23) h22 (fun j => (h4 j)) (by omega)) (Or.inl ⟨by omega, rfl⟩)), hci45, (Or.inl ⟨by omega, (zOu.kp (zOu.rf (r := 0) (n := 0)) h0 hk10 (by decide))⟩)⟩)
        · refine q_sipush C dX11_file_40 (n := 43) rfl (x := (-1000)) (by decide) ?_
          refine q_iload_n C dX11_file_43 (n := 44) rfl rfl ?_
          refine q_isub C dX11_file_44 (n := 45) rfl (v := (-1000) - x18) rfl ?_
          have hci46 : zCI M5 a := (zCI.kp p2 h0 hk10 (by decide))
          exact q_iret C dX11_file_45 ⟨rfl, rfl⟩ (by rw [hPo]; exact ⟨(-1000) - x18, M5, J6, rfl, rfl, hI7, hK11, (by have hz : M5 a 1 = M5 a 1 := rfl; omega), (fun j => (hk10 _ _ (zle_t (h0.2.2.2.2.2.2.2.2.2.2.2.2.1 j) (by decide)))), (zFA.c (by omega) (by omega) (zWb.cg h17 (fun j => (h4 j)) (by omega) rfl) ⟨by omega, by omega⟩), hci46, (Or.inl ⟨by omega, (zOu.kp (zOu.rf (r := 0) (n := 0)) h0 hk10 (by decide))⟩)⟩)
      · refine q_bipush C dX11_file_24 (n := 26) rfl (x := (-3)) (by decide) ?_
        have hci47 : zCI M5 a := (zCI.kp p2 h0 hk10 (by decide))
        exact q_iret C dX11_file_26 ⟨rfl, rfl⟩ (by rw [hPo]; exact ⟨(-3), M5, J6, rfl, rfl, hI7, hK11, (by have hz : M5 a 1 = M5 a 1 := rfl; omega), (fun j => (hk10 _ _ (zle_t (h0.2.2.2.2.2.2.2.2.2.2.2.2.1 j) (by decide)))), (Or.inr ⟨by omega, Or.inl ⟨by omega, rfl⟩⟩), hci47, (Or.inl ⟨by omega, (zOu.kp (zOu.rf (r := 0) (n := 0)) h0 hk10 (by decide))⟩)⟩)
    · refine q_bipush C dX11_file_14 (n := 16) rfl (x := (-2)) (by decide) ?_
      have hci48 : zCI M5 a := (zCI.kp p2 h0 hk10 (by decide))
      exact q_iret C dX11_file_16 ⟨rfl, rfl⟩ (by rw [hPo]; exact ⟨(-2), M5, J6, rfl, rfl, hI7, hK11, (by have hz : M5 a 1 = M5 a 1 := rfl; omega), (fun j => (hk10 _ _ (zle_t (h0.2.2.2.2.2.2.2.2.2.2.2.2.1 j) (by decide)))), (Or.inl ⟨by omega, rfl⟩), hci48, (Or.inl ⟨by omega, (zOu.kp (zOu.rf (r := 0) (n := 0)) h0 hk10 (by decide))⟩)⟩)
theorem c_X11_edit_v {w : zWp} {T : zTl} {M : zMm} {J : zJm} {R : zRm'} {G : zGt} {F : zRm'} {a : Nat} (hI : zI G M) (hF : zF F R) (h0 : zHideSets T F G a) (v1 : Int) (v2 : Int) (hst : R a 8 = none ∨ ∃ sy, R a 8 = some sy ∧ zStudy T F G sy) (hg30 : ∀ (c : Nat) (k : Int), a ≤ c → c < a + 836 → (G c k).1 < 30) (p1 : -2147483648 ≤ v1 ∧ v1 ≤ 2147483647) (p2 : -2147483648 ≤ v2 ∧ v2 ≤ 2147483647) (p3 : zCI M a) : zCt w 14 0 0 yX11_edit cX11_edit 5 (some .int) [.ref (w.2.1 + a), zi v1, zi v2] (T, M, J, R) (zPi T R G (fun x M2 => (zKp G 30 M M2) ∧ (M2 a 1 = 0) ∧ (∀ j : Int, M2 (a + 28) j = M (a + 28) j) ∧ (zCI M2 a) ∧ (zEA (M (a + 1)) (M a 1) (0 ≤ v1 ∧ v1 ≤ 3 ∧ M (a + 2 + 9 + 4 * v1.toNat) 4 = 1) v2 (M (a + 2 + 9 + 4 * v1.toNat) 3) (M (a + 2 + 9 + 4 * v1.toNat + 2) (M (a + 2 + 9 + 4 * v1.toNat) 3)) (M (a + 2 + 9 + 4 * v1.toNat + 2) (v2 + 1) - M (a + 2 + 9 + 4 * v1.toNat + 2) v2) x) ∧ (x < 0 ∧ zOu a 0 0 M M2 ∨ 0 ≤ x ∧ (0 ≤ v1 ∧ v1 ≤ 3 ∧ M (a + 2 + 9 + 4 * v1.toNat) 4 = 1) ∧ zChg M M2 (a + 2 + 9 + 4 * v1.toNat) v2 (M a 1) ∧ zOu a (a + 2 + 9 + 4 * v1.toNat) 4 M M2))) := by
  refine zCt.of rfl (Nat.le_of_ble_eq_true rfl) ?_
  intro p e s m args below meth c C
  obtain ⟨Po, hPo⟩ : ∃ Po, Po = zPi T R G (fun x M2 => (zKp G 30 M M2) ∧ (M2 a 1 = 0) ∧ (∀ j : Int, M2 (a + 28) j = M (a + 28) j) ∧ (zCI M2 a) ∧ (zEA (M (a + 1)) (M a 1) (0 ≤ v1 ∧ v1 ≤ 3 ∧ M (a + 2 + 9 + 4 * v1.toNat) 4 = 1) v2 (M (a + 2 + 9 + 4 * v1.toNat) 3) (M (a + 2 + 9 + 4 * v1.toNat + 2) (M (a + 2 + 9 + 4 * v1.toNat) 3)) (M (a + 2 + 9 + 4 * v1.toNat + 2) (v2 + 1) - M (a + 2 + 9 + 4 * v1.toNat + 2) v2) x) ∧ (x < 0 ∧ zOu a 0 0 M M2 ∨ 0 ≤ x ∧ (0 ≤ v1 ∧ v1 ≤ 3 ∧ M (a + 2 + 9 + 4 * v1.toNat) 4 = 1) ∧ zChg M M2 (a + 2 + 9 + 4 * v1.toNat) v2 (M a 1) ∧ zOu a (a + 2 + 9 + 4 * v1.toNat) 4 M M2)) := ⟨_, rfl⟩
  rw [← hPo]
  have hK0 : zKp G 30 M M := zKp.rf
  show zK w p e 14 0 0 s m args below meth c 5 T Po 0 [.ref (w.2.1 + a), zi v1, zi v2, .null, .null] [] (T, M, J, R)
  refine q_aload_n C dX11_edit_0 (n := 1) rfl rfl ?_
  refine q_callVi C dX11_edit_1 (n := 4) rfl m_X11_54 v_yX11_takeTape h0.1 ⟨by decide, rfl⟩ (c_X11_takeTape (w := w) (J := J) hI hF h0) (Nat.le_of_ble_eq_true rfl) rfl rfl (Nat.le_of_ble_eq_true rfl) ⟨Nat.le_refl _, Nat.le_refl _⟩ (fun x9 M5 J6  hI7 h8 => ?_)
  obtain ⟨hk10, h1, h2, h3, h4⟩ := h8
  have hK11 := hK0.tr hk10 (by decide)
  refine q_istore_n C [.ref (w.2.1 + a), zi v1, zi v2, zi x9, .null] dX11_edit_4 (n := 5) rfl rfl rfl ?_
  refine q_aload_n C dX11_edit_5 (n := 6) rfl rfl ?_
  refine q_getR C dX11_edit_6 (n := 9) rfl f_X11_20 h0.1 (hF _ _ _ h0.2.2.2.2.2.1) ?_
  refine q_iload_n C dX11_edit_9 (n := 10) rfl rfl ?_
  refine q_callVp C dX11_edit_10 (n := 13) rfl m_X11_99 v_yX7_hasFile h0.2.2.2.2.2.2.1.1 ⟨by decide, rfl⟩ (c_X7_hasFile_e (w := w) (J := J6) hI7 hF h0.2.2.2.2.2.2.1 v1 (by omega)) (Nat.le_of_ble_eq_true rfl) rfl rfl (Nat.le_of_ble_eq_true rfl) ⟨Nat.le_refl _, Nat.le_refl _⟩ (fun x14 h15 => ?_)
  obtain ⟨h12, h13⟩ := h15
  have hsf16 : 0 ≤ v1 ∧ v1 ≤ 3 → zSmw M M5 (a + 2 + 9 + 4 * v1.toNat) := fun h => (zSmw.ofo (q := v1) (zOu.kp (zOu.rf (r := 0) (n := 0)) h0 hk10 (by decide)) (by omega) (by omega) (Or.inr (by omega)))
  have hsf17 : 0 ≤ v1 ∧ v1 ≤ 3 → M5 (a + 2 + 9 + 4 * v1.toNat) 4 = M (a + 2 + 9 + 4 * v1.toNat) 4 ∧ M5 (a + 2 + 9 + 4 * v1.toNat) 3 = M (a + 2 + 9 + 4 * v1.toNat) 3 := fun h => ⟨(hsf16 h).1, (hsf16 h).2.1⟩
  refine q_if_eq C 36 dX11_edit_13 (n := 16) rfl rfl (by omega) (fun h18 => ?_) (fun h18 => ?_)
  · refine q_bipush C dX11_edit_36 (n := 38) rfl (x := (-2)) (by decide) ?_
    have hci19 : zCI M5 a := (zCI.kp p3 h0 hk10 (by decide))
    exact q_iret C dX11_edit_38 ⟨rfl, rfl⟩ (by rw [hPo]; exact ⟨(-2), M5, J6, rfl, rfl, hI7, hK11, (by have hz : M5 a 1 = M5 a 1 := rfl; omega), (fun j => (hk10 _ _ (zle_t (h0.2.2.2.2.2.2.2.2.2.2.2.2.1 j) (by decide)))), hci19, (Or.inl ⟨by omega, rfl⟩), (Or.inl ⟨by omega, (zOu.kp (zOu.rf (r := 0) (n := 0)) h0 hk10 (by decide))⟩)⟩)
  · refine q_iload_n C dX11_edit_16 (n := 17) rfl rfl ?_
    refine q_if_lt C 36 dX11_edit_17 (n := 20) rfl rfl (by omega) (fun h20 => ?_) (fun h20 => ?_)
    · refine q_bipush C dX11_edit_36 (n := 38) rfl (x := (-2)) (by decide) ?_
      have hci21 : zCI M5 a := (zCI.kp p3 h0 hk10 (by decide))
      exact q_iret C dX11_edit_38 ⟨rfl, rfl⟩ (by rw [hPo]; exact ⟨(-2), M5, J6, rfl, rfl, hI7, hK11, (by have hz : M5 a 1 = M5 a 1 := rfl; omega), (fun j => (hk10 _ _ (zle_t (h0.2.2.2.2.2.2.2.2.2.2.2.2.1 j) (by decide)))), hci21, (Or.inl ⟨by omega, rfl⟩), (Or.inl ⟨by omega, (zOu.kp (zOu.rf (r := 0) (n := 0)) h0 hk10 (by decide))⟩)⟩)
    · refine q_iload_n C dX11_edit_20 (n := 21) rfl rfl ?_
      refine q_aload_n C dX11_edit_21 (n := 22) rfl rfl ?_
      refine q_getR C dX11_edit_22 (n := 25) rfl f_X11_20 h0.1 (hF _ _ _ h0.2.2.2.2.2.1) ?_
      refine q_getR C dX11_edit_25 (n := 28) rfl f_X11_66 h0.2.2.2.2.2.2.1.1 (hF _ _ _ h0.2.2.2.2.2.2.1.2.1) ?_
      refine q_iload_n C dX11_edit_28 (n := 29) rfl rfl ?_
      refine q_aald C dX11_edit_29 (n := 30) rfl ⟨by decide, by decide⟩ h0.2.2.2.2.2.2.1.2.2.1 (by omega) (hF _ _ _ (h0.2.2.2.2.2.2.1.2.2.2.1 v1 (by omega) (by omega)).1) ?_
      have g22 := zI.at hI (h0.2.2.2.2.2.2.1.2.2.2.1 v1 (by omega) (by omega)).2.2.2.2.2.2.2.2.2.2.2.1
      refine q_getI C dX11_edit_30 (n := 33) rfl f_X11_79 (h0.2.2.2.2.2.2.1.2.2.2.1 v1 (by omega) (by omega)).2.1 (v := M (a + 2 + 9 + 4 * (v1 : Int).toNat) 3) (hk10 _ _ (zle_t (h0.2.2.2.2.2.2.1.2.2.2.1 v1 (by omega) (by omega)).2.2.2.2.2.2.2.2.2.2.2.1 (by decide))) ?_
      refine q_icmp_le C 39 dX11_edit_33 (n := 36) rfl rfl (by omega) (fun h23 => ?_) (fun h23 => ?_)
      · refine q_aload_n C dX11_edit_39 (n := 40) rfl rfl ?_
        refine q_iload_n C dX11_edit_40 (n := 41) rfl rfl ?_
        refine q_bipush C dX11_edit_41 (n := 43) rfl (x := 32) (by decide) ?_
        refine q_callVp C dX11_edit_43 (n := 46) rfl m_X11_58 v_yX11_wrongByte h0.1 ⟨by decide, rfl⟩ (c_X11_wrongByte (w := w) (J := J6) hI7 hF h0 x9 32 (by omega) (by omega)) (Nat.le_of_ble_eq_true rfl) rfl rfl (Nat.le_of_ble_eq_true rfl) ⟨Nat.le_refl _, Nat.le_refl _⟩ (fun x26 h27 => ?_)
        obtain ⟨h24, h25⟩ := h27
        refine q_istore C [.ref (w.2.1 + a), zi v1, zi v2, zi x9, zi x26] dX11_edit_46 (n := 48) rfl rfl rfl ?_
        refine q_iload C dX11_edit_48 (n := 50) rfl rfl ?_
        refine q_iconst C dX11_edit_50 (n := 51) rfl ?_
        refine q_icmp_eq C 61 dX11_edit_51 (n := 54) rfl rfl (by omega) (fun h28 => ?_) (fun h28 => ?_)
        · refine q_aload_n C dX11_edit_61 (n := 62) rfl rfl ?_
          refine q_getR C dX11_edit_62 (n := 65) rfl f_X11_20 h0.1 (hF _ _ _ h0.2.2.2.2.2.1) ?_
          refine q_getR C dX11_edit_65 (n := 68) rfl f_X11_66 h0.2.2.2.2.2.2.1.1 (hF _ _ _ h0.2.2.2.2.2.2.1.2.1) ?_
          refine q_iload_n C dX11_edit_68 (n := 69) rfl rfl ?_
          refine q_aald C dX11_edit_69 (n := 70) rfl ⟨by decide, by decide⟩ h0.2.2.2.2.2.2.1.2.2.1 (by omega) (hF _ _ _ (h0.2.2.2.2.2.2.1.2.2.2.1 v1 (by omega) (by omega)).1) ?_
          refine q_iload_n C dX11_edit_70 (n := 71) rfl rfl ?_
          refine q_aload_n C dX11_edit_71 (n := 72) rfl rfl ?_
          refine q_getR C dX11_edit_72 (n := 75) rfl f_X11_9 h0.1 (hF _ _ _ h0.2.1) ?_
          refine q_iload_n C dX11_edit_75 (n := 76) rfl rfl ?_
          have hci29 : zCI M5 a := (zCI.kp p3 h0 hk10 (by decide))
          refine q_callVi C dX11_edit_76 (n := 79) rfl m_X11_255 v_yX4_change (h0.2.2.2.2.2.2.1.2.2.2.1 v1 (by omega) (by omega)).2.1 ⟨by decide, rfl⟩ (c_X4_change_v (w := w) (J := J6) hI7 hF (h0.2.2.2.2.2.2.1.2.2.2.1 v1 (by omega) (by omega)).2 v2 h0.2.2.1 h0.2.2.2.1 x9 (by have hz : M5 (a + 2 + 9 + 4 * v1.toNat) 3 = M (a + 2 + 9 + 4 * v1.toNat) 3 := (hk10 _ _ (zle_t (h0.2.2.2.2.2.2.1.2.2.2.1 v1 (by omega) (by omega)).2.2.2.2.2.2.2.2.2.2.2.1 (by decide))); omega) (by omega) (by omega) ((hci29).1 v1 (by omega) (by omega))) (Nat.le_of_ble_eq_true rfl) rfl rfl (Nat.le_of_ble_eq_true rfl) ⟨Nat.le_refl _, Nat.le_refl _⟩ (fun x39 M35 J36  hI37 h38 => ?_)
          obtain ⟨hk40, h30, h31, h32, h33, h34⟩ := h38
          have hK41 := hK11.tr (zKp.ofr hk40 (fun c k h1 h2 => hg30 c k (by omega) (by omega))) (by decide)
          refine q_if_ne C 85 dX11_edit_79 (n := 82) rfl rfl (by omega) (fun h42 => ?_) (fun h42 => ?_)
          · refine q_aload_n C dX11_edit_85 (n := 86) rfl rfl ?_
            refine q_callVv C dX11_edit_86 (n := 89) rfl m_X11_76 v_yX11_forgetStudy h0.1 ⟨by decide, rfl⟩ (c_X11_forgetStudy (w := w) (J := J36) hI37 hF h0 (by assumption)) (Nat.le_of_ble_eq_true rfl) rfl rfl (Nat.le_of_ble_eq_true rfl) ⟨Nat.le_refl _, Nat.le_refl _⟩ (fun M43 J44  hI45 h46 => ?_)
            have hK48 := hK41.tr h46 (by decide)
            refine q_aload_n C dX11_edit_89 (n := 90) rfl rfl ?_
            refine q_getR C dX11_edit_90 (n := 93) rfl f_X11_20 h0.1 (hF _ _ _ h0.2.2.2.2.2.1) ?_
            refine q_getR C dX11_edit_93 (n := 96) rfl f_X11_66 h0.2.2.2.2.2.2.1.1 (hF _ _ _ h0.2.2.2.2.2.2.1.2.1) ?_
            refine q_iload_n C dX11_edit_96 (n := 97) rfl rfl ?_
            refine q_aald C dX11_edit_97 (n := 98) rfl ⟨by decide, by decide⟩ h0.2.2.2.2.2.2.1.2.2.1 (by omega) (hF _ _ _ (h0.2.2.2.2.2.2.1.2.2.2.1 v1 (by omega) (by omega)).1) ?_
            have g49 := zI.at hI37 (h0.2.2.2.2.2.2.1.2.2.2.1 v1 (by omega) (by omega)).2.2.2.2.2.2.2.2.2.2.2.1
            refine q_getI C dX11_edit_98 (n := 101) rfl f_X11_79 (h0.2.2.2.2.2.2.1.2.2.2.1 v1 (by omega) (by omega)).2.1 (v := M35 (a + 2 + 9 + 4 * (v1 : Int).toNat) 3) (h46 _ _ (zle_t (h0.2.2.2.2.2.2.1.2.2.2.1 v1 (by omega) (by omega)).2.2.2.2.2.2.2.2.2.2.2.1 (by decide))) ?_
            have hci50 : zCI M43 a := (zCI.kp (zCI.pg (k := v1) hci29 hk40 (by omega) h31) h0 h46 (by decide))
            have hx51 := zChx.cg (n2 := M a 1) h33 (zSmw.ofo (q := v1) (zOu.kp (zOu.rf (r := 0) (n := 0)) h0 hk10 (by decide)) (by omega) (by omega) (Or.inr (by omega))) (by omega)
            unfold zChx at hx51
            have hx52 : ¬ v2 = M (a + 2 + 9 + 4 * v1.toNat) 3 ∨ M (a + 2 + 9 + 4 * v1.toNat + 2) v2 = M (a + 2 + 9 + 4 * v1.toNat + 2) (M (a + 2 + 9 + 4 * v1.toNat) 3) := (Decidable.em (v2 = M (a + 2 + 9 + 4 * v1.toNat) 3)).symm.imp id (fun h => by rw [h])
            have hx53 := (h34 (by omega)).2.1
            have hx54 : zSmw M M5 (a + 2 + 9 + 4 * v1.toNat) := (zSmw.ofo (q := v1) (zOu.kp (zOu.rf (r := 0) (n := 0)) h0 hk10 (by decide)) (by omega) (by omega) (Or.inr (by omega)))
            have hx55 := hx54.2.1
            exact q_iret C dX11_edit_101 ⟨rfl, rfl⟩ (by rw [hPo]; exact ⟨M35 (a + 2 + 9 + 4 * (v1 : Int).toNat) 3, M43, J44, rfl, rfl, hI45, hK48, (by have hz : M43 a 1 = M5 a 1 := ((h46 _ _ (zle_t h0.2.2.2.2.1 (by decide))).trans (hk40 _ _ (by omega))); omega), (fun j => ((h46 _ _ (zle_t (h0.2.2.2.2.2.2.2.2.2.2.2.2.1 j) (by decide))).trans ((hk40 _ _ (by omega)).trans (hk10 _ _ (zle_t (h0.2.2.2.2.2.2.2.2.2.2.2.2.1 j) (by decide)))))), hci50, (Or.inr ⟨⟨by omega, by omega, by omega⟩, _, (zWb.cg h25 (fun j => (h4 j)) (by omega) rfl), Or.inr ⟨by omega, by omega⟩⟩), (Or.inr ⟨by omega, ⟨by omega, by omega, by omega⟩, zChg.cg (zSmw.ofo (q := v1) (zOu.kp (zOu.rf (r := 0) (n := 0)) h0 hk10 (by decide)) (by omega) (by omega) (Or.inr (by omega))) (h34 (by omega)) (zSmw.ofo (q := v1) (zOu.kp (zOu.rf (r := 0) (n := 0)) h0 h46 (by decide)) (by omega) (by omega) (Or.inr (by omega))) (by omega), (zOu.kp (zOu.rg (zOu.kp (zOu.rf (r := a + 2 + 9 + 4 * v1.toNat) (n := 4)) h0 hk10 (by decide)) hk40 (by omega)) h0 h46 (by decide))⟩)⟩)
          · refine q_bipush C dX11_edit_82 (n := 84) rfl (x := (-3)) (by decide) ?_
            have hci56 : zCI M35 a := (zCI.pg (k := v1) hci29 hk40 (by omega) h31)
            have hx57 := zChx.cg (n2 := M a 1) h33 (zSmw.ofo (q := v1) (zOu.kp (zOu.rf (r := 0) (n := 0)) h0 hk10 (by decide)) (by omega) (by omega) (Or.inr (by omega))) (by omega)
            unfold zChx at hx57
            have hx58 : ¬ v2 = M (a + 2 + 9 + 4 * v1.toNat) 3 ∨ M (a + 2 + 9 + 4 * v1.toNat + 2) v2 = M (a + 2 + 9 + 4 * v1.toNat + 2) (M (a + 2 + 9 + 4 * v1.toNat) 3) := (Decidable.em (v2 = M (a + 2 + 9 + 4 * v1.toNat) 3)).symm.imp id (fun h => by rw [h])
            exact q_iret C dX11_edit_84 ⟨rfl, rfl⟩ (by rw [hPo]; exact ⟨(-3), M35, J36, rfl, rfl, hI37, hK41, (by have hz : M35 a 1 = M5 a 1 := (hk40 _ _ (by omega)); omega), (fun j => ((hk40 _ _ (by omega)).trans (hk10 _ _ (zle_t (h0.2.2.2.2.2.2.2.2.2.2.2.2.1 j) (by decide))))), hci56, (Or.inr ⟨⟨by omega, by omega, by omega⟩, _, (zWb.cg h25 (fun j => (h4 j)) (by omega) rfl), Or.inr ⟨by omega, by omega⟩⟩), (Or.inl ⟨by omega, by rw [h32 (by omega)]; exact (zOu.kp (zOu.rf (r := 0) (n := 0)) h0 hk10 (by decide))⟩)⟩)
        · refine q_sipush C dX11_edit_54 (n := 57) rfl (x := (-1000)) (by decide) ?_
          refine q_iload C dX11_edit_57 (n := 59) rfl rfl ?_
          refine q_isub C dX11_edit_59 (n := 60) rfl (v := (-1000) - x26) rfl ?_
          have hci59 : zCI M5 a := (zCI.kp p3 h0 hk10 (by decide))
          exact q_iret C dX11_edit_60 ⟨rfl, rfl⟩ (by rw [hPo]; exact ⟨(-1000) - x26, M5, J6, rfl, rfl, hI7, hK11, (by have hz : M5 a 1 = M5 a 1 := rfl; omega), (fun j => (hk10 _ _ (zle_t (h0.2.2.2.2.2.2.2.2.2.2.2.2.1 j) (by decide)))), hci59, (Or.inr ⟨⟨by omega, by omega, by omega⟩, _, (zWb.cg h25 (fun j => (h4 j)) (by omega) rfl), Or.inl ⟨by omega, rfl⟩⟩), (Or.inl ⟨by omega, (zOu.kp (zOu.rf (r := 0) (n := 0)) h0 hk10 (by decide))⟩)⟩)
      · refine q_bipush C dX11_edit_36 (n := 38) rfl (x := (-2)) (by decide) ?_
        have hci60 : zCI M5 a := (zCI.kp p3 h0 hk10 (by decide))
        exact q_iret C dX11_edit_38 ⟨rfl, rfl⟩ (by rw [hPo]; exact ⟨(-2), M5, J6, rfl, rfl, hI7, hK11, (by have hz : M5 a 1 = M5 a 1 := rfl; omega), (fun j => (hk10 _ _ (zle_t (h0.2.2.2.2.2.2.2.2.2.2.2.2.1 j) (by decide)))), hci60, (Or.inl ⟨by omega, rfl⟩), (Or.inl ⟨by omega, (zOu.kp (zOu.rf (r := 0) (n := 0)) h0 hk10 (by decide))⟩)⟩)
theorem c_X11_drop_v {w : zWp} {T : zTl} {M : zMm} {J : zJm} {R : zRm'} {G : zGt} {F : zRm'} {a : Nat} (hI : zI G M) (hF : zF F R) (h0 : zHideSets T F G a) (v1 : Int) (v2 : Int) (hst : R a 8 = none ∨ ∃ sy, R a 8 = some sy ∧ zStudy T F G sy) (hg30 : ∀ (c : Nat) (k : Int), a ≤ c → c < a + 836 → (G c k).1 < 30) (p1 : -2147483648 ≤ v1 ∧ v1 ≤ 2147483647) (p2 : -2147483648 ≤ v2 ∧ v2 ≤ 2147483647) (p3 : zCI M a) : zCt w 14 0 0 yX11_drop cX11_drop 3 (some .int) [.ref (w.2.1 + a), zi v1, zi v2] (T, M, J, R) (zPi T R G (fun x M2 => (zKp G 30 M M2) ∧ (M2 a 1 = M a 1) ∧ (∀ j : Int, M2 (a + 1) j = M (a + 1) j) ∧ (∀ j : Int, M2 (a + 28) j = M (a + 28) j) ∧ (zCI M2 a) ∧ (¬ ((0 ≤ v1 ∧ v1 ≤ 3 ∧ M (a + 2 + 9 + 4 * v1.toNat) 4 = 1) ∧ 0 ≤ v2 ∧ v2 < M (a + 2 + 9 + 4 * v1.toNat) 3) ∧ x = -1 ∧ zOu a 0 0 M M2 ∨ ((0 ≤ v1 ∧ v1 ≤ 3 ∧ M (a + 2 + 9 + 4 * v1.toNat) 4 = 1) ∧ 0 ≤ v2 ∧ v2 < M (a + 2 + 9 + 4 * v1.toNat) 3) ∧ x = M (a + 2 + 9 + 4 * v1.toNat) 3 - 1 ∧ zTko M M2 (a + 2 + 9 + 4 * v1.toNat) v2 ∧ zOu a (a + 2 + 9 + 4 * v1.toNat) 4 M M2))) := by
  refine zCt.of rfl (Nat.le_of_ble_eq_true rfl) ?_
  intro p e s m args below meth c C
  obtain ⟨Po, hPo⟩ : ∃ Po, Po = zPi T R G (fun x M2 => (zKp G 30 M M2) ∧ (M2 a 1 = M a 1) ∧ (∀ j : Int, M2 (a + 1) j = M (a + 1) j) ∧ (∀ j : Int, M2 (a + 28) j = M (a + 28) j) ∧ (zCI M2 a) ∧ (¬ ((0 ≤ v1 ∧ v1 ≤ 3 ∧ M (a + 2 + 9 + 4 * v1.toNat) 4 = 1) ∧ 0 ≤ v2 ∧ v2 < M (a + 2 + 9 + 4 * v1.toNat) 3) ∧ x = -1 ∧ zOu a 0 0 M M2 ∨ ((0 ≤ v1 ∧ v1 ≤ 3 ∧ M (a + 2 + 9 + 4 * v1.toNat) 4 = 1) ∧ 0 ≤ v2 ∧ v2 < M (a + 2 + 9 + 4 * v1.toNat) 3) ∧ x = M (a + 2 + 9 + 4 * v1.toNat) 3 - 1 ∧ zTko M M2 (a + 2 + 9 + 4 * v1.toNat) v2 ∧ zOu a (a + 2 + 9 + 4 * v1.toNat) 4 M M2)) := ⟨_, rfl⟩
  rw [← hPo]
  have hK0 : zKp G 30 M M := zKp.rf
  show zK w p e 14 0 0 s m args below meth c 3 T Po 0 [.ref (w.2.1 + a), zi v1, zi v2] [] (T, M, J, R)
  refine q_aload_n C dX11_drop_0 (n := 1) rfl rfl ?_
  refine q_getR C dX11_drop_1 (n := 4) rfl f_X11_20 h0.1 (hF _ _ _ h0.2.2.2.2.2.1) ?_
  refine q_iload_n C dX11_drop_4 (n := 5) rfl rfl ?_
  refine q_iload_n C dX11_drop_5 (n := 6) rfl rfl ?_
  refine q_callVp C dX11_drop_6 (n := 9) rfl m_X11_209 v_yX7_hasLine h0.2.2.2.2.2.2.1.1 ⟨by decide, rfl⟩ (c_X7_hasLine_e (w := w) (J := J) hI hF h0.2.2.2.2.2.2.1 v1 v2 (by omega) (by omega)) (Nat.le_of_ble_eq_true rfl) rfl rfl (Nat.le_of_ble_eq_true rfl) ⟨Nat.le_refl _, Nat.le_refl _⟩ (fun x3 h4 => ?_)
  obtain ⟨h1, h2⟩ := h4
  refine q_if_ne C 14 dX11_drop_9 (n := 12) rfl rfl (by omega) (fun h5 => ?_) (fun h5 => ?_)
  · refine q_aload_n C dX11_drop_14 (n := 15) rfl rfl ?_
    refine q_getR C dX11_drop_15 (n := 18) rfl f_X11_20 h0.1 (hF _ _ _ h0.2.2.2.2.2.1) ?_
    refine q_getR C dX11_drop_18 (n := 21) rfl f_X11_66 h0.2.2.2.2.2.2.1.1 (hF _ _ _ h0.2.2.2.2.2.2.1.2.1) ?_
    refine q_iload_n C dX11_drop_21 (n := 22) rfl rfl ?_
    refine q_aald C dX11_drop_22 (n := 23) rfl ⟨by decide, by decide⟩ h0.2.2.2.2.2.2.1.2.2.1 (by omega) (hF _ _ _ (h0.2.2.2.2.2.2.1.2.2.2.1 v1 (by omega) (by omega)).1) ?_
    refine q_iload_n C dX11_drop_23 (n := 24) rfl rfl ?_
    refine q_callVv C dX11_drop_24 (n := 27) rfl m_X11_259 v_yX4_takeOut (h0.2.2.2.2.2.2.1.2.2.2.1 v1 (by omega) (by omega)).2.1 ⟨by decide, rfl⟩ (c_X4_takeOut_v (w := w) (J := J) hI hF (h0.2.2.2.2.2.2.1.2.2.2.1 v1 (by omega) (by omega)).2 v2 (by omega) ((p3).1 v1 (by omega) (by omega))) (Nat.le_of_ble_eq_true rfl) rfl rfl (Nat.le_of_ble_eq_true rfl) ⟨Nat.le_refl _, Nat.le_refl _⟩ (fun M8 J9  hI10 h11 => ?_)
    obtain ⟨hk12, h6, h7⟩ := h11
    have hK13 := hK0.tr (zKp.ofr hk12 (fun c k h1 h2 => hg30 c k (by omega) (by omega))) (by decide)
    refine q_aload_n C dX11_drop_27 (n := 28) rfl rfl ?_
    refine q_callVv C dX11_drop_28 (n := 31) rfl m_X11_76 v_yX11_forgetStudy h0.1 ⟨by decide, rfl⟩ (c_X11_forgetStudy (w := w) (J := J9) hI10 hF h0 (by assumption)) (Nat.le_of_ble_eq_true rfl) rfl rfl (Nat.le_of_ble_eq_true rfl) ⟨Nat.le_refl _, Nat.le_refl _⟩ (fun M14 J15  hI16 h17 => ?_)
    have hK19 := hK13.tr h17 (by decide)
    refine q_aload_n C dX11_drop_31 (n := 32) rfl rfl ?_
    refine q_getR C dX11_drop_32 (n := 35) rfl f_X11_20 h0.1 (hF _ _ _ h0.2.2.2.2.2.1) ?_
    refine q_getR C dX11_drop_35 (n := 38) rfl f_X11_66 h0.2.2.2.2.2.2.1.1 (hF _ _ _ h0.2.2.2.2.2.2.1.2.1) ?_
    refine q_iload_n C dX11_drop_38 (n := 39) rfl rfl ?_
    refine q_aald C dX11_drop_39 (n := 40) rfl ⟨by decide, by decide⟩ h0.2.2.2.2.2.2.1.2.2.1 (by omega) (hF _ _ _ (h0.2.2.2.2.2.2.1.2.2.2.1 v1 (by omega) (by omega)).1) ?_
    have g20 := zI.at hI10 (h0.2.2.2.2.2.2.1.2.2.2.1 v1 (by omega) (by omega)).2.2.2.2.2.2.2.2.2.2.2.1
    refine q_getI C dX11_drop_40 (n := 43) rfl f_X11_79 (h0.2.2.2.2.2.2.1.2.2.2.1 v1 (by omega) (by omega)).2.1 (v := M8 (a + 2 + 9 + 4 * (v1 : Int).toNat) 3) (h17 _ _ (zle_t (h0.2.2.2.2.2.2.1.2.2.2.1 v1 (by omega) (by omega)).2.2.2.2.2.2.2.2.2.2.2.1 (by decide))) ?_
    have hci21 : zCI M14 a := (zCI.kp (zCI.pg (k := v1) p3 hk12 (by omega) h6) h0 h17 (by decide))
    have hx22 := zTko.cg zSmw.rf h7 (zSmw.ofo (q := v1) (zOu.kp (zOu.rf (r := 0) (n := 0)) h0 h17 (by decide)) (by omega) (by omega) (Or.inr (by omega)))
    have hx23 := hx22.2.1
    have hx24 : zSmw M8 M14 (a + 2 + 9 + 4 * v1.toNat) := (zSmw.ofo (q := v1) (zOu.kp (zOu.rf (r := 0) (n := 0)) h0 h17 (by decide)) (by omega) (by omega) (Or.inr (by omega)))
    have hx25 := hx24.2.1
    exact q_iret C dX11_drop_43 ⟨rfl, rfl⟩ (by rw [hPo]; exact ⟨M8 (a + 2 + 9 + 4 * (v1 : Int).toNat) 3, M14, J15, rfl, rfl, hI16, hK19, (by have hz : M14 a 1 = M a 1 := ((h17 _ _ (zle_t h0.2.2.2.2.1 (by decide))).trans (hk12 _ _ (by omega))); omega), (fun j => ((h17 _ _ (zle_t (h0.2.2.2.1 j) (by decide))).trans (hk12 _ _ (by omega)))), (fun j => ((h17 _ _ (zle_t (h0.2.2.2.2.2.2.2.2.2.2.2.2.1 j) (by decide))).trans (hk12 _ _ (by omega)))), hci21, (Or.inr ⟨⟨⟨by omega, by omega, by omega⟩, by omega, by omega⟩, by omega, hx22, (zOu.kp (zOu.rg (zOu.rf (r := a + 2 + 9 + 4 * v1.toNat) (n := 4)) hk12 (by omega)) h0 h17 (by decide))⟩)⟩)
  · refine q_iconst C dX11_drop_12 (n := 13) rfl ?_
    exact q_iret C dX11_drop_13 ⟨rfl, rfl⟩ (by rw [hPo]; exact ⟨(-1), M, J, rfl, rfl, hI, hK0, (by have hz : M a 1 = M a 1 := rfl; omega), (fun j => rfl), (fun j => rfl), p3, (Or.inl ⟨by omega, rfl, (zOu.rf (r := 0) (n := 0))⟩)⟩)
theorem c_X11_image_v {w : zWp} {T : zTl} {M : zMm} {J : zJm} {R : zRm'} {G : zGt} {F : zRm'} {a : Nat} (hI : zI G M) (hF : zF F R) (h0 : zHideSets T F G a) (v1 : Int) (hg30 : ∀ (c : Nat) (k : Int), a ≤ c → c < a + 836 → (G c k).1 < 30) (p1 : -2147483648 ≤ v1 ∧ v1 ≤ 2147483647) (p2 : zCI M a) : zCt w 3 0 0 yX11_image cX11_image 2 (some .boolean) [.ref (w.2.1 + a), zi v1] (T, M, J, R) (zPi T R G (fun x M2 => (zKp G 30 M M2) ∧ (x = 0 ∨ x = 1) ∧ (x = 0 ∧ (v1 < 0 ∨ 2 ≤ v1) ∨ x = 1 ∧ 0 ≤ v1 ∧ v1 < 2) ∧ (M2 a 1 = M a 1) ∧ (∀ j : Int, M2 (a + 1) j = M (a + 1) j) ∧ (∀ j : Int, M2 (a + 28) j = M (a + 28) j ∨ j = v1 ∧ x = 1 ∧ M2 (a + 28) j = 1) ∧ (x = 1 → M2 (a + 28) v1 = 1) ∧ (zCI M2 a) ∧ ((v1 < 0 ∨ 2 ≤ v1) ∧ zOu a 0 0 M M2 ∨ (0 ≤ v1 ∧ v1 < 2) ∧ zScw M M2 (a + 786 + 25 * v1.toNat) (a + 2) ∧ zOu a (a + 786 + 25 * v1.toNat) 25 M M2))) := by
  refine zCt.of rfl (Nat.le_of_ble_eq_true rfl) ?_
  intro p e s m args below meth c C
  obtain ⟨Po, hPo⟩ : ∃ Po, Po = zPi T R G (fun x M2 => (zKp G 30 M M2) ∧ (x = 0 ∨ x = 1) ∧ (x = 0 ∧ (v1 < 0 ∨ 2 ≤ v1) ∨ x = 1 ∧ 0 ≤ v1 ∧ v1 < 2) ∧ (M2 a 1 = M a 1) ∧ (∀ j : Int, M2 (a + 1) j = M (a + 1) j) ∧ (∀ j : Int, M2 (a + 28) j = M (a + 28) j ∨ j = v1 ∧ x = 1 ∧ M2 (a + 28) j = 1) ∧ (x = 1 → M2 (a + 28) v1 = 1) ∧ (zCI M2 a) ∧ ((v1 < 0 ∨ 2 ≤ v1) ∧ zOu a 0 0 M M2 ∨ (0 ≤ v1 ∧ v1 < 2) ∧ zScw M M2 (a + 786 + 25 * v1.toNat) (a + 2) ∧ zOu a (a + 786 + 25 * v1.toNat) 25 M M2)) := ⟨_, rfl⟩
  rw [← hPo]
  have hK0 : zKp G 30 M M := zKp.rf
  show zK w p e 3 0 0 s m args below meth c 2 T Po 0 [.ref (w.2.1 + a), zi v1] [] (T, M, J, R)
  refine q_iload_n C dX11_image_0 (n := 1) rfl rfl ?_
  refine q_if_lt C 13 dX11_image_1 (n := 4) rfl rfl (by omega) (fun h1 => ?_) (fun h1 => ?_)
  · refine q_iconst C dX11_image_13 (n := 14) rfl ?_
    exact q_zret C dX11_image_14 ⟨rfl, rfl⟩ (by omega) (by rw [hPo]; exact ⟨0, M, J, rfl, rfl, hI, hK0, by omega, by omega, (by have hz : M a 1 = M a 1 := rfl; omega), (fun j => rfl), (fun j => Or.inl rfl), (fun h => absurd h (by omega)), p2, (Or.inl ⟨by omega, (zOu.rf (r := 0) (n := 0))⟩)⟩)
  · refine q_iload_n C dX11_image_4 (n := 5) rfl rfl ?_
    refine q_aload_n C dX11_image_5 (n := 6) rfl rfl ?_
    refine q_getR C dX11_image_6 (n := 9) rfl f_X11_24 h0.1 (hF _ _ _ h0.2.2.2.2.2.2.2.1) ?_
    refine q_alen C dX11_image_9 (n := 10) rfl ⟨by decide, by decide⟩ h0.2.2.2.2.2.2.2.2.1 ?_
    show zK w p e 3 0 0 s m args below meth c 2 T Po 10 [.ref (w.2.1 + a), zi v1] [zi 2, zi v1] (T, M, J, R)
    refine q_icmp_lt C 15 dX11_image_10 (n := 13) rfl rfl (by omega) (fun h2 => ?_) (fun h2 => ?_)
    · refine q_aload_n C dX11_image_15 (n := 16) rfl rfl ?_
      refine q_getR C dX11_image_16 (n := 19) rfl f_X11_24 h0.1 (hF _ _ _ h0.2.2.2.2.2.2.2.1) ?_
      refine q_iload_n C dX11_image_19 (n := 20) rfl rfl ?_
      refine q_aald C dX11_image_20 (n := 21) rfl ⟨by decide, by decide⟩ h0.2.2.2.2.2.2.2.2.1 (by omega) (hF _ _ _ (h0.2.2.2.2.2.2.2.2.2.1 v1 (by omega) (by omega)).1) ?_
      refine q_aload_n C dX11_image_21 (n := 22) rfl rfl ?_
      refine q_getR C dX11_image_22 (n := 25) rfl f_X11_20 h0.1 (hF _ _ _ h0.2.2.2.2.2.1) ?_
      refine q_callVv C dX11_image_25 (n := 28) rfl m_X11_262 v_yX7_copy (h0.2.2.2.2.2.2.2.2.2.1 v1 (by omega) (by omega)).2.1 ⟨by decide, rfl⟩ (c_X7_copy_v (w := w) (J := J) hI hF (h0.2.2.2.2.2.2.2.2.2.1 v1 (by omega) (by omega)).2 h0.2.2.2.2.2.2.1 (p2).1 (by omega)) (Nat.le_of_ble_eq_true rfl) rfl rfl (Nat.le_of_ble_eq_true rfl) ⟨Nat.le_refl _, Nat.le_refl _⟩ (fun M6 J7  hI8 h9 => ?_)
      obtain ⟨hk10, h3, h4, h5⟩ := h9
      have hK11 := hK0.tr (zKp.ofr hk10 (fun c k h1 h2 => hg30 c k (by omega) (by omega))) (by decide)
      refine q_aload_n C dX11_image_28 (n := 29) rfl rfl ?_
      refine q_getR C dX11_image_29 (n := 32) rfl f_X11_28 h0.1 (hF _ _ _ h0.2.2.2.2.2.2.2.2.2.2.1) ?_
      refine q_iload_n C dX11_image_32 (n := 33) rfl rfl ?_
      refine q_iconst C dX11_image_33 (n := 34) rfl ?_
      refine q_zast C dX11_image_34 (n := 35) rfl h0.2.2.2.2.2.2.2.2.2.2.2.1 (by omega) (by omega) (fun M12 e13 => ?_)
      have hI14 : zI G M12 := hI8.put e13 (h0.2.2.2.2.2.2.2.2.2.2.2.2.1 v1) rfl (by omega)
      have hK15 := hK11.put e13 (h0.2.2.2.2.2.2.2.2.2.2.2.2.1 v1) (by decide)
      refine q_iconst C dX11_image_35 (n := 36) rfl ?_
      have hci16 : zCI M12 a := (zCI.up (zCI.img (k := v1) p2 hk10 (by omega) h3) e13 (by decide))
      exact q_zret C dX11_image_36 ⟨rfl, rfl⟩ (by omega) (by rw [hPo]; exact ⟨1, M12, J7, rfl, rfl, hI14, hK15, by omega, by omega, (by have hz : M12 a 1 = M a 1 := ((zup_p e13 (by omega) _).trans (hk10 _ _ (by omega))); omega), (fun j => ((zup_p e13 (by omega) _).trans (hk10 _ _ (by omega)))), (fun j => (Decidable.em (j = v1)).elim (fun hj => Or.inr ⟨hj, by omega, by rw [hj]; exact zup_s e13⟩) (fun hj => Or.inl ((zup_n e13 (fun z => hj z.2)).trans (hk10 _ _ (by omega))))), (fun _ => zup_s e13), hci16, (Or.inr ⟨by omega, zScw.ou (a := a) ⟨h5, h4⟩ (zOu.up (zOu.rf (r := 0) (n := 0)) e13 (by decide)) (by omega), (zOu.up (zOu.rg (zOu.rf (r := (a + 786 + 25 * v1.toNat)) (n := 25)) hk10 (by omega)) e13 (by decide))⟩)⟩)
    · refine q_iconst C dX11_image_13 (n := 14) rfl ?_
      exact q_zret C dX11_image_14 ⟨rfl, rfl⟩ (by omega) (by rw [hPo]; exact ⟨0, M, J, rfl, rfl, hI, hK0, by omega, by omega, (by have hz : M a 1 = M a 1 := rfl; omega), (fun j => rfl), (fun j => Or.inl rfl), (fun h => absurd h (by omega)), p2, (Or.inl ⟨by omega, (zOu.rf (r := 0) (n := 0))⟩)⟩)
theorem c_X11_restore_v {w : zWp} {T : zTl} {M : zMm} {J : zJm} {R : zRm'} {G : zGt} {F : zRm'} {a : Nat} (hI : zI G M) (hF : zF F R) (h0 : zHideSets T F G a) (v1 : Int) (hst : R a 8 = none ∨ ∃ sy, R a 8 = some sy ∧ zStudy T F G sy) (hg30 : ∀ (c : Nat) (k : Int), a ≤ c → c < a + 836 → (G c k).1 < 30) (p1 : -2147483648 ≤ v1 ∧ v1 ≤ 2147483647) (p2 : zCI M a) : zCt w 3 0 0 yX11_restore cX11_restore 2 (some .boolean) [.ref (w.2.1 + a), zi v1] (T, M, J, R) (zPi T R G (fun x M2 => (zKp G 30 M M2) ∧ (x = 0 ∨ x = 1) ∧ (x = 1 ∧ 0 ≤ v1 ∧ v1 < 2 ∧ M (a + 28) v1 = 1 ∨ x = 0 ∧ (v1 < 0 ∨ 2 ≤ v1 ∨ M (a + 28) v1 = 0)) ∧ (M2 a 1 = M a 1) ∧ (∀ j : Int, M2 (a + 1) j = M (a + 1) j) ∧ (∀ j : Int, M2 (a + 28) j = M (a + 28) j) ∧ (zCI M2 a) ∧ (x = 0 ∧ zOu a 0 0 M M2 ∨ (x = 1 ∧ 0 ≤ v1 ∧ v1 < 2) ∧ zScw M M2 (a + 2) (a + 786 + 25 * v1.toNat) ∧ zOu a (a + 2) 25 M M2))) := by
  refine zCt.of rfl (Nat.le_of_ble_eq_true rfl) ?_
  intro p e s m args below meth c C
  obtain ⟨Po, hPo⟩ : ∃ Po, Po = zPi T R G (fun x M2 => (zKp G 30 M M2) ∧ (x = 0 ∨ x = 1) ∧ (x = 1 ∧ 0 ≤ v1 ∧ v1 < 2 ∧ M (a + 28) v1 = 1 ∨ x = 0 ∧ (v1 < 0 ∨ 2 ≤ v1 ∨ M (a + 28) v1 = 0)) ∧ (M2 a 1 = M a 1) ∧ (∀ j : Int, M2 (a + 1) j = M (a + 1) j) ∧ (∀ j : Int, M2 (a + 28) j = M (a + 28) j) ∧ (zCI M2 a) ∧ (x = 0 ∧ zOu a 0 0 M M2 ∨ (x = 1 ∧ 0 ≤ v1 ∧ v1 < 2) ∧ zScw M M2 (a + 2) (a + 786 + 25 * v1.toNat) ∧ zOu a (a + 2) 25 M M2)) := ⟨_, rfl⟩
  rw [← hPo]
  have hK0 : zKp G 30 M M := zKp.rf
  show zK w p e 3 0 0 s m args below meth c 2 T Po 0 [.ref (w.2.1 + a), zi v1] [] (T, M, J, R)
  refine q_iload_n C dX11_restore_0 (n := 1) rfl rfl ?_
  have J_2 : (v1 < 0 ∨ 2 ≤ v1 ∨ M (a + 28) v1 = 0) → zK w p e 3 0 0 s m args below meth c 2 T Po 22 [.null, .null] [] (T, M, J, R) := by
    intro h1
    refine q_iconst C dX11_restore_22 (n := 23) rfl ?_
    exact q_zret C dX11_restore_23 ⟨rfl, rfl⟩ (by omega) (by rw [hPo]; exact ⟨0, M, J, rfl, rfl, hI, hK0, by omega, by omega, (by have hz : M a 1 = M a 1 := rfl; omega), (fun j => rfl), (fun j => rfl), p2, (Or.inl ⟨by omega, (zOu.rf (r := 0) (n := 0))⟩)⟩)
  refine q_if_lt C 22 dX11_restore_1 (n := 4) rfl rfl (by omega) (fun h3 => ?_) (fun h3 => ?_)
  · exact zK.weak (J_2 (by omega)) (zwk_n (zwk_n zwk_e))
  · refine q_iload_n C dX11_restore_4 (n := 5) rfl rfl ?_
    refine q_aload_n C dX11_restore_5 (n := 6) rfl rfl ?_
    refine q_getR C dX11_restore_6 (n := 9) rfl f_X11_24 h0.1 (hF _ _ _ h0.2.2.2.2.2.2.2.1) ?_
    refine q_alen C dX11_restore_9 (n := 10) rfl ⟨by decide, by decide⟩ h0.2.2.2.2.2.2.2.2.1 ?_
    show zK w p e 3 0 0 s m args below meth c 2 T Po 10 [.ref (w.2.1 + a), zi v1] [zi 2, zi v1] (T, M, J, R)
    refine q_icmp_ge C 22 dX11_restore_10 (n := 13) rfl rfl (by omega) (fun h4 => ?_) (fun h4 => ?_)
    · exact zK.weak (J_2 (by omega)) (zwk_n (zwk_n zwk_e))
    · refine q_aload_n C dX11_restore_13 (n := 14) rfl rfl ?_
      refine q_getR C dX11_restore_14 (n := 17) rfl f_X11_28 h0.1 (hF _ _ _ h0.2.2.2.2.2.2.2.2.2.2.1) ?_
      refine q_iload_n C dX11_restore_17 (n := 18) rfl rfl ?_
      have g5 := zI.at hI (h0.2.2.2.2.2.2.2.2.2.2.2.2.1 v1)
      refine q_zald C dX11_restore_18 (n := 19) rfl h0.2.2.2.2.2.2.2.2.2.2.2.1 (by omega) (v := M (a + 28) v1) rfl ?_
      refine q_if_ne C 24 dX11_restore_19 (n := 22) rfl rfl (by omega) (fun h6 => ?_) (fun h6 => ?_)
      · refine q_aload_n C dX11_restore_24 (n := 25) rfl rfl ?_
        refine q_getR C dX11_restore_25 (n := 28) rfl f_X11_20 h0.1 (hF _ _ _ h0.2.2.2.2.2.1) ?_
        refine q_aload_n C dX11_restore_28 (n := 29) rfl rfl ?_
        refine q_getR C dX11_restore_29 (n := 32) rfl f_X11_24 h0.1 (hF _ _ _ h0.2.2.2.2.2.2.2.1) ?_
        refine q_iload_n C dX11_restore_32 (n := 33) rfl rfl ?_
        refine q_aald C dX11_restore_33 (n := 34) rfl ⟨by decide, by decide⟩ h0.2.2.2.2.2.2.2.2.1 (by omega) (hF _ _ _ (h0.2.2.2.2.2.2.2.2.2.1 v1 (by omega) (by omega)).1) ?_
        refine q_callVv C dX11_restore_34 (n := 37) rfl m_X11_262 v_yX7_copy h0.2.2.2.2.2.2.1.1 ⟨by decide, rfl⟩ (c_X7_copy_v (w := w) (J := J) hI hF h0.2.2.2.2.2.2.1 (h0.2.2.2.2.2.2.2.2.2.1 v1 (by omega) (by omega)).2 ((p2).2 v1 (by omega) (by omega)) (by omega)) (Nat.le_of_ble_eq_true rfl) rfl rfl (Nat.le_of_ble_eq_true rfl) ⟨Nat.le_refl _, Nat.le_refl _⟩ (fun M10 J11  hI12 h13 => ?_)
        obtain ⟨hk14, h7, h8, h9⟩ := h13
        have hK15 := hK0.tr (zKp.ofr hk14 (fun c k h1 h2 => hg30 c k (by omega) (by omega))) (by decide)
        refine q_aload_n C dX11_restore_37 (n := 38) rfl rfl ?_
        refine q_callVv C dX11_restore_38 (n := 41) rfl m_X11_76 v_yX11_forgetStudy h0.1 ⟨by decide, rfl⟩ (c_X11_forgetStudy (w := w) (J := J11) hI12 hF h0 (by assumption)) (Nat.le_of_ble_eq_true rfl) rfl rfl (Nat.le_of_ble_eq_true rfl) ⟨Nat.le_refl _, Nat.le_refl _⟩ (fun M16 J17  hI18 h19 => ?_)
        have hK21 := hK15.tr h19 (by decide)
        refine q_iconst C dX11_restore_41 (n := 42) rfl ?_
        have hci22 : zCI M16 a := (zCI.kp (zCI.res p2 hk14 h7) h0 h19 (by decide))
        exact q_zret C dX11_restore_42 ⟨rfl, rfl⟩ (by omega) (by rw [hPo]; exact ⟨1, M16, J17, rfl, rfl, hI18, hK21, by omega, by omega, (by have hz : M16 a 1 = M a 1 := ((h19 _ _ (zle_t h0.2.2.2.2.1 (by decide))).trans (hk14 _ _ (by omega))); omega), (fun j => ((h19 _ _ (zle_t (h0.2.2.2.1 j) (by decide))).trans (hk14 _ _ (by omega)))), (fun j => ((h19 _ _ (zle_t (h0.2.2.2.2.2.2.2.2.2.2.2.2.1 j) (by decide))).trans (hk14 _ _ (by omega)))), hci22, (Or.inr ⟨by omega, zScw.ou (a := a) ⟨h9, h8⟩ (zOu.kp (zOu.rf (r := 0) (n := 0)) h0 h19 (by decide)) (by omega), (zOu.kp (zOu.rg (zOu.rf (r := (a + 2)) (n := 25)) hk14 (by omega)) h0 h19 (by decide))⟩)⟩)
      · exact zK.weak (J_2 (by omega)) (zwk_n (zwk_n zwk_e))
theorem c_X11_lines_v {w : zWp} {T : zTl} {M : zMm} {J : zJm} {R : zRm'} {G : zGt} {F : zRm'} {a : Nat} (hI : zI G M) (hF : zF F R) (h0 : zHideSets T F G a) (v1 : Int) (p1 : -2147483648 ≤ v1 ∧ v1 ≤ 2147483647) : zCt w 2 0 0 yX11_lines cX11_lines 2 (some .int) [.ref (w.2.1 + a), zi v1] (T, M, J, R) (zPp T M J R (fun x => ((0 ≤ v1 ∧ v1 ≤ 3 ∧ M (a + 2 + 9 + 4 * v1.toNat) 4 = 1) ∧ x = M (a + 2 + 9 + 4 * v1.toNat) 3 ∨ ¬ (0 ≤ v1 ∧ v1 ≤ 3 ∧ M (a + 2 + 9 + 4 * v1.toNat) 4 = 1) ∧ x = -1))) := by
  refine zCt.of rfl (Nat.le_of_ble_eq_true rfl) ?_
  intro p e s m args below meth c C
  obtain ⟨Po, hPo⟩ : ∃ Po, Po = zPp T M J R (fun x => ((0 ≤ v1 ∧ v1 ≤ 3 ∧ M (a + 2 + 9 + 4 * v1.toNat) 4 = 1) ∧ x = M (a + 2 + 9 + 4 * v1.toNat) 3 ∨ ¬ (0 ≤ v1 ∧ v1 ≤ 3 ∧ M (a + 2 + 9 + 4 * v1.toNat) 4 = 1) ∧ x = -1)) := ⟨_, rfl⟩
  rw [← hPo]
  show zK w p e 2 0 0 s m args below meth c 2 T Po 0 [.ref (w.2.1 + a), zi v1] [] (T, M, J, R)
  refine q_aload_n C dX11_lines_0 (n := 1) rfl rfl ?_
  refine q_getR C dX11_lines_1 (n := 4) rfl f_X11_20 h0.1 (hF _ _ _ h0.2.2.2.2.2.1) ?_
  refine q_iload_n C dX11_lines_4 (n := 5) rfl rfl ?_
  refine q_callVp C dX11_lines_5 (n := 8) rfl m_X11_99 v_yX7_hasFile h0.2.2.2.2.2.2.1.1 ⟨by decide, rfl⟩ (c_X7_hasFile_e (w := w) (J := J) hI hF h0.2.2.2.2.2.2.1 v1 (by omega)) (Nat.le_of_ble_eq_true rfl) rfl rfl (Nat.le_of_ble_eq_true rfl) ⟨Nat.le_refl _, Nat.le_refl _⟩ (fun x3 h4 => ?_)
  obtain ⟨h1, h2⟩ := h4
  have J_8 : ∀ (u5 : Int), (-2147483648 ≤ u5 ∧ u5 ≤ 2147483647) → ((0 ≤ v1 ∧ v1 ≤ 3 ∧ M (a + 2 + 9 + 4 * v1.toNat) 4 = 1) ∧ u5 = M (a + 2 + 9 + 4 * v1.toNat) 3 ∨ ¬ (0 ≤ v1 ∧ v1 ≤ 3 ∧ M (a + 2 + 9 + 4 * v1.toNat) 4 = 1) ∧ u5 = -1) → zK w p e 2 0 0 s m args below meth c 2 T Po 27 [.null, .null] [zi u5] (T, M, J, R) := by
    intro u5 h6 h7
    exact q_iret C dX11_lines_27 ⟨rfl, rfl⟩ (by rw [hPo]; exact ⟨u5, rfl, rfl, by omega⟩)
  refine q_if_eq C 26 dX11_lines_8 (n := 11) rfl rfl (by omega) (fun h9 => ?_) (fun h9 => ?_)
  · refine q_iconst C dX11_lines_26 (n := 27) rfl ?_
    exact zK.weak (J_8 (-1) (by omega) (by omega)) (zwk_n (zwk_n zwk_e))
  · refine q_aload_n C dX11_lines_11 (n := 12) rfl rfl ?_
    refine q_getR C dX11_lines_12 (n := 15) rfl f_X11_20 h0.1 (hF _ _ _ h0.2.2.2.2.2.1) ?_
    refine q_getR C dX11_lines_15 (n := 18) rfl f_X11_66 h0.2.2.2.2.2.2.1.1 (hF _ _ _ h0.2.2.2.2.2.2.1.2.1) ?_
    refine q_iload_n C dX11_lines_18 (n := 19) rfl rfl ?_
    refine q_aald C dX11_lines_19 (n := 20) rfl ⟨by decide, by decide⟩ h0.2.2.2.2.2.2.1.2.2.1 (by omega) (hF _ _ _ (h0.2.2.2.2.2.2.1.2.2.2.1 v1 (by omega) (by omega)).1) ?_
    have g10 := zI.at hI (h0.2.2.2.2.2.2.1.2.2.2.1 v1 (by omega) (by omega)).2.2.2.2.2.2.2.2.2.2.2.1
    refine q_getI C dX11_lines_20 (n := 23) rfl f_X11_79 (h0.2.2.2.2.2.2.1.2.2.2.1 v1 (by omega) (by omega)).2.1 (v := M (a + 2 + 9 + 4 * (v1 : Int).toNat) 3) rfl ?_
    refine q_goto C 27 dX11_lines_23 rfl ?_
    exact zK.weak (J_8 (M (a + 2 + 9 + 4 * (v1 : Int).toNat) 3) (by omega) (by omega)) (zwk_n (zwk_n zwk_e))
theorem c_X7_filesTold_v {w : zWp} {T : zTl} {M : zMm} {J : zJm} {R : zRm'} {G : zGt} {F : zRm'} {a : Nat} (hI : zI G M) (hF : zF F R) (h0 : zSource T F G a) : zCt w 1 0 0 yX7_filesTold cX7_filesTold 3 (some .int) [.ref (w.2.1 + a)] (T, M, J, R) (zPp T M J R (fun x => (0 ≤ x ∧ x ≤ 4) ∧ (x = zFt M a 4))) := by
  refine zCt.of rfl (Nat.le_of_ble_eq_true rfl) ?_
  intro p e s m args below meth c C
  obtain ⟨Po, hPo⟩ : ∃ Po, Po = zPp T M J R (fun x => (0 ≤ x ∧ x ≤ 4) ∧ (x = zFt M a 4)) := ⟨_, rfl⟩
  rw [← hPo]
  show zK w p e 1 0 0 s m args below meth c 3 T Po 0 [.ref (w.2.1 + a), .null, .null] [] (T, M, J, R)
  have gz0 := zFt_0 (M := M) (a := a)
  refine q_iconst C dX7_filesTold_0 (n := 1) rfl ?_
  refine q_istore_n C [.ref (w.2.1 + a), zi 0, .null] dX7_filesTold_1 (n := 2) rfl rfl rfl ?_
  refine q_iconst C dX7_filesTold_2 (n := 3) rfl ?_
  refine q_istore_n C [.ref (w.2.1 + a), zi 0, zi 0] dX7_filesTold_3 (n := 4) rfl rfl rfl ?_
  have L_8 : ∀ n9 : Nat, ∀ (u1 : Int) (u2 : Int), (-2147483648 ≤ u1 ∧ u1 ≤ 2147483647) → (-2147483648 ≤ u2 ∧ u2 ≤ 2147483647) → (0 ≤ u2 ∧ u2 ≤ 4) → (0 ≤ u1 ∧ u1 ≤ u2) → (u1 = zFt M a u2) → (4 - u2 + 1 ≤ (n9 : Int)) → zK w p e 1 0 0 s m args below meth c 3 T Po 4 [.ref (w.2.1 + a), zi u1, zi u2] [] (T, M, J, R) := by
    intro n9
    induction n9 with
    | zero =>
      intro u1 u2 h3 h4 h5 h6 h7 hm11
      exfalso
      omega
    | succ n9 ih10 =>
      intro u1 u2 h3 h4 h5 h6 h7 hm11
      refine q_iload_n C dX7_filesTold_4 (n := 5) rfl rfl ?_
      refine q_iconst C dX7_filesTold_5 (n := 6) rfl ?_
      refine q_icmp_ge C 35 dX7_filesTold_6 (n := 9) rfl rfl (by omega) (fun h12 => ?_) (fun h12 => ?_)
      · have gz4 : zFt M a u2 = zFt M a 4 := by rw [show (u2 : Int) = 4 by omega]
        refine q_iload_n C dX7_filesTold_35 (n := 36) rfl rfl ?_
        exact q_iret C dX7_filesTold_36 ⟨rfl, rfl⟩ (by rw [hPo]; exact ⟨u1, rfl, rfl, by omega, by omega⟩)
      · refine q_iload_n C dX7_filesTold_9 (n := 10) rfl rfl ?_
        refine q_aload_n C dX7_filesTold_10 (n := 11) rfl rfl ?_
        refine q_getR C dX7_filesTold_11 (n := 14) rfl f_X7_11 h0.1 (hF _ _ _ h0.2.1) ?_
        refine q_iload_n C dX7_filesTold_14 (n := 15) rfl rfl ?_
        refine q_aald C dX7_filesTold_15 (n := 16) rfl ⟨by decide, by decide⟩ h0.2.2.1 (by omega) (hF _ _ _ (h0.2.2.2.1 u2 (by omega) (by omega)).1) ?_
        have g13 := zI.at hI (h0.2.2.2.1 u2 (by omega) (by omega)).2.2.2.2.2.2.2.2.2.2.2.2.1
        refine q_getI C dX7_filesTold_16 (n := 19) rfl f_X7_40 (h0.2.2.2.1 u2 (by omega) (by omega)).2.1 (v := M (a + 9 + 4 * (u2 : Int).toNat) 4) rfl ?_
        have J_19 : ∀ (u14 : Int), (-2147483648 ≤ u14 ∧ u14 ≤ 2147483647) → (u14 = 0 ∨ u14 = 1) → (0 ≤ u14 ∧ u14 ≤ 1) → (u14 = M (a + 9 + 4 * (u2 : Int).toNat) 4) → zK w p e 1 0 0 s m args below meth c 3 T Po 27 [.ref (w.2.1 + a), .null, zi u2] [zi u14, zi u1] (T, M, J, R) := by
          intro u14 h15 h16 h17 h18
          refine q_iadd C dX7_filesTold_27 (n := 28) rfl (v := u1 + u14) rfl ?_
          have gz1 := zFt_s (M := M) (a := a) (i := u2) (by omega)
          refine q_istore_n C [.ref (w.2.1 + a), zi (u1 + u14), zi u2] dX7_filesTold_28 (n := 29) rfl rfl rfl ?_
          refine q_iinc C [.ref (w.2.1 + a), zi (u1 + u14), zi (u2 + 1)] dX7_filesTold_29 (n := 32) rfl rfl rfl rfl ?_
          refine q_goto C 4 dX7_filesTold_32 rfl ?_
          exact zK.weak (ih10 (u1 + u14) (u2 + 1) (by omega) (by omega) (by omega) (by omega) (by omega) (by omega)) (zwk_c (zwk_c (zwk_c zwk_e)))
        refine q_if_eq C 26 dX7_filesTold_19 (n := 22) rfl rfl (by omega) (fun h20 => ?_) (fun h20 => ?_)
        · refine q_iconst C dX7_filesTold_26 (n := 27) rfl ?_
          exact zK.weak (J_19 0 (by omega) (by omega) (by omega) (by omega)) (zwk_c (zwk_n (zwk_c zwk_e)))
        · refine q_iconst C dX7_filesTold_22 (n := 23) rfl ?_
          refine q_goto C 27 dX7_filesTold_23 rfl ?_
          exact zK.weak (J_19 1 (by omega) (by omega) (by omega) (by omega)) (zwk_c (zwk_n (zwk_c zwk_e)))
  exact zK.weak (L_8 _ 0 0 (by omega) (by omega) (by omega) (by omega) (by omega) (Int.self_le_toNat _)) (zwk_c (zwk_c (zwk_c zwk_e)))
theorem c_X11_count_v {w : zWp} {T : zTl} {M : zMm} {J : zJm} {R : zRm'} {G : zGt} {F : zRm'} {a : Nat} (hI : zI G M) (hF : zF F R) (h0 : zHideSets T F G a) (v1 : Int) (p1 : -2147483648 ≤ v1 ∧ v1 ≤ 2147483647) : zCt w 2 0 0 yX11_count cX11_count 2 (some .int) [.ref (w.2.1 + a), zi v1] (T, M, J, R) (zPp T M J R (fun x => (v1 = 0 ∧ x = zFt M (a + 2) 4 ∨ v1 = 1 ∧ x = M (a + 2) 3 ∨ v1 = 2 ∧ x = M (a + 2) 4 ∨ v1 = 3 ∧ x = M a 1 ∨ (v1 < 0 ∨ 3 < v1) ∧ x = -1))) := by
  refine zCt.of rfl (Nat.le_of_ble_eq_true rfl) ?_
  intro p e s m args below meth c C
  obtain ⟨Po, hPo⟩ : ∃ Po, Po = zPp T M J R (fun x => (v1 = 0 ∧ x = zFt M (a + 2) 4 ∨ v1 = 1 ∧ x = M (a + 2) 3 ∨ v1 = 2 ∧ x = M (a + 2) 4 ∨ v1 = 3 ∧ x = M a 1 ∨ (v1 < 0 ∨ 3 < v1) ∧ x = -1)) := ⟨_, rfl⟩
  rw [← hPo]
  show zK w p e 2 0 0 s m args below meth c 2 T Po 0 [.ref (w.2.1 + a), zi v1] [] (T, M, J, R)
  refine q_iload_n C dX11_count_0 (n := 1) rfl rfl ?_
  by_cases h1 : v1 = 0
  · refine q_tabIn C 32 dX11_count_1 h1 (by omega) rfl rfl ?_
    refine q_aload_n C dX11_count_32 (n := 33) rfl rfl ?_
    refine q_getR C dX11_count_33 (n := 36) rfl f_X11_20 h0.1 (hF _ _ _ h0.2.2.2.2.2.1) ?_
    refine q_callVp C dX11_count_36 (n := 39) rfl m_X11_266 v_yX7_filesTold h0.2.2.2.2.2.2.1.1 ⟨by decide, rfl⟩ (c_X7_filesTold_v (w := w) (J := J) hI hF h0.2.2.2.2.2.2.1) (Nat.le_of_ble_eq_true rfl) rfl rfl (Nat.le_of_ble_eq_true rfl) ⟨Nat.le_refl _, Nat.le_refl _⟩ (fun x4 h5 => ?_)
    obtain ⟨h2, h3⟩ := h5
    exact q_iret C dX11_count_39 ⟨rfl, rfl⟩ (by rw [hPo]; exact ⟨x4, rfl, rfl, by omega⟩)
  by_cases h6 : v1 = 1
  · refine q_tabIn C 40 dX11_count_1 h6 (by omega) rfl rfl ?_
    refine q_aload_n C dX11_count_40 (n := 41) rfl rfl ?_
    refine q_getR C dX11_count_41 (n := 44) rfl f_X11_20 h0.1 (hF _ _ _ h0.2.2.2.2.2.1) ?_
    have g7 := zI.at hI h0.2.2.2.2.2.2.1.2.2.2.2.2.2.2.2.2.2.1
    refine q_getI C dX11_count_44 (n := 47) rfl f_X11_226 h0.2.2.2.2.2.2.1.1 (v := M (a + 2) 3) rfl ?_
    exact q_iret C dX11_count_47 ⟨rfl, rfl⟩ (by rw [hPo]; exact ⟨M (a + 2) 3, rfl, rfl, by omega⟩)
  by_cases h8 : v1 = 2
  · refine q_tabIn C 48 dX11_count_1 h8 (by omega) rfl rfl ?_
    refine q_aload_n C dX11_count_48 (n := 49) rfl rfl ?_
    refine q_getR C dX11_count_49 (n := 52) rfl f_X11_20 h0.1 (hF _ _ _ h0.2.2.2.2.2.1) ?_
    have g9 := zI.at hI h0.2.2.2.2.2.2.1.2.2.2.2.2.2.2.2.2.2.2.1
    refine q_getI C dX11_count_52 (n := 55) rfl f_X11_96 h0.2.2.2.2.2.2.1.1 (v := M (a + 2) 4) rfl ?_
    exact q_iret C dX11_count_55 ⟨rfl, rfl⟩ (by rw [hPo]; exact ⟨M (a + 2) 4, rfl, rfl, by omega⟩)
  by_cases h10 : v1 = 3
  · refine q_tabIn C 56 dX11_count_1 h10 (by omega) rfl rfl ?_
    refine q_aload_n C dX11_count_56 (n := 57) rfl rfl ?_
    have g11 := zI.at hI h0.2.2.2.2.1
    refine q_getI C dX11_count_57 (n := 60) rfl f_X11_13 h0.1 (v := M a 1) rfl ?_
    exact q_iret C dX11_count_60 ⟨rfl, rfl⟩ (by rw [hPo]; exact ⟨M a 1, rfl, rfl, by omega⟩)
  refine q_tabOut C 61 dX11_count_1 (by omega) (by omega) rfl ?_
  refine q_iconst C dX11_count_61 (n := 62) rfl ?_
  exact q_iret C dX11_count_62 ⟨rfl, rfl⟩ (by rw [hPo]; exact ⟨(-1), rfl, rfl, by omega⟩)
theorem c_X11_set_v {w : zWp} {T : zTl} {M : zMm} {J : zJm} {R : zRm'} {G : zGt} {F : zRm'} {a : Nat} (hI : zI G M) (hF : zF F R) (h0 : zHideSets T F G a) (v1 : Int) (p1 : -2147483648 ≤ v1 ∧ v1 ≤ 2147483647) : zCt w 2 0 0 yX11_set cX11_set 2 (some .int) [.ref (w.2.1 + a), zi v1] (T, M, J, R) (zPi T R G (fun x M2 => (zKp G 20 M M2) ∧ (M2 a 1 = M a 1) ∧ (∀ j : Int, M2 (a + 1) j = M (a + 1) j) ∧ ((0 ≤ v1 ∧ v1 < zshl 1 (M (a + 2) 3)) ∧ x = 0 ∧ M2 (a + 2) 4 = v1 ∨ ¬ (0 ≤ v1 ∧ v1 < zshl 1 (M (a + 2) 3)) ∧ x = -1 ∧ M2 (a + 2) 4 = M (a + 2) 4) ∧ (M2 (a + 2) 3 = M (a + 2) 3) ∧ (zOu a (a + 2) 1 M M2))) := by
  refine zCt.of rfl (Nat.le_of_ble_eq_true rfl) ?_
  intro p e s m args below meth c C
  obtain ⟨Po, hPo⟩ : ∃ Po, Po = zPi T R G (fun x M2 => (zKp G 20 M M2) ∧ (M2 a 1 = M a 1) ∧ (∀ j : Int, M2 (a + 1) j = M (a + 1) j) ∧ ((0 ≤ v1 ∧ v1 < zshl 1 (M (a + 2) 3)) ∧ x = 0 ∧ M2 (a + 2) 4 = v1 ∨ ¬ (0 ≤ v1 ∧ v1 < zshl 1 (M (a + 2) 3)) ∧ x = -1 ∧ M2 (a + 2) 4 = M (a + 2) 4) ∧ (M2 (a + 2) 3 = M (a + 2) 3) ∧ (zOu a (a + 2) 1 M M2)) := ⟨_, rfl⟩
  rw [← hPo]
  have hK0 : zKp G 20 M M := zKp.rf
  show zK w p e 2 0 0 s m args below meth c 2 T Po 0 [.ref (w.2.1 + a), zi v1] [] (T, M, J, R)
  refine q_aload_n C dX11_set_0 (n := 1) rfl rfl ?_
  refine q_getR C dX11_set_1 (n := 4) rfl f_X11_20 h0.1 (hF _ _ _ h0.2.2.2.2.2.1) ?_
  refine q_iload_n C dX11_set_4 (n := 5) rfl rfl ?_
  refine q_callVp C dX11_set_5 (n := 8) rfl m_X11_92 v_yX7_hasSetting h0.2.2.2.2.2.2.1.1 ⟨by decide, rfl⟩ (c_X7_hasSetting_e (w := w) (J := J) hI hF h0.2.2.2.2.2.2.1 v1 (by omega)) (Nat.le_of_ble_eq_true rfl) rfl rfl (Nat.le_of_ble_eq_true rfl) ⟨Nat.le_refl _, Nat.le_refl _⟩ (fun x3 h4 => ?_)
  obtain ⟨h1, h2⟩ := h4
  have gz := zshl1 (zI.at hI h0.2.2.2.2.2.2.1.2.2.2.2.2.2.2.2.2.2.1)
  refine q_if_ne C 13 dX11_set_8 (n := 11) rfl rfl (by omega) (fun h5 => ?_) (fun h5 => ?_)
  · refine q_aload_n C dX11_set_13 (n := 14) rfl rfl ?_
    refine q_getR C dX11_set_14 (n := 17) rfl f_X11_20 h0.1 (hF _ _ _ h0.2.2.2.2.2.1) ?_
    refine q_iload_n C dX11_set_17 (n := 18) rfl rfl ?_
    refine q_putI C dX11_set_18 (n := 21) rfl f_X11_96 h0.2.2.2.2.2.2.1.1 ⟨rfl, rfl⟩ (fun M6 (e7 : M6 = zup M (a + 2) 4 v1) => ?_)
    have hI8 : zI G M6 := hI.put e7 h0.2.2.2.2.2.2.1.2.2.2.2.2.2.2.2.2.2.2.1 rfl (by omega)
    have hK9 := hK0.put e7 h0.2.2.2.2.2.2.1.2.2.2.2.2.2.2.2.2.2.2.1 (by decide)
    refine q_iconst C dX11_set_21 (n := 22) rfl ?_
    exact q_iret C dX11_set_22 ⟨rfl, rfl⟩ (by rw [hPo]; exact ⟨0, M6, J, rfl, rfl, hI8, hK9, (by have hz : M6 a 1 = M a 1 := (zup_p e7 (by omega) _); omega), (fun j => (zup_p e7 (by omega) _)), (by have hz10 : M6 (a + 2) 4 = v1 := (zup_s e7); omega), (by have hz11 : M6 (a + 2) 3 = M (a + 2) 3 := (zup_n e7 (by omega)); omega), (zOu.ur zOu.rf e7 (by omega))⟩)
  · refine q_iconst C dX11_set_11 (n := 12) rfl ?_
    exact q_iret C dX11_set_12 ⟨rfl, rfl⟩ (by rw [hPo]; exact ⟨(-1), M, J, rfl, rfl, hI, hK0, (by have hz : M a 1 = M a 1 := rfl; omega), (fun j => rfl), (by omega), (by omega), zOu.rf⟩)
theorem c_X7_findNames_v {w : zWp} {T : zTl} {M : zMm} {J : zJm} {R : zRm'} {G : zGt} {F : zRm'} {a b tb : Nat} (hI : zI G M) (hF : zF F R) (h0 : zSource T F G a) (t_b0 : T[b]? = some (51, 440)) (g_b0 : ∀ k, G b k = (tb, (-128), 127)) (v2 : Int) (p1 : 0 ≤ v2 ∧ v2 ≤ 440) : zCt w 11 0 0 yX7_findNames cX7_findNames 6 (some .int) [.ref (w.2.1 + a), .ref (w.2.1 + b), zi v2] (T, M, J, R) (zPi T R G (fun x M2 => (zKp G 20 M M2) ∧ (-1 ≤ x ∧ x ≤ 3) ∧ (x = -1 ∨ zNm M2 a x) ∧ (zKr a 9 M M2) ∧ (M2 a 3 = M a 3 ∧ M2 a 4 = M a 4))) := by
  refine zCt.of rfl (Nat.le_of_ble_eq_true rfl) ?_
  intro p e s m args below meth c C
  obtain ⟨Po, hPo⟩ : ∃ Po, Po = zPi T R G (fun x M2 => (zKp G 20 M M2) ∧ (-1 ≤ x ∧ x ≤ 3) ∧ (x = -1 ∨ zNm M2 a x) ∧ (zKr a 9 M M2) ∧ (M2 a 3 = M a 3 ∧ M2 a 4 = M a 4)) := ⟨_, rfl⟩
  rw [← hPo]
  have hK0 : zKp G 20 M M := zKp.rf
  have hK1 : zKr a 9 M M := zKr.rf
  show zK w p e 11 0 0 s m args below meth c 6 T Po 0 [.ref (w.2.1 + a), .ref (w.2.1 + b), zi v2, .null, .null, .null] [] (T, M, J, R)
  refine q_iconst C dX7_findNames_0 (n := 1) rfl ?_
  refine q_istore_n C [.ref (w.2.1 + a), .ref (w.2.1 + b), zi v2, zi 0, .null, .null] dX7_findNames_1 (n := 2) rfl rfl rfl ?_
  refine q_iconst C dX7_findNames_2 (n := 3) rfl ?_
  refine q_istore C [.ref (w.2.1 + a), .ref (w.2.1 + b), zi v2, zi 0, zi 0, .null] dX7_findNames_3 (n := 5) rfl rfl rfl ?_
  have L_15 : ∀ n16 : Nat, ∀ (u1 : Int) (u2 : Int) (M3 : zMm) (J4 : zJm), zI G M3 → zKp G 20 M M3 → zKr a 9 M M3 → (-2147483648 ≤ u1 ∧ u1 ≤ 2147483647) → (-2147483648 ≤ u2 ∧ u2 ≤ 2147483647) → (0 ≤ u1 ∧ u1 ≤ 3) → (0 ≤ u2 ∧ u2 ≤ 440) → (zNm M3 a u1) → (M3 a 3 = M a 3) → (M3 a 4 = M a 4) → (440 - u2 + 1 ≤ (n16 : Int)) → zK w p e 11 0 0 s m args below meth c 6 T Po 5 [.ref (w.2.1 + a), .ref (w.2.1 + b), zi v2, zi u1, zi u2, .null] [] (T, M3, J4, R) := by
    intro n16
    induction n16 with
    | zero =>
      intro u1 u2 M3 J4 hI5 hK6 hK7 h8 h9 h10 h11 h12 h13 h14 hm18
      exfalso
      omega
    | succ n16 ih17 =>
      intro u1 u2 M3 J4 hI5 hK6 hK7 h8 h9 h10 h11 h12 h13 h14 hm18
      refine q_iload C dX7_findNames_5 (n := 7) rfl rfl ?_
      refine q_iload_n C dX7_findNames_7 (n := 8) rfl rfl ?_
      refine q_icmp_ge C 120 dX7_findNames_8 (n := 11) rfl rfl (by omega) (fun h19 => ?_) (fun h19 => ?_)
      · refine q_iload_n C dX7_findNames_120 (n := 121) rfl rfl ?_
        exact q_iret C dX7_findNames_121 ⟨rfl, rfl⟩ (by rw [hPo]; exact ⟨u1, M3, J4, rfl, rfl, hI5, hK6, by omega, (Or.inr h12), hK7, (by have hz20 : M3 a 3 = M a 3 := (h13); have hz21 : M3 a 4 = M a 4 := (h14); omega)⟩)
      · refine q_iload C dX7_findNames_11 (n := 13) rfl rfl ?_
        refine q_aload_n C dX7_findNames_13 (n := 14) rfl rfl ?_
        refine q_alen C dX7_findNames_14 (n := 15) rfl ⟨by decide, by decide⟩ t_b0 ?_
        show zK w p e 11 0 0 s m args below meth c 6 T Po 15 [.ref (w.2.1 + a), .ref (w.2.1 + b), zi v2, zi u1, zi u2, .null] [zi 440, zi u2] (T, M3, J4, R)
        refine q_icmp_ge C 120 dX7_findNames_15 (n := 18) rfl rfl (by omega) (fun h22 => ?_) (fun h22 => ?_)
        · refine q_iload_n C dX7_findNames_120 (n := 121) rfl rfl ?_
          exact q_iret C dX7_findNames_121 ⟨rfl, rfl⟩ (by rw [hPo]; exact ⟨u1, M3, J4, rfl, rfl, hI5, hK6, by omega, (Or.inr h12), hK7, (by have hz23 : M3 a 3 = M a 3 := (h13); have hz24 : M3 a 4 = M a 4 := (h14); omega)⟩)
        · refine q_iload C dX7_findNames_18 (n := 20) rfl rfl ?_
          refine q_istore C [.ref (w.2.1 + a), .ref (w.2.1 + b), zi v2, zi u1, zi u2, zi u2] dX7_findNames_20 (n := 22) rfl rfl rfl ?_
          have L_30 : ∀ n31 : Nat, ∀ (u25 : Int), (-2147483648 ≤ u25 ∧ u25 ≤ 2147483647) → (u2 ≤ u25 ∧ u25 ≤ v2) → (M3 a 3 = M a 3) → (M3 a 4 = M a 4) → (441 - u25 ≤ (n31 : Int)) → zK w p e 11 0 0 s m args below meth c 6 T Po 22 [.ref (w.2.1 + a), .ref (w.2.1 + b), zi v2, zi u1, zi u25, zi u2] [] (T, M3, J4, R) := by
            intro n31
            induction n31 with
            | zero =>
              intro u25 h26 h27 h28 h29 hm33
              exfalso
              omega
            | succ n31 ih32 =>
              intro u25 h26 h27 h28 h29 hm33
              refine q_iload C dX7_findNames_22 (n := 24) rfl rfl ?_
              refine q_iload_n C dX7_findNames_24 (n := 25) rfl rfl ?_
              have J_34 : zK w p e 11 0 0 s m args below meth c 6 T Po 44 [.ref (w.2.1 + a), .ref (w.2.1 + b), zi v2, zi u1, zi u25, zi u2] [] (T, M3, J4, R) := by
                refine q_iload C dX7_findNames_44 (n := 46) rfl rfl ?_
                refine q_iload C dX7_findNames_46 (n := 48) rfl rfl ?_
                have J_35 : zK w p e 11 0 0 s m args below meth c 6 T Po 62 [.ref (w.2.1 + a), .ref (w.2.1 + b), zi v2, zi u1, zi u25, zi u2] [] (T, M3, J4, R) := by
                  refine q_iload C dX7_findNames_62 (n := 64) rfl rfl ?_
                  refine q_iload C dX7_findNames_64 (n := 66) rfl rfl ?_
                  have J_50 : ∀ (u36 : Int) (u37 : Int) (M38 : zMm) (J39 : zJm), zI G M38 → zKp G 20 M M38 → zKr a 9 M M38 → (-2147483648 ≤ u36 ∧ u36 ≤ 2147483647) → (-2147483648 ≤ u37 ∧ u37 ≤ 2147483647) → (0 ≤ u36 ∧ u36 ≤ 3) → (u2 < u37 ∧ u37 ≤ 440) → (zNm M38 a u36) → (M38 a 3 = M a 3) → (M38 a 4 = M a 4) → zK w p e 11 0 0 s m args below meth c 6 T Po 117 [.ref (w.2.1 + a), .ref (w.2.1 + b), zi v2, zi u36, zi u37, .null] [] (T, M38, J39, R) := by
                    intro u36 u37 M38 J39 hI40 hK41 hK42 h43 h44 h45 h46 h47 h48 h49
                    refine q_goto C 5 dX7_findNames_117 rfl ?_
                    exact zK.weak (ih17 u36 u37 M38 J39 hI40 hK41 hK42 (by omega) (by omega) (by omega) (by omega) h47 (by have hz51 : M38 a 3 = M a 3 := (h48); omega) (by have hz52 : M38 a 4 = M a 4 := (h49); omega) (by omega)) (zwk_c (zwk_c (zwk_c (zwk_c (zwk_c (zwk_n zwk_e))))))
                  refine q_icmp_ne C 75 dX7_findNames_66 (n := 69) rfl rfl (by omega) (fun h53 => ?_) (fun h53 => ?_)
                  · refine q_iload_n C dX7_findNames_75 (n := 76) rfl rfl ?_
                    refine q_iconst C dX7_findNames_76 (n := 77) rfl ?_
                    refine q_icmp_ge C 115 dX7_findNames_77 (n := 80) rfl rfl (by omega) (fun h54 => ?_) (fun h54 => ?_)
                    · refine q_iconst C dX7_findNames_115 (n := 116) rfl ?_
                      exact q_iret C dX7_findNames_116 ⟨rfl, rfl⟩ (by rw [hPo]; exact ⟨(-1), M3, J4, rfl, rfl, hI5, hK6, by omega, (Or.inl rfl), hK7, (by have hz55 : M3 a 3 = M a 3 := (h13); have hz56 : M3 a 4 = M a 4 := (h14); omega)⟩)
                    · refine q_aload_n C dX7_findNames_80 (n := 81) rfl rfl ?_
                      refine q_aload_n C dX7_findNames_81 (n := 82) rfl rfl ?_
                      refine q_iload C dX7_findNames_82 (n := 84) rfl rfl ?_
                      refine q_iload C dX7_findNames_84 (n := 86) rfl rfl ?_
                      refine q_iload_n C dX7_findNames_86 (n := 87) rfl rfl ?_
                      refine q_callVp C dX7_findNames_87 (n := 90) rfl m_X7_66 v_yX7_isNewName h0.1 ⟨by decide, rfl⟩ (c_X7_isNewName (w := w) (J := J4) hI5 hF h0 t_b0 g_b0 u2 u25 u1 (by omega) (by omega)) (Nat.le_of_ble_eq_true rfl) rfl rfl (Nat.le_of_ble_eq_true rfl) ⟨Nat.le_refl _, Nat.le_refl _⟩ (fun x59 h60 => ?_)
                      obtain ⟨h57, h58⟩ := h60
                      refine q_if_eq C 115 dX7_findNames_90 (n := 93) rfl rfl (by omega) (fun h61 => ?_) (fun h61 => ?_)
                      · refine q_iconst C dX7_findNames_115 (n := 116) rfl ?_
                        exact q_iret C dX7_findNames_116 ⟨rfl, rfl⟩ (by rw [hPo]; exact ⟨(-1), M3, J4, rfl, rfl, hI5, hK6, by omega, (Or.inl rfl), hK7, (by have hz62 : M3 a 3 = M a 3 := (h13); have hz63 : M3 a 4 = M a 4 := (h14); omega)⟩)
                      · refine q_aload_n C dX7_findNames_93 (n := 94) rfl rfl ?_
                        refine q_getR C dX7_findNames_94 (n := 97) rfl f_X7_33 h0.1 (hF _ _ _ h0.2.2.2.2.2.2.2.2.2.2.2.2.1) ?_
                        refine q_iload_n C dX7_findNames_97 (n := 98) rfl rfl ?_
                        refine q_iload C dX7_findNames_98 (n := 100) rfl rfl ?_
                        refine q_iast C dX7_findNames_100 (n := 101) rfl h0.2.2.2.2.2.2.2.2.2.2.2.2.2.1 (by omega)  (fun M64 e65 => ?_)
                        have hI66 : zI G M64 := hI5.put e65 (h0.2.2.2.2.2.2.2.2.2.2.2.2.2.2.1 u1) rfl (by omega)
                        have hK67 := hK6.put e65 (h0.2.2.2.2.2.2.2.2.2.2.2.2.2.2.1 u1) (by decide)
                        have hK68 := hK7.put e65 (by omega)
                        refine q_aload_n C dX7_findNames_101 (n := 102) rfl rfl ?_
                        refine q_getR C dX7_findNames_102 (n := 105) rfl f_X7_36 h0.1 (hF _ _ _ h0.2.2.2.2.2.2.2.2.2.2.2.2.2.2.2.1) ?_
                        refine q_iload_n C dX7_findNames_105 (n := 106) rfl rfl ?_
                        refine q_iload C dX7_findNames_106 (n := 108) rfl rfl ?_
                        refine q_iast C dX7_findNames_108 (n := 109) rfl h0.2.2.2.2.2.2.2.2.2.2.2.2.2.2.2.2.1 (by omega)  (fun M69 e70 => ?_)
                        have hI71 : zI G M69 := hI66.put e70 (h0.2.2.2.2.2.2.2.2.2.2.2.2.2.2.2.2.2 u1) rfl (by omega)
                        have hK72 := hK67.put e70 (h0.2.2.2.2.2.2.2.2.2.2.2.2.2.2.2.2.2 u1) (by decide)
                        have hK73 := hK68.put e70 (by omega)
                        refine q_iinc C [.ref (w.2.1 + a), .ref (w.2.1 + b), zi v2, zi (u1 + 1), zi u25, zi u2] dX7_findNames_109 (n := 112) rfl rfl rfl rfl ?_
                        refine q_goto C 117 dX7_findNames_112 rfl ?_
                        exact zK.weak (J_50 (u1 + 1) u25 M69 J4 hI71 hK72 hK73 (by omega) (by omega) (by omega) (by omega) (h12.put e65 e70 (by omega)) (by have hz74 : M69 a 3 = M a 3 := ((zup_p e70 (by omega) _).trans ((zup_p e65 (by omega) _).trans (h13))); omega) (by have hz75 : M69 a 4 = M a 4 := ((zup_p e70 (by omega) _).trans ((zup_p e65 (by omega) _).trans (h14))); omega)) (zwk_c (zwk_c (zwk_c (zwk_c (zwk_c (zwk_n zwk_e))))))
                  · refine q_iinc C [.ref (w.2.1 + a), .ref (w.2.1 + b), zi v2, zi u1, zi (u25 + 1), zi u2] dX7_findNames_69 (n := 72) rfl rfl rfl rfl ?_
                    refine q_goto C 117 dX7_findNames_72 rfl ?_
                    exact zK.weak (J_50 u1 (u25 + 1) M3 J4 hI5 hK6 hK7 (by omega) (by omega) (by omega) (by omega) h12 (by have hz76 : M3 a 3 = M a 3 := (h13); omega) (by have hz77 : M3 a 4 = M a 4 := (h14); omega)) (zwk_c (zwk_c (zwk_c (zwk_c (zwk_c (zwk_n zwk_e))))))
                refine q_icmp_ne C 62 dX7_findNames_48 (n := 51) rfl rfl (by omega) (fun h78 => ?_) (fun h78 => ?_)
                · exact zK.weak (J_35) (zwk_c (zwk_c (zwk_c (zwk_c (zwk_c (zwk_c zwk_e))))))
                · refine q_aload_n C dX7_findNames_51 (n := 52) rfl rfl ?_
                  refine q_iload C dX7_findNames_52 (n := 54) rfl rfl ?_
                  have g79 := zI.at hI5 (g_b0 u25)
                  refine q_bald C dX7_findNames_54 (n := 55) rfl t_b0 (by omega) (v := M3 b u25) rfl ?_
                  refine q_bipush C dX7_findNames_55 (n := 57) rfl (x := 32) (by decide) ?_
                  refine q_icmp_eq C 62 dX7_findNames_57 (n := 60) rfl rfl (by omega) (fun h80 => ?_) (fun h80 => ?_)
                  · exact zK.weak (J_35) (zwk_c (zwk_c (zwk_c (zwk_c (zwk_c (zwk_c zwk_e))))))
                  · refine q_iconst C dX7_findNames_60 (n := 61) rfl ?_
                    exact q_iret C dX7_findNames_61 ⟨rfl, rfl⟩ (by rw [hPo]; exact ⟨(-1), M3, J4, rfl, rfl, hI5, hK6, by omega, (Or.inl rfl), hK7, (by have hz81 : M3 a 3 = M a 3 := (h13); have hz82 : M3 a 4 = M a 4 := (h14); omega)⟩)
              refine q_icmp_ge C 44 dX7_findNames_25 (n := 28) rfl rfl (by omega) (fun h83 => ?_) (fun h83 => ?_)
              · exact zK.weak (J_34) (zwk_c (zwk_c (zwk_c (zwk_c (zwk_c (zwk_c zwk_e))))))
              · refine q_aload_n C dX7_findNames_28 (n := 29) rfl rfl ?_
                refine q_iload C dX7_findNames_29 (n := 31) rfl rfl ?_
                have g84 := zI.at hI5 (g_b0 u25)
                refine q_bald C dX7_findNames_31 (n := 32) rfl t_b0 (by omega) (v := M3 b u25) rfl ?_
                refine q_callSp C dX7_findNames_32 (n := 35) rfl m_X7_61 s_yX10_isWord (c_X10_isWord (w := w) (J := J4) hI5 hF (M3 b u25) (by omega)) (Nat.le_of_ble_eq_true rfl) rfl rfl (Nat.le_of_ble_eq_true rfl) ⟨Nat.le_refl _, Nat.le_refl _⟩ (fun x86 h87 => ?_)
                refine q_if_eq C 44 dX7_findNames_35 (n := 38) rfl rfl (by omega) (fun h88 => ?_) (fun h88 => ?_)
                · exact zK.weak (J_34) (zwk_c (zwk_c (zwk_c (zwk_c (zwk_c (zwk_c zwk_e))))))
                · refine q_iinc C [.ref (w.2.1 + a), .ref (w.2.1 + b), zi v2, zi u1, zi (u25 + 1), zi u2] dX7_findNames_38 (n := 41) rfl rfl rfl rfl ?_
                  refine q_goto C 22 dX7_findNames_41 rfl ?_
                  exact zK.weak (ih32 (u25 + 1) (by omega) (by omega) (by have hz89 : M3 a 3 = M a 3 := (h13); omega) (by have hz90 : M3 a 4 = M a 4 := (h14); omega) (by omega)) (zwk_c (zwk_c (zwk_c (zwk_c (zwk_c (zwk_c zwk_e))))))
          exact zK.weak (L_30 _ u2 (by omega) (by omega) (by have hz91 : M3 a 3 = M a 3 := (h13); omega) (by have hz92 : M3 a 4 = M a 4 := (h14); omega) (Int.self_le_toNat _)) (zwk_c (zwk_c (zwk_c (zwk_c (zwk_c (zwk_c zwk_e))))))
  exact zK.weak (L_15 _ 0 0 M J hI hK0 hK1 (by omega) (by omega) (by omega) (by omega) (fun j j0 j1 => by omega) (by omega) (by omega) (Int.self_le_toNat _)) (zwk_c (zwk_c (zwk_c (zwk_c (zwk_c (zwk_n zwk_e))))))
theorem c_X7_readSwitches_v {w : zWp} {T : zTl} {M : zMm} {J : zJm} {R : zRm'} {G : zGt} {F : zRm'} {a b tb : Nat} (hI : zI G M) (hF : zF F R) (h0 : zSource T F G a) (t_b0 : T[b]? = some (51, 440)) (g_b0 : ∀ k, G b k = (tb, (-128), 127)) (v2 : Int) (p1 : 0 ≤ v2 ∧ v2 ≤ 440) : zCt w 12 0 0 yX7_readSwitches cX7_readSwitches 5 (some .int) [.ref (w.2.1 + a), .ref (w.2.1 + b), zi v2] (T, M, J, R) (zPi T R G (fun x M2 => (zKp G 20 M M2) ∧ (-1 ≤ x ∧ x ≤ 3) ∧ (zKr a 9 M M2) ∧ (x = -1 ∧ M2 a 3 = M a 3 ∧ M2 a 4 = M a 4 ∨ 0 ≤ x ∧ M2 a 3 = x ∧ M2 a 4 = 0))) := by
  refine zCt.of rfl (Nat.le_of_ble_eq_true rfl) ?_
  intro p e s m args below meth c C
  obtain ⟨Po, hPo⟩ : ∃ Po, Po = zPi T R G (fun x M2 => (zKp G 20 M M2) ∧ (-1 ≤ x ∧ x ≤ 3) ∧ (zKr a 9 M M2) ∧ (x = -1 ∧ M2 a 3 = M a 3 ∧ M2 a 4 = M a 4 ∨ 0 ≤ x ∧ M2 a 3 = x ∧ M2 a 4 = 0)) := ⟨_, rfl⟩
  rw [← hPo]
  have hK0 : zKp G 20 M M := zKp.rf
  have hK1 : zKr a 9 M M := zKr.rf
  show zK w p e 12 0 0 s m args below meth c 5 T Po 0 [.ref (w.2.1 + a), .ref (w.2.1 + b), zi v2, .null, .null] [] (T, M, J, R)
  refine q_aload_n C dX7_readSwitches_0 (n := 1) rfl rfl ?_
  refine q_aload_n C dX7_readSwitches_1 (n := 2) rfl rfl ?_
  refine q_iload_n C dX7_readSwitches_2 (n := 3) rfl rfl ?_
  refine q_callVi C dX7_readSwitches_3 (n := 6) rfl m_X7_51 v_yX7_findNames h0.1 ⟨by decide, rfl⟩ (c_X7_findNames_v (w := w) (J := J) hI hF h0 t_b0 g_b0 v2 (by omega)) (Nat.le_of_ble_eq_true rfl) rfl rfl (Nat.le_of_ble_eq_true rfl) ⟨Nat.le_refl _, Nat.le_refl _⟩ (fun x9 M5 J6  hI7 h8 => ?_)
  obtain ⟨hk10, h1, h2, h3, h4⟩ := h8
  have hK11 := hK0.tr hk10 (by decide)
  have hK12 := hK1.tr h3
  refine q_istore_n C [.ref (w.2.1 + a), .ref (w.2.1 + b), zi v2, zi x9, .null] dX7_readSwitches_6 (n := 7) rfl rfl rfl ?_
  refine q_iload_n C dX7_readSwitches_7 (n := 8) rfl rfl ?_
  refine q_iconst C dX7_readSwitches_8 (n := 9) rfl ?_
  refine q_icmp_ne C 14 dX7_readSwitches_9 (n := 12) rfl rfl (by omega) (fun h13 => ?_) (fun h13 => ?_)
  · have nm := h2.resolve_left (by omega)
    refine q_iconst C dX7_readSwitches_14 (n := 15) rfl ?_
    refine q_istore C [.ref (w.2.1 + a), .ref (w.2.1 + b), zi v2, zi x9, zi 0] dX7_readSwitches_15 (n := 17) rfl rfl rfl ?_
    have L_23 : ∀ n24 : Nat, ∀ (u14 : Int) (M15 : zMm) (J16 : zJm), zI G M15 → zKp G 20 M M15 → zKr a 9 M M15 → (-2147483648 ≤ u14 ∧ u14 ≤ 2147483647) → (0 ≤ u14 ∧ u14 ≤ 3) → (zNm M15 a x9) → (3 - u14 + 1 ≤ (n24 : Int)) → zK w p e 12 0 0 s m args below meth c 5 T Po 17 [.ref (w.2.1 + a), .ref (w.2.1 + b), .null, zi x9, zi u14] [] (T, M15, J16, R) := by
      intro n24
      induction n24 with
      | zero =>
        intro u14 M15 J16 hI17 hK18 hK19 h20 h21 h22 hm26
        exfalso
        omega
      | succ n24 ih25 =>
        intro u14 M15 J16 hI17 hK18 hK19 h20 h21 h22 hm26
        refine q_iload C dX7_readSwitches_17 (n := 19) rfl rfl ?_
        refine q_iload_n C dX7_readSwitches_19 (n := 20) rfl rfl ?_
        refine q_icmp_ge C 77 dX7_readSwitches_20 (n := 23) rfl rfl (by omega) (fun h27 => ?_) (fun h27 => ?_)
        · refine q_aload_n C dX7_readSwitches_77 (n := 78) rfl rfl ?_
          refine q_iload_n C dX7_readSwitches_78 (n := 79) rfl rfl ?_
          refine q_putI C dX7_readSwitches_79 (n := 82) rfl f_X7_26 h0.1 ⟨rfl, rfl⟩ (fun M28 (e29 : M28 = zup M15 a 3 x9) => ?_)
          have hI30 : zI G M28 := hI17.put e29 h0.2.2.2.2.2.2.2.2.2.2.1 rfl (by omega)
          have hK31 := hK18.put e29 h0.2.2.2.2.2.2.2.2.2.2.1 (by decide)
          have hK32 := hK19.put e29 (by omega)
          refine q_aload_n C dX7_readSwitches_82 (n := 83) rfl rfl ?_
          refine q_iconst C dX7_readSwitches_83 (n := 84) rfl ?_
          refine q_putI C dX7_readSwitches_84 (n := 87) rfl f_X7_30 h0.1 ⟨rfl, rfl⟩ (fun M33 (e34 : M33 = zup M28 a 4 0) => ?_)
          have hI35 : zI G M33 := hI30.put e34 h0.2.2.2.2.2.2.2.2.2.2.2.1 rfl (by omega)
          have hK36 := hK31.put e34 h0.2.2.2.2.2.2.2.2.2.2.2.1 (by decide)
          have hK37 := hK32.put e34 (by omega)
          refine q_iload_n C dX7_readSwitches_87 (n := 88) rfl rfl ?_
          exact q_iret C dX7_readSwitches_88 ⟨rfl, rfl⟩ (by rw [hPo]; exact ⟨x9, M33, J16, rfl, rfl, hI35, hK36, by omega, hK37, (by have hz38 : M33 a 3 = x9 := ((zup_n e34 (by omega)).trans (zup_s e29)); have hz39 : M33 a 4 = 0 := (zup_s e34); omega)⟩)
        · have q1 := h22 (u14) (by omega) (by omega)
          refine q_aload_n C dX7_readSwitches_23 (n := 24) rfl rfl ?_
          refine q_getR C dX7_readSwitches_24 (n := 27) rfl f_X7_22 h0.1 (hF _ _ _ h0.2.2.2.2.2.2.2.1) ?_
          refine q_iload C dX7_readSwitches_27 (n := 29) rfl rfl ?_
          refine q_aload_n C dX7_readSwitches_29 (n := 30) rfl rfl ?_
          refine q_getR C dX7_readSwitches_30 (n := 33) rfl f_X7_36 h0.1 (hF _ _ _ h0.2.2.2.2.2.2.2.2.2.2.2.2.2.2.2.1) ?_
          refine q_iload C dX7_readSwitches_33 (n := 35) rfl rfl ?_
          have g40 := zI.at hI17 (h0.2.2.2.2.2.2.2.2.2.2.2.2.2.2.2.2.2 u14)
          refine q_iald C dX7_readSwitches_35 (n := 36) rfl h0.2.2.2.2.2.2.2.2.2.2.2.2.2.2.2.2.1 (by omega) (v := M15 (a + 8) u14) rfl ?_
          refine q_aload_n C dX7_readSwitches_36 (n := 37) rfl rfl ?_
          refine q_getR C dX7_readSwitches_37 (n := 40) rfl f_X7_33 h0.1 (hF _ _ _ h0.2.2.2.2.2.2.2.2.2.2.2.2.1) ?_
          refine q_iload C dX7_readSwitches_40 (n := 42) rfl rfl ?_
          have g41 := zI.at hI17 (h0.2.2.2.2.2.2.2.2.2.2.2.2.2.2.1 u14)
          refine q_iald C dX7_readSwitches_42 (n := 43) rfl h0.2.2.2.2.2.2.2.2.2.2.2.2.2.1 (by omega) (v := M15 (a + 7) u14) rfl ?_
          refine q_isub C dX7_readSwitches_43 (n := 44) rfl (v := (M15 (a + 8) u14) - (M15 (a + 7) u14)) rfl ?_
          refine q_iast C dX7_readSwitches_44 (n := 45) rfl h0.2.2.2.2.2.2.2.2.1 (by omega)  (fun M42 e43 => ?_)
          have hI44 : zI G M42 := hI17.put e43 (h0.2.2.2.2.2.2.2.2.2.1 u14) rfl (by omega)
          have hK45 := hK18.put e43 (h0.2.2.2.2.2.2.2.2.2.1 u14) (by decide)
          have hK46 := hK19.put e43 (by omega)
          refine q_aload_n C dX7_readSwitches_45 (n := 46) rfl rfl ?_
          refine q_aload_n C dX7_readSwitches_46 (n := 47) rfl rfl ?_
          refine q_getR C dX7_readSwitches_47 (n := 50) rfl f_X7_33 h0.1 (hF _ _ _ h0.2.2.2.2.2.2.2.2.2.2.2.2.1) ?_
          refine q_iload C dX7_readSwitches_50 (n := 52) rfl rfl ?_
          refine q_iald C dX7_readSwitches_52 (n := 53) rfl h0.2.2.2.2.2.2.2.2.2.2.2.2.2.1 (by omega) (v := M15 (a + 7) u14) (zup_p e43 (by omega) _) ?_
          refine q_aload_n C dX7_readSwitches_53 (n := 54) rfl rfl ?_
          refine q_getR C dX7_readSwitches_54 (n := 57) rfl f_X7_19 h0.1 (hF _ _ _ h0.2.2.2.2.1) ?_
          refine q_iload C dX7_readSwitches_57 (n := 59) rfl rfl ?_
          refine q_aald7 C dX7_readSwitches_59 (n := 60) rfl h0.2.2.2.2.2.1 (by omega) (hF _ _ _ (h0.2.2.2.2.2.2.1 u14 (by omega) (by omega)).1) ?_
          refine q_iconst C dX7_readSwitches_60 (n := 61) rfl ?_
          refine q_aload_n C dX7_readSwitches_61 (n := 62) rfl rfl ?_
          refine q_getR C dX7_readSwitches_62 (n := 65) rfl f_X7_22 h0.1 (hF _ _ _ h0.2.2.2.2.2.2.2.1) ?_
          refine q_iload C dX7_readSwitches_65 (n := 67) rfl rfl ?_
          refine q_iald C dX7_readSwitches_67 (n := 68) rfl h0.2.2.2.2.2.2.2.2.1 (by omega) (v := (M15 (a + 8) u14) - (M15 (a + 7) u14)) (zup_s e43) ?_
          refine q_copyB C dX7_readSwitches_68 (n := 71) rfl x_X7_55 t_b0 (h0.2.2.2.2.2.2.1 u14 (by omega) (by omega)).2.1 (by omega) (fun j => by have := zI.at hI44 (g_b0 j); omega) (Nat.le_of_ble_eq_true rfl) (Nat.le_of_ble_eq_true rfl) (fun M47 e48 => ?_)
          have hI49 : zI G M47 := hI44.cp e48 g_b0 (h0.2.2.2.2.2.2.1 u14 (by omega) (by omega)).2.2 rfl (by omega)
          have hK50 := hK45.cp e48 (h0.2.2.2.2.2.2.1 u14 (by omega) (by omega)).2.2 (by decide)
          have hK51 := hK46.cp e48 (by omega)
          refine q_iinc C [.ref (w.2.1 + a), .ref (w.2.1 + b), .null, zi x9, zi (u14 + 1)] dX7_readSwitches_71 (n := 74) rfl rfl rfl rfl ?_
          refine q_goto C 17 dX7_readSwitches_74 rfl ?_
          exact zK.weak (ih25 (u14 + 1) M47 J16 hI49 hK50 hK51 (by omega) (by omega) (h22.cg (fun j => ((zcp_p e48 (by omega) _).trans (zup_p e43 (by omega) _))) (fun j => ((zcp_p e48 (by omega) _).trans (zup_p e43 (by omega) _)))) (by omega)) (zwk_c (zwk_c (zwk_n (zwk_c (zwk_c zwk_e)))))
    exact zK.weak (L_23 _ 0 M5 J6 hI7 hK11 hK12 (by omega) (by omega) nm (Int.self_le_toNat _)) (zwk_c (zwk_c (zwk_n (zwk_c (zwk_c zwk_e)))))
  · refine q_iconst C dX7_readSwitches_12 (n := 13) rfl ?_
    exact q_iret C dX7_readSwitches_13 ⟨rfl, rfl⟩ (by rw [hPo]; exact ⟨(-1), M5, J6, rfl, rfl, hI7, hK11, by omega, hK12, (by omega)⟩)
theorem c_X11_switches_v {w : zWp} {T : zTl} {M : zMm} {J : zJm} {R : zRm'} {G : zGt} {F : zRm'} {a : Nat} (hI : zI G M) (hF : zF F R) (h0 : zHideSets T F G a) (hst : R a 8 = none ∨ ∃ sy, R a 8 = some sy ∧ zStudy T F G sy) : zCt w 13 0 0 yX11_switches cX11_switches 3 (some .int) [.ref (w.2.1 + a)] (T, M, J, R) (zPi T R G (fun x M2 => (zKp G 20 M M2) ∧ (M2 a 1 = 0) ∧ (x = -1 ∧ M2 (a + 2) 3 = M (a + 2) 3 ∧ M2 (a + 2) 4 = M (a + 2) 4 ∨ 0 ≤ x ∧ M2 (a + 2) 3 = x ∧ M2 (a + 2) 4 = 0) ∧ (zOu a (a + 2) 9 M M2))) := by
  refine zCt.of rfl (Nat.le_of_ble_eq_true rfl) ?_
  intro p e s m args below meth c C
  obtain ⟨Po, hPo⟩ : ∃ Po, Po = zPi T R G (fun x M2 => (zKp G 20 M M2) ∧ (M2 a 1 = 0) ∧ (x = -1 ∧ M2 (a + 2) 3 = M (a + 2) 3 ∧ M2 (a + 2) 4 = M (a + 2) 4 ∨ 0 ≤ x ∧ M2 (a + 2) 3 = x ∧ M2 (a + 2) 4 = 0) ∧ (zOu a (a + 2) 9 M M2)) := ⟨_, rfl⟩
  rw [← hPo]
  have hK0 : zKp G 20 M M := zKp.rf
  show zK w p e 13 0 0 s m args below meth c 3 T Po 0 [.ref (w.2.1 + a), .null, .null] [] (T, M, J, R)
  refine q_aload_n C dX11_switches_0 (n := 1) rfl rfl ?_
  refine q_callVi C dX11_switches_1 (n := 4) rfl m_X11_54 v_yX11_takeTape h0.1 ⟨by decide, rfl⟩ (c_X11_takeTape (w := w) (J := J) hI hF h0) (Nat.le_of_ble_eq_true rfl) rfl rfl (Nat.le_of_ble_eq_true rfl) ⟨Nat.le_refl _, Nat.le_refl _⟩ (fun x9 M5 J6  hI7 h8 => ?_)
  obtain ⟨hk10, h1, h2, h3, h4⟩ := h8
  have hK11 := hK0.tr hk10 (by decide)
  refine q_istore_n C [.ref (w.2.1 + a), zi x9, .null] dX11_switches_4 (n := 5) rfl rfl rfl ?_
  refine q_aload_n C dX11_switches_5 (n := 6) rfl rfl ?_
  refine q_getR C dX11_switches_6 (n := 9) rfl f_X11_20 h0.1 (hF _ _ _ h0.2.2.2.2.2.1) ?_
  refine q_aload_n C dX11_switches_9 (n := 10) rfl rfl ?_
  refine q_getR C dX11_switches_10 (n := 13) rfl f_X11_9 h0.1 (hF _ _ _ h0.2.1) ?_
  refine q_iload_n C dX11_switches_13 (n := 14) rfl rfl ?_
  refine q_callVi C dX11_switches_14 (n := 17) rfl m_X11_88 v_yX7_readSwitches h0.2.2.2.2.2.2.1.1 ⟨by decide, rfl⟩ (c_X7_readSwitches_v (w := w) (J := J6) hI7 hF h0.2.2.2.2.2.2.1 h0.2.2.1 h0.2.2.2.1 x9 (by omega)) (Nat.le_of_ble_eq_true rfl) rfl rfl (Nat.le_of_ble_eq_true rfl) ⟨Nat.le_refl _, Nat.le_refl _⟩ (fun x19 M15 J16  hI17 h18 => ?_)
  obtain ⟨hk20, h12, h13, h14⟩ := h18
  have hK21 := hK11.tr hk20 (by decide)
  have hz22 : M5 (a + 2) 3 = M (a + 2) 3 := (hk10 _ _ (zle_t h0.2.2.2.2.2.2.1.2.2.2.2.2.2.2.2.2.2.1 (by decide)))
  have hz23 : M5 (a + 2) 4 = M (a + 2) 4 := (hk10 _ _ (zle_t h0.2.2.2.2.2.2.1.2.2.2.2.2.2.2.2.2.2.2.1 (by decide)))
  refine q_istore_n C [.ref (w.2.1 + a), zi x9, zi x19] dX11_switches_17 (n := 18) rfl rfl rfl ?_
  refine q_iload_n C dX11_switches_18 (n := 19) rfl rfl ?_
  refine q_iconst C dX11_switches_19 (n := 20) rfl ?_
  have J_31 : ∀ (M24 : zMm) (J25 : zJm), zI G M24 → zKp G 20 M M24 → (M24 a 1 = 0) → (x19 = -1 ∧ M24 (a + 2) 3 = M (a + 2) 3 ∧ M24 (a + 2) 4 = M (a + 2) 4 ∨ 0 ≤ x19 ∧ M24 (a + 2) 3 = x19 ∧ M24 (a + 2) 4 = 0) → (zOu a (a + 2) 9 M M24) → zK w p e 13 0 0 s m args below meth c 3 T Po 27 [.null, .null, zi x19] [] (T, M24, J25, R) := by
    intro M24 J25 hI26 hK27 h28 h29 h30
    refine q_iload_n C dX11_switches_27 (n := 28) rfl rfl ?_
    exact q_iret C dX11_switches_28 ⟨rfl, rfl⟩ (by rw [hPo]; exact ⟨x19, M24, J25, rfl, rfl, hI26, hK27, (by have hz : M24 a 1 = M24 a 1 := rfl; omega), (by omega), h30⟩)
  refine q_icmp_eq C 27 dX11_switches_20 (n := 23) rfl rfl (by omega) (fun h32 => ?_) (fun h32 => ?_)
  · exact zK.weak (J_31 M15 J16 hI17 hK21 (by have hz : M15 a 1 = M5 a 1 := (h13 _ _ (by omega)); omega) (by omega) (zOu.rg (zOu.kp (zOu.rf (r := (a + 2)) (n := 9)) h0 hk10 (by decide)) h13 (by omega))) (zwk_n (zwk_n (zwk_c zwk_e)))
  · refine q_aload_n C dX11_switches_23 (n := 24) rfl rfl ?_
    refine q_callVv C dX11_switches_24 (n := 27) rfl m_X11_76 v_yX11_forgetStudy h0.1 ⟨by decide, rfl⟩ (c_X11_forgetStudy (w := w) (J := J16) hI17 hF h0 (by assumption)) (Nat.le_of_ble_eq_true rfl) rfl rfl (Nat.le_of_ble_eq_true rfl) ⟨Nat.le_refl _, Nat.le_refl _⟩ (fun M33 J34  hI35 h36 => ?_)
    have hK38 := hK21.tr h36 (by decide)
    exact zK.weak (J_31 M33 J34 hI35 hK38 (by have hz : M33 a 1 = M5 a 1 := ((h36 _ _ (zle_t h0.2.2.2.2.1 (by decide))).trans (h13 _ _ (by omega))); omega) (by have hz3 : M33 (a + 2) 3 = M15 (a + 2) 3 := (h36 _ _ (zle_t h0.2.2.2.2.2.2.1.2.2.2.2.2.2.2.2.2.2.1 (by decide))); have hz4 : M33 (a + 2) 4 = M15 (a + 2) 4 := (h36 _ _ (zle_t h0.2.2.2.2.2.2.1.2.2.2.2.2.2.2.2.2.2.2.1 (by decide))); omega) (zOu.kp (zOu.rg (zOu.kp (zOu.rf (r := (a + 2)) (n := 9)) h0 hk10 (by decide)) h13 (by omega)) h0 h36 (by decide))) (zwk_n (zwk_n (zwk_c zwk_e)))
