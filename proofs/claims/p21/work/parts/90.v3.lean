/-- a fact that omega leaves alone -/
def zOp (p : Prop) : Prop := p
theorem zOp.mk {p : Prop} (h : p) : zOp p := h
theorem zOp.out {p : Prop} (h : zOp p) : p := h
theorem zEA.sm {v2 s u44 u43 n z z2 c : Int} (hu : 0 ≤ u44 ∧ u44 ≤ s) (hge : s ≤ u44) (hl : v2 ≤ s) (h : u44 ≤ v2 ∧ u43 = n + 1 + z + u44 ∨ v2 < u44 ∧ u43 = n + z + u44 - c) (gq : z = z2) : v2 = s ∧ u43 = z2 + s + n + 1 ∨ v2 < s ∧ u43 = z2 + s + n + 1 - (c + 1) := by
  omega
theorem zEA.okL {l s t c n u x : Int} (h : l = s ∧ u = t + n + 1 ∨ l < s ∧ u = t + n + 1 - c) (hx : l = s ∧ x = l + 1 ∨ l < s ∧ x = s) (h1 : u ≤ 400) (h2 : x ≤ 40) : l = s ∧ (x = -3 ∧ (400 < t + n + 1 ∨ 40 ≤ s) ∨ x = s + 1 ∧ t + n + 1 ≤ 400 ∧ s < 40) ∨ l < s ∧ (x = -3 ∧ 400 < t + n + 1 - c ∨ x = s ∧ t + n + 1 - c ≤ 400) := by
  rcases h with h | h <;> rcases hx with q | q
  · exact Or.inl ⟨h.1, Or.inr ⟨by omega, by omega, by omega⟩⟩
  · exfalso; omega
  · exfalso; omega
  · exact Or.inr ⟨h.1, Or.inr ⟨by omega, by omega⟩⟩
theorem zEA.noL {l s t c n u y : Int} (h : l = s ∧ u = t + n + 1 ∨ l < s ∧ u = t + n + 1 - c) (hx : l = s ∧ y = l + 1 ∨ l < s ∧ y = s) (hs : s ≤ 40) (h1 : 400 < u ∨ 40 < y) : l = s ∧ ((-3 : Int) = -3 ∧ (400 < t + n + 1 ∨ 40 ≤ s) ∨ (-3 : Int) = s + 1 ∧ t + n + 1 ≤ 400 ∧ s < 40) ∨ l < s ∧ ((-3 : Int) = -3 ∧ 400 < t + n + 1 - c ∨ (-3 : Int) = s ∧ t + n + 1 - c ≤ 400) := by
  rcases h with h | h <;> rcases hx with q | q
  · exact Or.inl ⟨h.1, Or.inl ⟨rfl, by omega⟩⟩
  · exfalso; omega
  · exfalso; omega
  · exact Or.inr ⟨h.1, Or.inl ⟨rfl, by omega⟩⟩
/-- a file told anew: its row of numbers; m lines have their lengths c -/
def zNg (M M0 : zMm) (a : Nat) (k n : Int) (c : Int → Int) (m : Int) : Prop := M (a + 2) k = 1 ∧ M (a + 2) (4 + k) = n ∧ (∀ l, 0 ≤ l → l < m → M (a + 2) (8 + 40 * k + l) = c l) ∧ ∀ j, j ≠ k → j ≠ 4 + k → ¬ (8 + 40 * k ≤ j ∧ j < 48 + 40 * k) → M (a + 2) j = M0 (a + 2) j
theorem zNg.cg {M M0 M2 : zMm} {a : Nat} {k n m : Int} {c : Int → Int} (h : zNg M M0 a k n c m) (e : ∀ j, M2 (a + 2) j = M (a + 2) j) : zNg M2 M0 a k n c m := by
  obtain ⟨h1, h2, h3, h4⟩ := h
  exact ⟨(e _).trans h1, (e _).trans h2, fun l l0 l1 => (e _).trans (h3 l l0 l1), fun j j0 j1 j2 => (e j).trans (h4 j j0 j1 j2)⟩
theorem zNg.c {M M0 : zMm} {a : Nat} {k n n2 m m2 : Int} {c c2 : Int → Int} (h : zNg M M0 a k n c m) (hn : n = n2) (hm : m = m2) (hc : ∀ l, c l = c2 l) : zNg M M0 a k n2 c2 m2 := by
  obtain rfl : c = c2 := funext hc
  subst hn hm
  exact h
theorem zNg.init {M0 Mx M1 M2 : zMm} {a : Nat} {k n i : Int} {c : Int → Int} (e0 : ∀ j, Mx (a + 2) j = M0 (a + 2) j) (e1 : M1 = zup Mx (a + 2) i 1) (e2 : M2 = zup M1 (a + 2) (4 + k) n) (hi : i = k) : zNg M2 M0 a k n c 0 := by
  subst hi
  exact ⟨(zup_n e2 (by omega)).trans (zup_s e1), zup_s e2, fun l l0 l1 => by omega, fun j j0 j1 j2 => (zup_n e2 (by omega)).trans ((zup_n e1 (by omega)).trans (e0 j))⟩
theorem zNg.clr {M M0 M2 : zMm} {a : Nat} {k n l : Int} (h : zNg M M0 a k n (fun _ => 0) l) (e : M2 = zup M (a + 2) (8 + 40 * k + l) 0) (hk : 0 ≤ k ∧ k ≤ 3) (hl : 0 ≤ l ∧ l ≤ 39) : zNg M2 M0 a k n (fun _ => 0) (l + 1) := by
  obtain ⟨h1, h2, h3, h4⟩ := h
  refine ⟨(zup_n e (by omega)).trans h1, (zup_n e (by omega)).trans h2, fun j j0 j1 => ?_, fun j j0 j1 j2 => (zup_n e (by omega)).trans (h4 j j0 j1 j2)⟩
  by_cases z : j = l
  · rw [z]
    exact zup_s e
  · exact (zup_n e (by omega)).trans (h3 j j0 (by omega))
theorem zNg.inc {M M0 M2 : zMm} {a : Nat} {k n l i x : Int} {g : Int → Int} (h : zNg M M0 a k n (fun l => zCn g l i.toNat) 40) (e : M2 = zup M (a + 2) (8 + 40 * k + l) x) (hx : x = M (a + 2) (8 + 40 * k + l) + 1) (hg : g i ≠ 10) (hl : l = zTen g i.toNat) (hi : 0 ≤ i) (hk : 0 ≤ k ∧ k ≤ 3) (hl2 : 0 ≤ l ∧ l ≤ 39) : zNg M2 M0 a k n (fun l => zCn g l (i + 1).toNat) 40 := by
  obtain ⟨h1, h2, h3, h4⟩ := h
  refine ⟨(zup_n e (by omega)).trans h1, (zup_n e (by omega)).trans h2, fun j j0 j1 => ?_, fun j j0 j1 j2 => (zup_n e (by omega)).trans (h4 j j0 j1 j2)⟩
  show M2 (a + 2) (8 + 40 * k + j) = zCn g j (i + 1).toNat
  rw [zCn_s hi]
  have h5 := h3 j j0 j1
  have h6 := h3 l hl2.1 (by omega)
  by_cases z : j = l
  · rw [z, if_pos ⟨hg, hl.symm⟩, zup_s e, hx, h6]
  · rw [if_neg (fun q => z (by omega)), zup_n e (by omega), h5, Int.add_zero]
theorem zNg.ten {M M0 : zMm} {a : Nat} {k n i : Int} {g : Int → Int} (h : zNg M M0 a k n (fun l => zCn g l i.toNat) 40) (hg : g i = 10) (hi : 0 ≤ i) : zNg M M0 a k n (fun l => zCn g l (i + 1).toNat) 40 := h.c rfl rfl (fun l => by rw [zCn_s hi, if_neg (fun q => q.1 hg), Int.add_zero])
/-- a row but for one cell, two cells -/
def zR1 (M M2 : zMm) (r : Nat) (i x : Int) : Prop := M2 r i = x ∧ ∀ j, j ≠ i → M2 r j = M r j
def zR2 (M M2 : zMm) (r : Nat) (i x i2 x2 : Int) : Prop := (M2 r i = x ∧ M2 r i2 = x2) ∧ ∀ j, j ≠ i → j ≠ i2 → M2 r j = M r j
theorem zR2.of {M Mx M1 M2 M3 : zMm} {r : Nat} {i x i2 x2 y : Int} (e0 : ∀ j, Mx r j = M r j) (e1 : M1 = zup Mx r i x) (e2 : M2 = zup M1 r i2 x2) (e3 : ∀ j, M3 r j = M2 r j) (hi : i ≠ i2) (hx : x = y) : zR2 M M3 r i y i2 x2 := by
  subst hx
  exact ⟨⟨(e3 _).trans ((zup_n e2 (by omega)).trans (zup_s e1)), (e3 _).trans (zup_s e2)⟩, fun j j0 j1 => (e3 j).trans ((zup_n e2 (by omega)).trans ((zup_n e1 (by omega)).trans (e0 j)))⟩
/-- a line is dropped: l of n -/
def zDp (M M2 : zMm) (a : Nat) (k l n : Int) : Prop := M2 (a + 2) (4 + k) = n - 1 ∧ ∀ j, j ≠ 4 + k → M2 (a + 2) j = if 8 + 40 * k + l ≤ j ∧ j < 8 + 40 * k + (n - 1) then M (a + 2) (j + 1) else M (a + 2) j
theorem zDp.of {M Mx M1 M2 : zMm} {a : Nat} {k l n m x : Int} (h : zDr Mx M a k l m) (e : M1 = zup Mx (a + 2) (4 + k) x) (e3 : ∀ j, M2 (a + 2) j = M1 (a + 2) j) (hm : m = n - 1) (hx : x = n - 1) : zDp M M2 a k l n := by
  subst hm hx
  exact ⟨(e3 _).trans (zup_s e), fun j j0 => (e3 j).trans ((zup_n e (by omega)).trans (h j))⟩

theorem c_X12_isFile_e {w : zWp} {T : zTl} {M : zMm} {J : zJm} {R : zRm'} {G : zGt} {F : zRm'} {a : Nat} (hI : zI G M) (hF : zF F R) (h0 : zModel T F G a) (v1 : Int) (p1 : -2147483648 ≤ v1 ∧ v1 ≤ 2147483647) : zCt w 2 0 0 yX12_isFile cX12_isFile 2 (some .boolean) [.ref (w.2.1 + a), zi v1] (T, M, J, R) (zPp T M J R (fun x => (x = 0 ∨ x = 1) ∧ (x = 0 ∨ 0 ≤ v1 ∧ v1 ≤ 3) ∧ (x = 1 ↔ (0 ≤ v1 ∧ v1 ≤ 3 ∧ M (a + 2) v1 = 1)))) := by
  refine zCt.of rfl (Nat.le_of_ble_eq_true rfl) ?_
  intro p e s m args below meth c C
  obtain ⟨Po, hPo⟩ : ∃ Po, Po = zPp T M J R (fun x => (x = 0 ∨ x = 1) ∧ (x = 0 ∨ 0 ≤ v1 ∧ v1 ≤ 3) ∧ (x = 1 ↔ (0 ≤ v1 ∧ v1 ≤ 3 ∧ M (a + 2) v1 = 1))) := ⟨_, rfl⟩
  rw [← hPo]
  show zK w p e 2 0 0 s m args below meth c 2 T Po 0 [.ref (w.2.1 + a), zi v1] [] (T, M, J, R)
  refine q_iload_n C dX12_isFile_0 (n := 1) rfl rfl ?_
  refine q_iconst C dX12_isFile_1 (n := 2) rfl ?_
  refine q_iconst C dX12_isFile_2 (n := 3) rfl ?_
  refine q_callSp C dX12_isFile_3 (n := 6) rfl m_X12_277 s_yX12_isIn (c_X12_isIn (w := w) (J := J) hI hF v1 0 3 (by omega) (by omega) (by omega)) (Nat.le_of_ble_eq_true rfl) rfl rfl (Nat.le_of_ble_eq_true rfl) ⟨Nat.le_refl _, Nat.le_refl _⟩ (fun x4 h5 => ?_)
  obtain ⟨h1, h2, h3⟩ := h5
  refine q_if_eq C 25 dX12_isFile_6 (n := 9) rfl rfl (by omega) (fun h6 => ?_) (fun h6 => ?_)
  · refine q_iconst C dX12_isFile_25 (n := 26) rfl ?_
    exact q_zret C dX12_isFile_26 ⟨rfl, rfl⟩ (by omega) (by rw [hPo]; exact ⟨0, rfl, rfl, by omega, by omega, by omega⟩)
  · have hz0 : M (a + 2) (0 + v1) = M (a + 2) v1 := by rw [Int.zero_add]
    refine q_aload_n C dX12_isFile_9 (n := 10) rfl rfl ?_
    refine q_getR C dX12_isFile_10 (n := 13) rfl f_X12_17 (zM0 h0) (hF _ _ _ (zM7 h0)) ?_
    refine q_iconst C dX12_isFile_13 (n := 14) rfl ?_
    refine q_iload_n C dX12_isFile_14 (n := 15) rfl rfl ?_
    refine q_iadd C dX12_isFile_15 (n := 16) rfl (v := 0 + v1) rfl ?_
    have g7 := zI.at hI (((zM9 h0) (0 + v1)).trans (zfG_0 (by omega)))
    refine q_iald C dX12_isFile_16 (n := 17) rfl (zM8 h0) (by omega) (v := M (a + 2) (0 + v1)) rfl ?_
    refine q_iconst C dX12_isFile_17 (n := 18) rfl ?_
    refine q_icmp_ne C 25 dX12_isFile_18 (n := 21) rfl rfl (by omega) (fun h8 => ?_) (fun h8 => ?_)
    · refine q_iconst C dX12_isFile_25 (n := 26) rfl ?_
      exact q_zret C dX12_isFile_26 ⟨rfl, rfl⟩ (by omega) (by rw [hPo]; exact ⟨0, rfl, rfl, by omega, by omega, by omega⟩)
    · refine q_iconst C dX12_isFile_21 (n := 22) rfl ?_
      refine q_goto C 26 dX12_isFile_22 rfl ?_
      exact q_zret C dX12_isFile_26 ⟨rfl, rfl⟩ (by omega) (by rw [hPo]; exact ⟨1, rfl, rfl, by omega, by omega, by omega⟩)
theorem c_X12_isLine_e {w : zWp} {T : zTl} {M : zMm} {J : zJm} {R : zRm'} {G : zGt} {F : zRm'} {a : Nat} (hI : zI G M) (hF : zF F R) (h0 : zModel T F G a) (v1 : Int) (v2 : Int) (p1 : -2147483648 ≤ v1 ∧ v1 ≤ 2147483647) (p2 : -2147483648 ≤ v2 ∧ v2 ≤ 2147483647) : zCt w 3 0 0 yX12_isLine cX12_isLine 3 (some .boolean) [.ref (w.2.1 + a), zi v1, zi v2] (T, M, J, R) (zPp T M J R (fun x => (x = 0 ∨ x = 1) ∧ (x = 0 ∨ 0 ≤ v1 ∧ v1 ≤ 3 ∧ 0 ≤ v2 ∧ v2 ≤ 39 ∧ v2 < M (a + 2) (4 + v1)) ∧ (x = 1 ↔ ((0 ≤ v1 ∧ v1 ≤ 3 ∧ M (a + 2) v1 = 1) ∧ 0 ≤ v2 ∧ v2 < M (a + 2) (4 + v1))))) := by
  refine zCt.of rfl (Nat.le_of_ble_eq_true rfl) ?_
  intro p e s m args below meth c C
  obtain ⟨Po, hPo⟩ : ∃ Po, Po = zPp T M J R (fun x => (x = 0 ∨ x = 1) ∧ (x = 0 ∨ 0 ≤ v1 ∧ v1 ≤ 3 ∧ 0 ≤ v2 ∧ v2 ≤ 39 ∧ v2 < M (a + 2) (4 + v1)) ∧ (x = 1 ↔ ((0 ≤ v1 ∧ v1 ≤ 3 ∧ M (a + 2) v1 = 1) ∧ 0 ≤ v2 ∧ v2 < M (a + 2) (4 + v1)))) := ⟨_, rfl⟩
  rw [← hPo]
  show zK w p e 3 0 0 s m args below meth c 3 T Po 0 [.ref (w.2.1 + a), zi v1, zi v2] [] (T, M, J, R)
  refine q_aload_n C dX12_isLine_0 (n := 1) rfl rfl ?_
  refine q_iload_n C dX12_isLine_1 (n := 2) rfl rfl ?_
  refine q_callVp C dX12_isLine_2 (n := 5) rfl m_X12_281 v_yX12_isFile (zM0 h0) ⟨by decide, rfl⟩ (c_X12_isFile_e (w := w) (J := J) hI hF h0 v1 (by omega)) (Nat.le_of_ble_eq_true rfl) rfl rfl (Nat.le_of_ble_eq_true rfl) ⟨Nat.le_refl _, Nat.le_refl _⟩ (fun x4 h5 => ?_)
  obtain ⟨h1, h2, h3⟩ := h5
  refine q_if_eq C 27 dX12_isLine_5 (n := 8) rfl rfl (by omega) (fun h6 => ?_) (fun h6 => ?_)
  · refine q_iconst C dX12_isLine_27 (n := 28) rfl ?_
    exact q_zret C dX12_isLine_28 ⟨rfl, rfl⟩ (by omega) (by rw [hPo]; exact ⟨0, rfl, rfl, by omega, by omega, by omega⟩)
  · refine q_iload_n C dX12_isLine_8 (n := 9) rfl rfl ?_
    refine q_iconst C dX12_isLine_9 (n := 10) rfl ?_
    refine q_aload_n C dX12_isLine_10 (n := 11) rfl rfl ?_
    refine q_iload_n C dX12_isLine_11 (n := 12) rfl rfl ?_
    refine q_callVp C dX12_isLine_12 (n := 15) rfl m_X12_285 v_yX12_linesOf (zM0 h0) ⟨by decide, rfl⟩ (c_X12_linesOf (w := w) (J := J) hI hF h0 v1 (by omega)) (Nat.le_of_ble_eq_true rfl) rfl rfl (Nat.le_of_ble_eq_true rfl) ⟨Nat.le_refl _, Nat.le_refl _⟩ (fun x9 h10 => ?_)
    obtain ⟨h7, h8⟩ := h10
    refine q_iconst C dX12_isLine_15 (n := 16) rfl ?_
    refine q_isub C dX12_isLine_16 (n := 17) rfl (v := x9 - 1) rfl ?_
    refine q_callSp C dX12_isLine_17 (n := 20) rfl m_X12_277 s_yX12_isIn (c_X12_isIn (w := w) (J := J) hI hF v2 0 (x9 - 1) (by omega) (by omega) (by omega)) (Nat.le_of_ble_eq_true rfl) rfl rfl (Nat.le_of_ble_eq_true rfl) ⟨Nat.le_refl _, Nat.le_refl _⟩ (fun x14 h15 => ?_)
    obtain ⟨h11, h12, h13⟩ := h15
    refine q_if_eq C 27 dX12_isLine_20 (n := 23) rfl rfl (by omega) (fun h16 => ?_) (fun h16 => ?_)
    · refine q_iconst C dX12_isLine_27 (n := 28) rfl ?_
      exact q_zret C dX12_isLine_28 ⟨rfl, rfl⟩ (by omega) (by rw [hPo]; exact ⟨0, rfl, rfl, by omega, by omega, by omega⟩)
    · refine q_iconst C dX12_isLine_23 (n := 24) rfl ?_
      refine q_goto C 28 dX12_isLine_24 rfl ?_
      exact q_zret C dX12_isLine_28 ⟨rfl, rfl⟩ (by omega) (by rw [hPo]; exact ⟨1, rfl, rfl, by omega, by omega, by omega⟩)
theorem c_X12_lines_v {w : zWp} {T : zTl} {M : zMm} {J : zJm} {R : zRm'} {G : zGt} {F : zRm'} {a : Nat} (hI : zI G M) (hF : zF F R) (h0 : zModel T F G a) (v1 : Int) (p1 : -2147483648 ≤ v1 ∧ v1 ≤ 2147483647) : zCt w 3 0 0 yX12_lines cX12_lines 2 (some .int) [.ref (w.2.1 + a), zi v1] (T, M, J, R) (zPi T R G (fun x M2 => (zMd a [] [0] [] M M2) ∧ ((0 ≤ v1 ∧ v1 ≤ 3 ∧ M (a + 2) v1 = 1) ∧ x = M (a + 2) (4 + v1) ∨ ¬ (0 ≤ v1 ∧ v1 ≤ 3 ∧ M (a + 2) v1 = 1) ∧ x = -1))) := by
  refine zCt.of rfl (Nat.le_of_ble_eq_true rfl) ?_
  intro p e s m args below meth c C
  obtain ⟨Po, hPo⟩ : ∃ Po, Po = zPi T R G (fun x M2 => (zMd a [] [0] [] M M2) ∧ ((0 ≤ v1 ∧ v1 ≤ 3 ∧ M (a + 2) v1 = 1) ∧ x = M (a + 2) (4 + v1) ∨ ¬ (0 ≤ v1 ∧ v1 ≤ 3 ∧ M (a + 2) v1 = 1) ∧ x = -1)) := ⟨_, rfl⟩
  rw [← hPo]
  have hK0 : zMd a [] [0] [] M M := zMd.rf
  show zK w p e 3 0 0 s m args below meth c 2 T Po 0 [.ref (w.2.1 + a), zi v1] [] (T, M, J, R)
  refine q_aload_n C dX12_lines_0 (n := 1) rfl rfl ?_
  refine q_iconst C dX12_lines_1 (n := 2) rfl ?_
  refine q_putI C dX12_lines_2 (n := 5) rfl f_X12_1 (zM0 h0) ⟨rfl, rfl⟩ (fun M1 (e2 : M1 = zup M a 0 0) => ?_)
  have hI3 : zI G M1 := hI.put e2 (zM1 h0) rfl (by omega)
  have hK4 := hK0.upS e2 rfl
  refine q_aload_n C dX12_lines_5 (n := 6) rfl rfl ?_
  refine q_iload_n C dX12_lines_6 (n := 7) rfl rfl ?_
  refine q_callVp C dX12_lines_7 (n := 10) rfl m_X12_281 v_yX12_isFile (zM0 h0) ⟨by decide, rfl⟩ (c_X12_isFile_e (w := w) (J := J) hI3 hF h0 v1 (by omega)) (Nat.le_of_ble_eq_true rfl) rfl rfl (Nat.le_of_ble_eq_true rfl) ⟨Nat.le_refl _, Nat.le_refl _⟩ (fun x8 h9 => ?_)
  obtain ⟨h5, h6, h7⟩ := h9
  have hz10 : M1 (a + 2) v1 = M (a + 2) v1 := (zup_p e2 (by omega) _)
  have J_14 : ∀ (u11 : Int), (-2147483648 ≤ u11 ∧ u11 ≤ 2147483647) → ((0 ≤ v1 ∧ v1 ≤ 3 ∧ M (a + 2) v1 = 1) ∧ u11 = M (a + 2) (4 + v1) ∨ ¬ (0 ≤ v1 ∧ v1 ≤ 3 ∧ M (a + 2) v1 = 1) ∧ u11 = -1) → zK w p e 3 0 0 s m args below meth c 2 T Po 22 [.null, .null] [zi u11] (T, M1, J, R) := by
    intro u11 h12 h13
    exact q_iret C dX12_lines_22 ⟨rfl, rfl⟩ (by rw [hPo]; exact ⟨u11, M1, J, rfl, rfl, hI3, hK4, by omega⟩)
  refine q_if_eq C 21 dX12_lines_10 (n := 13) rfl rfl (by omega) (fun h15 => ?_) (fun h15 => ?_)
  · refine q_iconst C dX12_lines_21 (n := 22) rfl ?_
    exact zK.weak (J_14 (-1) (by omega) (by omega)) (zwk_n (zwk_n zwk_e))
  · refine q_aload_n C dX12_lines_13 (n := 14) rfl rfl ?_
    refine q_iload_n C dX12_lines_14 (n := 15) rfl rfl ?_
    refine q_callVp C dX12_lines_15 (n := 18) rfl m_X12_285 v_yX12_linesOf (zM0 h0) ⟨by decide, rfl⟩ (c_X12_linesOf (w := w) (J := J) hI3 hF h0 v1 (by omega)) (Nat.le_of_ble_eq_true rfl) rfl rfl (Nat.le_of_ble_eq_true rfl) ⟨Nat.le_refl _, Nat.le_refl _⟩ (fun x18 h19 => ?_)
    obtain ⟨h16, h17⟩ := h19
    have hz20 : M1 (a + 2) (4 + v1) = M (a + 2) (4 + v1) := (zup_p e2 (by omega) _)
    refine q_goto C 22 dX12_lines_18 rfl ?_
    exact zK.weak (J_14 x18 (by omega) (by omega)) (zwk_n (zwk_n zwk_e))
theorem c_X12_count_v {w : zWp} {T : zTl} {M : zMm} {J : zJm} {R : zRm'} {G : zGt} {F : zRm'} {a : Nat} (hI : zI G M) (hF : zF F R) (h0 : zModel T F G a) (v1 : Int) (p1 : -2147483648 ≤ v1 ∧ v1 ≤ 2147483647) : zCt w 1 0 0 yX12_count cX12_count 2 (some .int) [.ref (w.2.1 + a), zi v1] (T, M, J, R) (zPi T R G (fun x M2 => (zMd a [] [0] [] M M2) ∧ (v1 = 0 ∧ x = M (a + 2) 0 + M (a + 2) 1 + M (a + 2) 2 + M (a + 2) 3 ∨ v1 = 1 ∧ x = M (a + 2) 168 ∨ v1 = 2 ∧ x = M (a + 2) 172 ∨ v1 = 3 ∧ x = M a 2 ∨ (v1 < 0 ∨ 3 < v1) ∧ x = -1))) := by
  refine zCt.of rfl (Nat.le_of_ble_eq_true rfl) ?_
  intro p e s m args below meth c C
  obtain ⟨Po, hPo⟩ : ∃ Po, Po = zPi T R G (fun x M2 => (zMd a [] [0] [] M M2) ∧ (v1 = 0 ∧ x = M (a + 2) 0 + M (a + 2) 1 + M (a + 2) 2 + M (a + 2) 3 ∨ v1 = 1 ∧ x = M (a + 2) 168 ∨ v1 = 2 ∧ x = M (a + 2) 172 ∨ v1 = 3 ∧ x = M a 2 ∨ (v1 < 0 ∨ 3 < v1) ∧ x = -1)) := ⟨_, rfl⟩
  rw [← hPo]
  have hK0 : zMd a [] [0] [] M M := zMd.rf
  show zK w p e 1 0 0 s m args below meth c 2 T Po 0 [.ref (w.2.1 + a), zi v1] [] (T, M, J, R)
  refine q_aload_n C dX12_count_0 (n := 1) rfl rfl ?_
  refine q_iconst C dX12_count_1 (n := 2) rfl ?_
  refine q_putI C dX12_count_2 (n := 5) rfl f_X12_1 (zM0 h0) ⟨rfl, rfl⟩ (fun M1 (e2 : M1 = zup M a 0 0) => ?_)
  have hI3 : zI G M1 := hI.put e2 (zM1 h0) rfl (by omega)
  have hK4 := hK0.upS e2 rfl
  refine q_iload_n C dX12_count_5 (n := 6) rfl rfl ?_
  by_cases h5 : v1 = 0
  · refine q_tabIn C 36 dX12_count_6 h5 (by omega) rfl rfl ?_
    refine q_aload_n C dX12_count_36 (n := 37) rfl rfl ?_
    refine q_getR C dX12_count_37 (n := 40) rfl f_X12_17 (zM0 h0) (hF _ _ _ (zM7 h0)) ?_
    refine q_iconst C dX12_count_40 (n := 41) rfl ?_
    have g6 := zI.at hI (((zM9 h0) 0).trans (zfG_0 (by omega)))
    refine q_iald C dX12_count_41 (n := 42) rfl (zM8 h0) (by omega) (v := M (a + 2) 0) (zup_p e2 (by omega) _) ?_
    refine q_aload_n C dX12_count_42 (n := 43) rfl rfl ?_
    refine q_getR C dX12_count_43 (n := 46) rfl f_X12_17 (zM0 h0) (hF _ _ _ (zM7 h0)) ?_
    refine q_iconst C dX12_count_46 (n := 47) rfl ?_
    have g7 := zI.at hI (((zM9 h0) 1).trans (zfG_0 (by omega)))
    refine q_iald C dX12_count_47 (n := 48) rfl (zM8 h0) (by omega) (v := M (a + 2) 1) (zup_p e2 (by omega) _) ?_
    refine q_iadd C dX12_count_48 (n := 49) rfl (v := (M (a + 2) 0) + (M (a + 2) 1)) rfl ?_
    refine q_aload_n C dX12_count_49 (n := 50) rfl rfl ?_
    refine q_getR C dX12_count_50 (n := 53) rfl f_X12_17 (zM0 h0) (hF _ _ _ (zM7 h0)) ?_
    refine q_iconst C dX12_count_53 (n := 54) rfl ?_
    have g8 := zI.at hI (((zM9 h0) 2).trans (zfG_0 (by omega)))
    refine q_iald C dX12_count_54 (n := 55) rfl (zM8 h0) (by omega) (v := M (a + 2) 2) (zup_p e2 (by omega) _) ?_
    refine q_iadd C dX12_count_55 (n := 56) rfl (v := ((M (a + 2) 0) + (M (a + 2) 1)) + (M (a + 2) 2)) rfl ?_
    refine q_aload_n C dX12_count_56 (n := 57) rfl rfl ?_
    refine q_getR C dX12_count_57 (n := 60) rfl f_X12_17 (zM0 h0) (hF _ _ _ (zM7 h0)) ?_
    refine q_iconst C dX12_count_60 (n := 61) rfl ?_
    have g9 := zI.at hI (((zM9 h0) 3).trans (zfG_0 (by omega)))
    refine q_iald C dX12_count_61 (n := 62) rfl (zM8 h0) (by omega) (v := M (a + 2) 3) (zup_p e2 (by omega) _) ?_
    refine q_iadd C dX12_count_62 (n := 63) rfl (v := (((M (a + 2) 0) + (M (a + 2) 1)) + (M (a + 2) 2)) + (M (a + 2) 3)) rfl ?_
    exact q_iret C dX12_count_63 ⟨rfl, rfl⟩ (by rw [hPo]; exact ⟨(((M (a + 2) 0) + (M (a + 2) 1)) + (M (a + 2) 2)) + (M (a + 2) 3), M1, J, rfl, rfl, hI3, hK4, by omega⟩)
  by_cases h10 : v1 = 1
  · refine q_tabIn C 64 dX12_count_6 h10 (by omega) rfl rfl ?_
    refine q_aload_n C dX12_count_64 (n := 65) rfl rfl ?_
    refine q_getR C dX12_count_65 (n := 68) rfl f_X12_17 (zM0 h0) (hF _ _ _ (zM7 h0)) ?_
    refine q_sipush C dX12_count_68 (n := 71) rfl (x := 168) (by decide) ?_
    have g11 := zI.at hI (((zM9 h0) 168).trans (zfG_168 (by omega)))
    refine q_iald C dX12_count_71 (n := 72) rfl (zM8 h0) (by omega) (v := M (a + 2) 168) (zup_p e2 (by omega) _) ?_
    exact q_iret C dX12_count_72 ⟨rfl, rfl⟩ (by rw [hPo]; exact ⟨M (a + 2) 168, M1, J, rfl, rfl, hI3, hK4, by omega⟩)
  by_cases h12 : v1 = 2
  · refine q_tabIn C 73 dX12_count_6 h12 (by omega) rfl rfl ?_
    refine q_aload_n C dX12_count_73 (n := 74) rfl rfl ?_
    refine q_getR C dX12_count_74 (n := 77) rfl f_X12_17 (zM0 h0) (hF _ _ _ (zM7 h0)) ?_
    refine q_sipush C dX12_count_77 (n := 80) rfl (x := 172) (by decide) ?_
    have g13 := zI.at hI (((zM9 h0) 172).trans (zfG_172 (by omega)))
    refine q_iald C dX12_count_80 (n := 81) rfl (zM8 h0) (by omega) (v := M (a + 2) 172) (zup_p e2 (by omega) _) ?_
    exact q_iret C dX12_count_81 ⟨rfl, rfl⟩ (by rw [hPo]; exact ⟨M (a + 2) 172, M1, J, rfl, rfl, hI3, hK4, by omega⟩)
  by_cases h14 : v1 = 3
  · refine q_tabIn C 82 dX12_count_6 h14 (by omega) rfl rfl ?_
    refine q_aload_n C dX12_count_82 (n := 83) rfl rfl ?_
    have g15 := zI.at hI (zM5 h0)
    refine q_getI C dX12_count_83 (n := 86) rfl f_X12_267 (zM0 h0) (v := M a 2) (zup_n e2 (by omega)) ?_
    exact q_iret C dX12_count_86 ⟨rfl, rfl⟩ (by rw [hPo]; exact ⟨M a 2, M1, J, rfl, rfl, hI3, hK4, by omega⟩)
  refine q_tabOut C 87 dX12_count_6 (by omega) (by omega) rfl ?_
  refine q_iconst C dX12_count_87 (n := 88) rfl ?_
  exact q_iret C dX12_count_88 ⟨rfl, rfl⟩ (by rw [hPo]; exact ⟨(-1), M1, J, rfl, rfl, hI3, hK4, by omega⟩)
theorem c_X12_set_v {w : zWp} {T : zTl} {M : zMm} {J : zJm} {R : zRm'} {G : zGt} {F : zRm'} {a : Nat} (hI : zI G M) (hF : zF F R) (h0 : zModel T F G a) (v1 : Int) (p1 : zFi M a) (p2 : -2147483648 ≤ v1 ∧ v1 ≤ 2147483647) : zCt w 1 0 0 yX12_set cX12_set 2 (some .int) [.ref (w.2.1 + a), zi v1] (T, M, J, R) (zPi T R G (fun x M2 => (zMd a [2] [0] [] M M2) ∧ (zFi M2 a) ∧ ((0 ≤ v1 ∧ v1 < zshl 1 (M (a + 2) 168)) ∧ x = 0 ∧ M2 (a + 2) 172 = v1 ∨ ¬ (0 ≤ v1 ∧ v1 < zshl 1 (M (a + 2) 168)) ∧ x = -1 ∧ M2 (a + 2) 172 = M (a + 2) 172) ∧ (∀ j, j ≠ 172 → M2 (a + 2) j = M (a + 2) j))) := by
  refine zCt.of rfl (Nat.le_of_ble_eq_true rfl) ?_
  intro p e s m args below meth c C
  obtain ⟨Po, hPo⟩ : ∃ Po, Po = zPi T R G (fun x M2 => (zMd a [2] [0] [] M M2) ∧ (zFi M2 a) ∧ ((0 ≤ v1 ∧ v1 < zshl 1 (M (a + 2) 168)) ∧ x = 0 ∧ M2 (a + 2) 172 = v1 ∨ ¬ (0 ≤ v1 ∧ v1 < zshl 1 (M (a + 2) 168)) ∧ x = -1 ∧ M2 (a + 2) 172 = M (a + 2) 172) ∧ (∀ j, j ≠ 172 → M2 (a + 2) j = M (a + 2) j)) := ⟨_, rfl⟩
  rw [← hPo]
  have hK0 : zMd a [2] [0] [] M M := zMd.rf
  show zK w p e 1 0 0 s m args below meth c 2 T Po 0 [.ref (w.2.1 + a), zi v1] [] (T, M, J, R)
  refine q_aload_n C dX12_set_0 (n := 1) rfl rfl ?_
  refine q_iconst C dX12_set_1 (n := 2) rfl ?_
  refine q_putI C dX12_set_2 (n := 5) rfl f_X12_1 (zM0 h0) ⟨rfl, rfl⟩ (fun M1 (e2 : M1 = zup M a 0 0) => ?_)
  have hI3 : zI G M1 := hI.put e2 (zM1 h0) rfl (by omega)
  have hK4 := hK0.upS e2 rfl
  refine q_iload_n C dX12_set_5 (n := 6) rfl rfl ?_
  have J_6 : (¬ (0 ≤ v1 ∧ v1 < zshl 1 (M (a + 2) 168))) → zK w p e 1 0 0 s m args below meth c 2 T Po 23 [.null, .null] [] (T, M1, J, R) := by
    intro h5
    refine q_iconst C dX12_set_23 (n := 24) rfl ?_
    have hp7 : zFi M1 a := p1.cg (fun j => (zup_p e2 (by omega) _))
    exact q_iret C dX12_set_24 ⟨rfl, rfl⟩ (by rw [hPo]; exact ⟨(-1), M1, J, rfl, rfl, hI3, hK4, hp7, by have hz8 : M1 (a + 2) 172 = M (a + 2) 172 := (zup_p e2 (by omega) _); omega, (fun j _ => (zup_p e2 (by omega) _))⟩)
  refine q_if_lt C 23 dX12_set_6 (n := 9) rfl rfl (by omega) (fun h9 => ?_) (fun h9 => ?_)
  · exact zK.weak (J_6 (by omega)) (zwk_n (zwk_n zwk_e))
  · refine q_iload_n C dX12_set_9 (n := 10) rfl rfl ?_
    refine q_iconst C dX12_set_10 (n := 11) rfl ?_
    refine q_aload_n C dX12_set_11 (n := 12) rfl rfl ?_
    refine q_getR C dX12_set_12 (n := 15) rfl f_X12_17 (zM0 h0) (hF _ _ _ (zM7 h0)) ?_
    refine q_sipush C dX12_set_15 (n := 18) rfl (x := 168) (by decide) ?_
    have g10 := zI.at hI (((zM9 h0) 168).trans (zfG_168 (by omega)))
    refine q_iald C dX12_set_18 (n := 19) rfl (zM8 h0) (by omega) (v := M (a + 2) 168) (zup_p e2 (by omega) _) ?_
    refine q_ishl C dX12_set_19 (n := 20) rfl (v := zshl 1 (M (a + 2) 168)) rfl ?_
    have g11 := zr_shl 1 (M (a + 2) 168)
    have g12 : 0 ≤ M (a + 2) 168 ∧ M (a + 2) 168 ≤ 3 → 1 ≤ zshl 1 (M (a + 2) 168) ∧ zshl 1 (M (a + 2) 168) ≤ 8 := fun h => zshl1 h
    refine q_icmp_lt C 25 dX12_set_20 (n := 23) rfl rfl (by omega) (fun h13 => ?_) (fun h13 => ?_)
    · refine q_aload_n C dX12_set_25 (n := 26) rfl rfl ?_
      refine q_getR C dX12_set_26 (n := 29) rfl f_X12_17 (zM0 h0) (hF _ _ _ (zM7 h0)) ?_
      refine q_sipush C dX12_set_29 (n := 32) rfl (x := 172) (by decide) ?_
      refine q_iload_n C dX12_set_32 (n := 33) rfl rfl ?_
      refine q_iast C dX12_set_33 (n := 34) rfl (zM8 h0) (by omega)  (fun M14 e15 => ?_)
      have hp16 : zFi M1 a := p1.cg (fun j => (zup_p e2 (by omega) _))
      have hp17 : zFi M14 a := hp16.up e15 hI3 h0 (by omega)
      have hI18 : zI G M14 := hI3.put e15 (((zM9 h0) 172).trans (zfG_172 (by omega))) rfl (by omega)
      have hK19 := hK4.upA e15 rfl
      refine q_iconst C dX12_set_34 (n := 35) rfl ?_
      exact q_iret C dX12_set_35 ⟨rfl, rfl⟩ (by rw [hPo]; exact ⟨0, M14, J, rfl, rfl, hI18, hK19, hp17, by have hz20 : M14 (a + 2) 172 = v1 := (zup_s e15); omega, (fun j hj => ((zup_n e15 (by omega)).trans (zup_p e2 (by omega) _)))⟩)
    · exact zK.weak (J_6 (by omega)) (zwk_n (zwk_n zwk_e))
theorem c_X12_file_v {w : zWp} {T : zTl} {M : zMm} {J : zJm} {R : zRm'} {G : zGt} {F : zRm'} {a : Nat} (hI : zI G M) (hF : zF F R) (h0 : zModel T F G a) (v1 : Int) (p1 : zFi M a) (p2 : -2147483648 ≤ v1 ∧ v1 ≤ 2147483647) : zCt w 3 0 0 yX12_file cX12_file 7 (some .int) [.ref (w.2.1 + a), zi v1] (T, M, J, R) (zPi T R G (fun x M2 => (zMd a [2, 4] [0, 2, 3, 9] [] M M2) ∧ (zFi M2 a) ∧ (M2 a 2 = 0) ∧ (zFA (M (a + 1)) (M a 2) v1 x) ∧ (0 ≤ x → zNg M2 M a v1 x (fun l => zCn (M (a + 1)) l (M a 2).toNat) 40) ∧ (x < 0 → ∀ j, M2 (a + 2) j = M (a + 2) j))) := by
  refine zCt.of rfl (Nat.le_of_ble_eq_true rfl) ?_
  intro p e s m args below meth c C
  obtain ⟨Po, hPo⟩ : ∃ Po, Po = zPi T R G (fun x M2 => (zMd a [2, 4] [0, 2, 3, 9] [] M M2) ∧ (zFi M2 a) ∧ (M2 a 2 = 0) ∧ (zFA (M (a + 1)) (M a 2) v1 x) ∧ (0 ≤ x → zNg M2 M a v1 x (fun l => zCn (M (a + 1)) l (M a 2).toNat) 40) ∧ (x < 0 → ∀ j, M2 (a + 2) j = M (a + 2) j)) := ⟨_, rfl⟩
  rw [← hPo]
  have hK0 : zMd a [2, 4] [0, 2, 3, 9] [] M M := zMd.rf
  have gk_length := zI.at hI (zM5 h0)
  have gk_size := zI.at hI (zM6 h0)
  show zK w p e 3 0 0 s m args below meth c 7 T Po 0 [.ref (w.2.1 + a), zi v1, .null, .null, .null, .null, .null] [] (T, M, J, R)
  refine q_aload_n C dX12_file_0 (n := 1) rfl rfl ?_
  refine q_callVv C dX12_file_1 (n := 4) rfl m_X12_293 v_yX12_taken (zM0 h0) ⟨by decide, rfl⟩ (c_X12_taken (w := w) (J := J) hI hF h0) (Nat.le_of_ble_eq_true rfl) rfl rfl (Nat.le_of_ble_eq_true rfl) ⟨Nat.le_refl _, Nat.le_refl _⟩ (fun M3 J4  hI5 h6 => ?_)
  obtain ⟨hk7, h1, h2⟩ := h6
  have hK8 := hK0.tr hk7 rfl rfl rfl
  refine q_iload_n C dX12_file_4 (n := 5) rfl rfl ?_
  refine q_iconst C dX12_file_5 (n := 6) rfl ?_
  refine q_iconst C dX12_file_6 (n := 7) rfl ?_
  refine q_callSp C dX12_file_7 (n := 10) rfl m_X12_277 s_yX12_isIn (c_X12_isIn (w := w) (J := J4) hI5 hF v1 0 3 (by omega) (by omega) (by omega)) (Nat.le_of_ble_eq_true rfl) rfl rfl (Nat.le_of_ble_eq_true rfl) ⟨Nat.le_refl _, Nat.le_refl _⟩ (fun x12 h13 => ?_)
  obtain ⟨h9, h10, h11⟩ := h13
  refine q_if_ne C 16 dX12_file_10 (n := 13) rfl rfl (by omega) (fun h14 => ?_) (fun h14 => ?_)
  · refine q_aload_n C dX12_file_16 (n := 17) rfl rfl ?_
    have g15 := zI.at hI5 (zM6 h0)
    refine q_getI C dX12_file_17 (n := 20) rfl f_X12_274 (zM0 h0) (v := M3 a 3) rfl ?_
    refine q_sipush C dX12_file_20 (n := 23) rfl (x := 400) (by decide) ?_
    refine q_icmp_le C 29 dX12_file_23 (n := 26) rfl rfl (by omega) (fun h16 => ?_) (fun h16 => ?_)
    · refine q_aload_n C dX12_file_29 (n := 30) rfl rfl ?_
      refine q_iconst C dX12_file_30 (n := 31) rfl ?_
      refine q_callVp C dX12_file_31 (n := 34) rfl m_X12_296 v_yX12_badByte (zM0 h0) ⟨by decide, rfl⟩ (c_X12_badByte (w := w) (J := J4) hI5 hF h0 1 (by omega)) (Nat.le_of_ble_eq_true rfl) rfl rfl (Nat.le_of_ble_eq_true rfl) ⟨Nat.le_refl _, Nat.le_refl _⟩ (fun x19 h20 => ?_)
      obtain ⟨h17, h18⟩ := h20
      refine q_istore_n C [.ref (w.2.1 + a), zi v1, zi x19, .null, .null, .null, .null] dX12_file_34 (n := 35) rfl rfl rfl ?_
      refine q_iload_n C dX12_file_35 (n := 36) rfl rfl ?_
      refine q_if_lt C 45 dX12_file_36 (n := 39) rfl rfl (by omega) (fun h21 => ?_) (fun h21 => ?_)
      · have gz0 := zTen_0 (g := M (a + 1))
        refine q_iconst C dX12_file_45 (n := 46) rfl ?_
        refine q_istore_n C [.ref (w.2.1 + a), zi v1, zi x19, zi 0, .null, .null, .null] dX12_file_46 (n := 47) rfl rfl rfl ?_
        refine q_iconst C dX12_file_47 (n := 48) rfl ?_
        refine q_istore C [.ref (w.2.1 + a), zi v1, zi x19, zi 0, zi 0, .null, .null] dX12_file_48 (n := 50) rfl rfl rfl ?_
        have L_29 : ∀ n30 : Nat, ∀ (u22 : Int) (u23 : Int), (-2147483648 ≤ u22 ∧ u22 ≤ 2147483647) → (-2147483648 ≤ u23 ∧ u23 ≤ 2147483647) → (0 ≤ u23 ∧ u23 ≤ M a 2) → (u23 < M a 2 ∧ u22 = zTen (M (a + 1)) (u23 : Int).toNat ∨ u23 = M a 2 ∧ (u23 = 0 ∧ u22 = 0 ∨ 1 ≤ u23 ∧ u22 = zTen (M (a + 1)) (M a 2 - 1).toNat + 1)) → (0 ≤ u22 ∧ u22 ≤ u23) → (441 - u23 ≤ (n30 : Int)) → zK w p e 3 0 0 s m args below meth c 7 T Po 50 [.ref (w.2.1 + a), zi v1, .null, zi u22, zi u23, .null, .null] [] (T, M3, J4, R) := by
          intro n30
          induction n30 with
          | zero =>
            intro u22 u23 h24 h25 h26 h27 h28 hm32
            exfalso
            omega
          | succ n30 ih31 =>
            intro u22 u23 h24 h25 h26 h27 h28 hm32
            refine q_iload C dX12_file_50 (n := 52) rfl rfl ?_
            refine q_aload_n C dX12_file_52 (n := 53) rfl rfl ?_
            refine q_getI C dX12_file_53 (n := 56) rfl f_X12_274 (zM0 h0) (v := M3 a 3) rfl ?_
            refine q_icmp_ge C 96 dX12_file_56 (n := 59) rfl rfl (by omega) (fun h33 => ?_) (fun h33 => ?_)
            · refine q_iload_n C dX12_file_96 (n := 97) rfl rfl ?_
              refine q_bipush C dX12_file_97 (n := 99) rfl (x := 40) (by decide) ?_
              refine q_icmp_le C 105 dX12_file_99 (n := 102) rfl rfl (by omega) (fun h34 => ?_) (fun h34 => ?_)
              · refine q_aload_n C dX12_file_105 (n := 106) rfl rfl ?_
                refine q_iconst C dX12_file_106 (n := 107) rfl ?_
                refine q_putZ C dX12_file_107 (n := 110) rfl f_X12_300 (zM0 h0) ⟨rfl, rfl⟩ (by omega) (fun M35 (e36 : M35 = zup M3 a 9 0) => ?_)
                have hI37 : zI G M35 := hI5.put e36 (zM22 h0) rfl (by omega)
                have hK38 := hK8.upS e36 rfl
                refine q_aload_n C dX12_file_110 (n := 111) rfl rfl ?_
                refine q_getR C dX12_file_111 (n := 114) rfl f_X12_17 (zM0 h0) (hF _ _ _ (zM7 h0)) ?_
                refine q_iconst C dX12_file_114 (n := 115) rfl ?_
                refine q_iload_n C dX12_file_115 (n := 116) rfl rfl ?_
                refine q_iadd C dX12_file_116 (n := 117) rfl (v := 0 + v1) rfl ?_
                refine q_iconst C dX12_file_117 (n := 118) rfl ?_
                refine q_iast C dX12_file_118 (n := 119) rfl (zM8 h0) (by omega)  (fun M39 e40 => ?_)
                have hp41 : zFi M35 a := p1.cg (fun j => ((zup_p e36 (by omega) _).trans (hk7.getA rfl rfl rfl)))
                have hI42 : zI G M39 := hI37.put e40 (((zM9 h0) (0 + v1)).trans (zfG_0 (by omega))) rfl (by omega)
                have hK43 := hK38.upA e40 rfl
                refine q_aload_n C dX12_file_119 (n := 120) rfl rfl ?_
                refine q_getR C dX12_file_120 (n := 123) rfl f_X12_17 (zM0 h0) (hF _ _ _ (zM7 h0)) ?_
                refine q_iconst C dX12_file_123 (n := 124) rfl ?_
                refine q_iload_n C dX12_file_124 (n := 125) rfl rfl ?_
                refine q_iadd C dX12_file_125 (n := 126) rfl (v := 4 + v1) rfl ?_
                refine q_iload_n C dX12_file_126 (n := 127) rfl rfl ?_
                refine q_iast C dX12_file_127 (n := 128) rfl (zM8 h0) (by omega)  (fun M44 e45 => ?_)
                have hI46 : zI G M44 := hI42.put e45 (((zM9 h0) (4 + v1)).trans (zfG_4 (by omega))) rfl (by omega)
                have hK47 := hK43.upA e45 rfl
                refine q_iconst C dX12_file_128 (n := 129) rfl ?_
                refine q_istore C [.ref (w.2.1 + a), zi v1, .null, zi u22, zi 0, .null, .null] dX12_file_129 (n := 131) rfl rfl rfl ?_
                have L_59 : ∀ n60 : Nat, ∀ (u48 : Int) (M50 : zMm) (J51 : zJm), zI G M50 → zMd a [2, 4] [0, 2, 3, 9] [] M M50 → zMd a [2] [] [] M44 M50 → (-2147483648 ≤ u48 ∧ u48 ≤ 2147483647) → (0 ≤ u48 ∧ u48 ≤ 40) → (zFl M50 a v1 u48 0) → (zNg M50 M a v1 u22 (fun _ => 0) u48) → (41 - u48 ≤ (n60 : Int)) → zK w p e 3 0 0 s m args below meth c 7 T Po 131 [.ref (w.2.1 + a), zi v1, .null, zi u22, zi u48, .null, .null] [] (T, M50, J51, R) := by
                  intro n60
                  induction n60 with
                  | zero =>
                    intro u48 M50 J51 hI52 hK53 hK54 h55 h56 h57 h58 hm62
                    exfalso
                    omega
                  | succ n60 ih61 =>
                    intro u48 M50 J51 hI52 hK53 hK54 h55 h56 h57 h58 hm62
                    refine q_iload C dX12_file_131 (n := 133) rfl rfl ?_
                    refine q_bipush C dX12_file_133 (n := 135) rfl (x := 40) (by decide) ?_
                    refine q_icmp_ge C 160 dX12_file_135 (n := 138) rfl rfl (by omega) (fun h63 => ?_) (fun h63 => ?_)
                    · refine q_sipush C dX12_file_160 (n := 163) rfl (x := 400) (by decide) ?_
                      refine q_iload_n C dX12_file_163 (n := 164) rfl rfl ?_
                      refine q_imul C dX12_file_164 (n := 165) rfl (v := 400 * v1) rfl ?_
                      refine q_istore C [.ref (w.2.1 + a), zi v1, .null, zi u22, zi (400 * v1), .null, .null] dX12_file_165 (n := 167) rfl rfl rfl ?_
                      refine q_iconst C dX12_file_167 (n := 168) rfl ?_
                      refine q_istore C [.ref (w.2.1 + a), zi v1, .null, zi u22, zi (400 * v1), zi 0, .null] dX12_file_168 (n := 170) rfl rfl rfl ?_
                      refine q_iconst C dX12_file_170 (n := 171) rfl ?_
                      refine q_istore C [.ref (w.2.1 + a), zi v1, .null, zi u22, zi (400 * v1), zi 0, zi 0] dX12_file_171 (n := 173) rfl rfl rfl ?_
                      have L_82 : ∀ n83 : Nat, ∀ (u64 : Int) (u65 : Int) (u66 : Int) (M68 : zMm) (J69 : zJm), zI G M68 → zMd a [2, 4] [0, 2, 3, 9] [] M M68 → zMd a [2, 4] [] [] M50 M68 → (-2147483648 ≤ u64 ∧ u64 ≤ 2147483647) → (-2147483648 ≤ u65 ∧ u65 ≤ 2147483647) → (-2147483648 ≤ u66 ∧ u66 ≤ 2147483647) → (0 ≤ u66 ∧ u66 ≤ M a 2) → (u65 = zTen (M (a + 1)) (u66 : Int).toNat) → (0 ≤ u65 ∧ u65 ≤ u66) → (400 * v1 ≤ u64 ∧ u64 ≤ 400 * v1 + u66) → (zFl M68 a v1 40 (u64 - 400 * v1)) → (zNg M68 M a v1 u22 (fun l => zCn (M (a + 1)) l (u66 : Int).toNat) 40) → (441 - u66 ≤ (n83 : Int)) → zK w p e 3 0 0 s m args below meth c 7 T Po 173 [.ref (w.2.1 + a), zi v1, .null, zi u22, zi u64, zi u65, zi u66] [] (T, M68, J69, R) := by
                        intro n83
                        induction n83 with
                        | zero =>
                          intro u64 u65 u66 M68 J69 hI70 hK71 hK72 h73 h74 h75 h76 h77 h78 h79 h80 h81 hm85
                          exfalso
                          omega
                        | succ n83 ih84 =>
                          intro u64 u65 u66 M68 J69 hI70 hK71 hK72 h73 h74 h75 h76 h77 h78 h79 h80 h81 hm85
                          refine q_iload C dX12_file_173 (n := 175) rfl rfl ?_
                          refine q_aload_n C dX12_file_175 (n := 176) rfl rfl ?_
                          refine q_getI C dX12_file_176 (n := 179) rfl f_X12_274 (zM0 h0) (v := M3 a 3) ((hK72.getS rfl rfl).trans ((hK54.getS rfl rfl).trans ((zup_p e45 (by omega) _).trans ((zup_p e40 (by omega) _).trans (zup_n e36 (by omega)))))) ?_
                          refine q_icmp_ge C 242 dX12_file_179 (n := 182) rfl rfl (by omega) (fun h86 => ?_) (fun h86 => ?_)
                          · have hp87 : zFi M68 a := zFl.fi h80 (by omega) hI70 h0 (by omega)
                            refine q_iload_n C dX12_file_242 (n := 243) rfl rfl ?_
                            exact q_iret C dX12_file_243 ⟨rfl, rfl⟩ (by rw [hPo]; exact ⟨u22, M68, J69, rfl, rfl, hI70, hK71, hp87, by have hz88 : M68 a 2 = M3 a 2 := ((hK72.getS rfl rfl).trans ((hK54.getS rfl rfl).trans ((zup_p e45 (by omega) _).trans ((zup_p e40 (by omega) _).trans (zup_n e36 (by omega)))))); omega, (zFA.d (by omega) (by omega) (zWb.cg h18 (fun j => (hk7.getA rfl rfl rfl)) (by omega) (by omega)) (by omega) (show zLi (M (a + 1)) (M a 2) u22 from (by unfold zLi; omega)) (Or.inr ⟨by omega, rfl⟩)), (fun _ => zNg.c (zNg.cg h81 (fun j => rfl)) rfl rfl (fun l => by rw [show (u66 : Int) = M a 2 by omega])), (fun h => absurd h (by omega))⟩)
                          · have gs2 := zTen_s (g := M (a + 1)) (i := u66) (by omega)
                            have gm2 := zTen_le (g := M (a + 1)) (i := u66) (j := M a 2 - 1) (by omega)
                            refine q_aload_n C dX12_file_182 (n := 183) rfl rfl ?_
                            refine q_getR C dX12_file_183 (n := 186) rfl f_X12_13 (zM0 h0) (hF _ _ _ (zM2 h0)) ?_
                            refine q_iload C dX12_file_186 (n := 188) rfl rfl ?_
                            have g89 := zI.at hI ((zM4 h0) u66)
                            refine q_bald C dX12_file_188 (n := 189) rfl (zM3 h0) (by omega) (v := M (a + 1) u66) ((hK72.getA rfl rfl rfl).trans ((hK54.getA rfl rfl rfl).trans ((zup_p e45 (by omega) _).trans ((zup_p e40 (by omega) _).trans ((zup_p e36 (by omega) _).trans (hk7.getA rfl rfl rfl)))))) ?_
                            have gt90 : M68 (a + 1) u66 = M (a + 1) u66 := ((hK72.getA rfl rfl rfl).trans ((hK54.getA rfl rfl rfl).trans ((zup_p e45 (by omega) _).trans ((zup_p e40 (by omega) _).trans ((zup_p e36 (by omega) _).trans (hk7.getA rfl rfl rfl))))))
                            refine q_bipush C dX12_file_189 (n := 191) rfl (x := 10) (by decide) ?_
                            refine q_icmp_ne C 200 dX12_file_191 (n := 194) rfl rfl (by omega) (fun h91 => ?_) (fun h91 => ?_)
                            · refine q_aload_n C dX12_file_200 (n := 201) rfl rfl ?_
                              refine q_getR C dX12_file_201 (n := 204) rfl f_X12_24 (zM0 h0) (hF _ _ _ (zM13 h0)) ?_
                              refine q_iload C dX12_file_204 (n := 206) rfl rfl ?_
                              refine q_aload_n C dX12_file_206 (n := 207) rfl rfl ?_
                              refine q_getR C dX12_file_207 (n := 210) rfl f_X12_13 (zM0 h0) (hF _ _ _ (zM2 h0)) ?_
                              refine q_iload C dX12_file_210 (n := 212) rfl rfl ?_
                              refine q_bald C dX12_file_212 (n := 213) rfl (zM3 h0) (by omega) (v := M (a + 1) u66) ((hK72.getA rfl rfl rfl).trans ((hK54.getA rfl rfl rfl).trans ((zup_p e45 (by omega) _).trans ((zup_p e40 (by omega) _).trans ((zup_p e36 (by omega) _).trans (hk7.getA rfl rfl rfl)))))) ?_
                              refine q_bast C dX12_file_213 (n := 214) rfl (zM14 h0) (by omega) (by omega) (fun M92 e93 => ?_)
                              have hI94 : zI G M92 := hI70.put e93 ((zM15 h0) u64) rfl (by omega)
                              have hK95 := hK71.upA e93 rfl
                              have hK96 := hK72.upA e93 rfl
                              refine q_iinc C [.ref (w.2.1 + a), zi v1, .null, zi u22, zi (u64 + 1), zi u65, zi u66] dX12_file_214 (n := 217) rfl rfl rfl rfl ?_
                              have gfe : M92 (a + 2) (8 + 40 * v1 + u65) = M68 (a + 2) (8 + 40 * v1 + u65) := (zup_p e93 (by omega) _)
                              have hp97 : zFl M92 a v1 40 (u64 - 400 * v1) := h80.cg (fun j => (zup_p e93 (by omega) _))
                              have gfl := zFl.le (j := u65) hp97 hI94 h0 (by omega) (by omega)
                              refine q_aload_n C dX12_file_217 (n := 218) rfl rfl ?_
                              refine q_getR C dX12_file_218 (n := 221) rfl f_X12_17 (zM0 h0) (hF _ _ _ (zM7 h0)) ?_
                              refine q_bipush C dX12_file_221 (n := 223) rfl (x := 8) (by decide) ?_
                              refine q_bipush C dX12_file_223 (n := 225) rfl (x := 40) (by decide) ?_
                              refine q_iload_n C dX12_file_225 (n := 226) rfl rfl ?_
                              refine q_imul C dX12_file_226 (n := 227) rfl (v := 40 * v1) rfl ?_
                              refine q_iadd C dX12_file_227 (n := 228) rfl (v := 8 + (40 * v1)) rfl ?_
                              refine q_iload C dX12_file_228 (n := 230) rfl rfl ?_
                              refine q_iadd C dX12_file_230 (n := 231) rfl (v := (8 + (40 * v1)) + u65) rfl ?_
                              refine q_dup2 C dX12_file_231 (n := 232) rfl ⟨rfl, rfl⟩ ?_
                              have g98 := zI.at hI70 (((zM9 h0) ((8 + (40 * v1)) + u65)).trans (zfG_8 (by omega)))
                              refine q_iald C dX12_file_232 (n := 233) rfl (zM8 h0) (by omega) (v := M68 (a + 2) ((8 + (40 * v1)) + u65)) (zup_p e93 (by omega) _) ?_
                              refine q_iconst C dX12_file_233 (n := 234) rfl ?_
                              refine q_iadd C dX12_file_234 (n := 235) rfl (v := (M68 (a + 2) ((8 + (40 * v1)) + u65)) + 1) rfl ?_
                              refine q_iast C dX12_file_235 (n := 236) rfl (zM8 h0) (by omega)  (fun M99 e100 => ?_)
                              have hI101 : zI G M99 := hI94.put e100 (((zM9 h0) ((8 + (40 * v1)) + u65)).trans (zfG_8 (by omega))) rfl (by omega)
                              have hK102 := hK95.upA e100 rfl
                              have hK103 := hK96.upA e100 rfl
                              refine q_iinc C [.ref (w.2.1 + a), zi v1, .null, zi u22, zi (u64 + 1), zi u65, zi (u66 + 1)] dX12_file_236 (n := 239) rfl rfl rfl rfl ?_
                              refine q_goto C 173 dX12_file_239 rfl ?_
                              exact zK.weak (ih84 (u64 + 1) u65 (u66 + 1) M99 J69 hI101 hK102 hK103 (by omega) (by omega) (by omega) (by omega) (by omega) (by omega) (by omega) (zFl.c (zFl.inc hp97 e100 (by omega) hI94 h0 (by omega) (by omega)) (by omega) (by omega)) (zNg.inc (zNg.cg h81 (fun j => (zup_p e93 (by omega) _))) e100 (by omega) (by omega) (by omega) (by omega) (by omega) (by omega)) (by omega)) (zwk_c (zwk_c (zwk_n (zwk_c (zwk_c (zwk_c (zwk_c zwk_e)))))))
                            · refine q_iinc C [.ref (w.2.1 + a), zi v1, .null, zi u22, zi u64, zi (u65 + 1), zi u66] dX12_file_194 (n := 197) rfl rfl rfl rfl ?_
                              refine q_goto C 236 dX12_file_197 rfl ?_
                              refine q_iinc C [.ref (w.2.1 + a), zi v1, .null, zi u22, zi u64, zi (u65 + 1), zi (u66 + 1)] dX12_file_236 (n := 239) rfl rfl rfl rfl ?_
                              refine q_goto C 173 dX12_file_239 rfl ?_
                              exact zK.weak (ih84 u64 (u65 + 1) (u66 + 1) M68 J69 hI70 hK71 hK72 (by omega) (by omega) (by omega) (by omega) (by omega) (by omega) (by omega) (zFl.c h80 (by omega) (by omega)) (zNg.ten h81 (by omega) (by omega)) (by omega)) (zwk_c (zwk_c (zwk_n (zwk_c (zwk_c (zwk_c (zwk_c zwk_e)))))))
                      exact zK.weak (L_82 _ (400 * v1) 0 0 M50 J51 hI52 hK53 (zMd.rf : zMd a [2, 4] [] [] M50 M50) (by omega) (by omega) (by omega) (by omega) (by omega) (by omega) (by omega) (zFl.c h57 (by omega) (by omega)) (zNg.c (zNg.cg h58 (fun j => rfl)) rfl (by omega) (fun _ => rfl)) (Int.self_le_toNat _)) (zwk_c (zwk_c (zwk_n (zwk_c (zwk_c (zwk_c (zwk_c zwk_e)))))))
                    · refine q_aload_n C dX12_file_138 (n := 139) rfl rfl ?_
                      refine q_getR C dX12_file_139 (n := 142) rfl f_X12_17 (zM0 h0) (hF _ _ _ (zM7 h0)) ?_
                      refine q_bipush C dX12_file_142 (n := 144) rfl (x := 8) (by decide) ?_
                      refine q_bipush C dX12_file_144 (n := 146) rfl (x := 40) (by decide) ?_
                      refine q_iload_n C dX12_file_146 (n := 147) rfl rfl ?_
                      refine q_imul C dX12_file_147 (n := 148) rfl (v := 40 * v1) rfl ?_
                      refine q_iadd C dX12_file_148 (n := 149) rfl (v := 8 + (40 * v1)) rfl ?_
                      refine q_iload C dX12_file_149 (n := 151) rfl rfl ?_
                      refine q_iadd C dX12_file_151 (n := 152) rfl (v := (8 + (40 * v1)) + u48) rfl ?_
                      refine q_iconst C dX12_file_152 (n := 153) rfl ?_
                      refine q_iast C dX12_file_153 (n := 154) rfl (zM8 h0) (by omega)  (fun M104 e105 => ?_)
                      have hI106 : zI G M104 := hI52.put e105 (((zM9 h0) ((8 + (40 * v1)) + u48)).trans (zfG_8 (by omega))) rfl (by omega)
                      have hK107 := hK53.upA e105 rfl
                      have hK108 := hK54.upA e105 rfl
                      refine q_iinc C [.ref (w.2.1 + a), zi v1, .null, zi u22, zi (u48 + 1), .null, .null] dX12_file_154 (n := 157) rfl rfl rfl rfl ?_
                      refine q_goto C 131 dX12_file_157 rfl ?_
                      exact zK.weak (ih61 (u48 + 1) M104 J51 hI106 hK107 hK108 (by omega) (by omega) (zFl.c (zFl.clr h57 e105 hI52 h0 (by omega) (by omega)) (by omega) (by omega)) (zNg.clr h58 e105 (by omega) (by omega)) (by omega)) (zwk_c (zwk_c (zwk_n (zwk_c (zwk_c (zwk_n (zwk_n zwk_e)))))))
                exact zK.weak (L_59 _ 0 M44 J4 hI46 hK47 (zMd.rf : zMd a [2] [] [] M44 M44) (by omega) (by omega) (zFl.c (zFl_init (M := M) (k := v1) (fun j => ((zup_p e36 (by omega) _).trans (hk7.getA rfl rfl rfl))) e40 e45 p1 hI h0 (by omega) (by omega)) (by omega) (by omega)) (zNg.c (zNg.init (M0 := M) (k := v1) (fun j => ((zup_p e36 (by omega) _).trans (hk7.getA rfl rfl rfl))) e40 e45 (by omega)) rfl (by omega) (fun _ => rfl)) (Int.self_le_toNat _)) (zwk_c (zwk_c (zwk_n (zwk_c (zwk_c (zwk_n (zwk_n zwk_e)))))))
              · refine q_bipush C dX12_file_102 (n := 104) rfl (x := (-3)) (by decide) ?_
                have hp109 : zFi M3 a := p1.cg (fun j => (hk7.getA rfl rfl rfl))
                exact q_iret C dX12_file_104 ⟨rfl, rfl⟩ (by rw [hPo]; exact ⟨(-3), M3, J4, rfl, rfl, hI5, hK8, hp109, by omega, (zFA.d (by omega) (by omega) (zWb.cg h18 (fun j => (hk7.getA rfl rfl rfl)) (by omega) (by omega)) (by omega) (show zLi (M (a + 1)) (M a 2) u22 from (by unfold zLi; omega)) (Or.inl ⟨by omega, rfl⟩)), (fun h => absurd h (by omega)), (fun _ j => (hk7.getA rfl rfl rfl))⟩)
            · have gs := zTen_s (g := M (a + 1)) (i := u23) (by omega)
              have gq : ¬ (u23 : Int) = M a 2 - 1 ∨ zTen (M (a + 1)) (u23 : Int).toNat = zTen (M (a + 1)) (M a 2 - 1).toNat := (Decidable.em ((u23 : Int) = M a 2 - 1)).symm.imp id (fun h => by rw [h])
              refine q_iload_n C dX12_file_59 (n := 60) rfl rfl ?_
              refine q_aload_n C dX12_file_60 (n := 61) rfl rfl ?_
              refine q_getR C dX12_file_61 (n := 64) rfl f_X12_13 (zM0 h0) (hF _ _ _ (zM2 h0)) ?_
              refine q_iload C dX12_file_64 (n := 66) rfl rfl ?_
              have g110 := zI.at hI ((zM4 h0) u23)
              refine q_bald C dX12_file_66 (n := 67) rfl (zM3 h0) (by omega) (v := M (a + 1) u23) (hk7.getA rfl rfl rfl) ?_
              have gt111 : M3 (a + 1) u23 = M (a + 1) u23 := (hk7.getA rfl rfl rfl)
              refine q_bipush C dX12_file_67 (n := 69) rfl (x := 10) (by decide) ?_
              refine q_icmp_eq C 83 dX12_file_69 (n := 72) rfl rfl (by omega) (fun h112 => ?_) (fun h112 => ?_)
              · refine q_iconst C dX12_file_83 (n := 84) rfl ?_
                refine q_goto C 88 dX12_file_84 rfl ?_
                refine q_iadd C dX12_file_88 (n := 89) rfl (v := u22 + 1) rfl ?_
                refine q_istore_n C [.ref (w.2.1 + a), zi v1, .null, zi (u22 + 1), zi u23, .null, .null] dX12_file_89 (n := 90) rfl rfl rfl ?_
                refine q_iinc C [.ref (w.2.1 + a), zi v1, .null, zi (u22 + 1), zi (u23 + 1), .null, .null] dX12_file_90 (n := 93) rfl rfl rfl rfl ?_
                refine q_goto C 50 dX12_file_93 rfl ?_
                exact zK.weak (ih31 (u22 + 1) (u23 + 1) (by omega) (by omega) (by omega) (by omega) (by omega) (by omega)) (zwk_c (zwk_c (zwk_n (zwk_c (zwk_c (zwk_n (zwk_n zwk_e)))))))
              · refine q_iload C dX12_file_72 (n := 74) rfl rfl ?_
                refine q_aload_n C dX12_file_74 (n := 75) rfl rfl ?_
                refine q_getI C dX12_file_75 (n := 78) rfl f_X12_274 (zM0 h0) (v := M3 a 3) rfl ?_
                refine q_iconst C dX12_file_78 (n := 79) rfl ?_
                refine q_isub C dX12_file_79 (n := 80) rfl (v := (M3 a 3) - 1) rfl ?_
                refine q_icmp_ne C 87 dX12_file_80 (n := 83) rfl rfl (by omega) (fun h113 => ?_) (fun h113 => ?_)
                · refine q_iconst C dX12_file_87 (n := 88) rfl ?_
                  refine q_iadd C dX12_file_88 (n := 89) rfl (v := u22 + 0) rfl ?_
                  refine q_istore_n C [.ref (w.2.1 + a), zi v1, .null, zi (u22 + 0), zi u23, .null, .null] dX12_file_89 (n := 90) rfl rfl rfl ?_
                  refine q_iinc C [.ref (w.2.1 + a), zi v1, .null, zi (u22 + 0), zi (u23 + 1), .null, .null] dX12_file_90 (n := 93) rfl rfl rfl rfl ?_
                  refine q_goto C 50 dX12_file_93 rfl ?_
                  exact zK.weak (ih31 (u22 + 0) (u23 + 1) (by omega) (by omega) (by omega) (by omega) (by omega) (by omega)) (zwk_c (zwk_c (zwk_n (zwk_c (zwk_c (zwk_n (zwk_n zwk_e)))))))
                · refine q_iconst C dX12_file_83 (n := 84) rfl ?_
                  refine q_goto C 88 dX12_file_84 rfl ?_
                  refine q_iadd C dX12_file_88 (n := 89) rfl (v := u22 + 1) rfl ?_
                  refine q_istore_n C [.ref (w.2.1 + a), zi v1, .null, zi (u22 + 1), zi u23, .null, .null] dX12_file_89 (n := 90) rfl rfl rfl ?_
                  refine q_iinc C [.ref (w.2.1 + a), zi v1, .null, zi (u22 + 1), zi (u23 + 1), .null, .null] dX12_file_90 (n := 93) rfl rfl rfl rfl ?_
                  refine q_goto C 50 dX12_file_93 rfl ?_
                  exact zK.weak (ih31 (u22 + 1) (u23 + 1) (by omega) (by omega) (by omega) (by omega) (by omega) (by omega)) (zwk_c (zwk_c (zwk_n (zwk_c (zwk_c (zwk_n (zwk_n zwk_e)))))))
        exact zK.weak (L_29 _ 0 0 (by omega) (by omega) (by omega) (by omega) (by omega) (Int.self_le_toNat _)) (zwk_c (zwk_c (zwk_n (zwk_c (zwk_c (zwk_n (zwk_n zwk_e)))))))
      · refine q_sipush C dX12_file_39 (n := 42) rfl (x := (-1000)) (by decide) ?_
        refine q_iload_n C dX12_file_42 (n := 43) rfl rfl ?_
        refine q_isub C dX12_file_43 (n := 44) rfl (v := (-1000) - x19) rfl ?_
        have hp114 : zFi M3 a := p1.cg (fun j => (hk7.getA rfl rfl rfl))
        exact q_iret C dX12_file_44 ⟨rfl, rfl⟩ (by rw [hPo]; exact ⟨(-1000) - x19, M3, J4, rfl, rfl, hI5, hK8, hp114, by omega, (zFA.c (by omega) (by omega) (zWb.cg h18 (fun j => (hk7.getA rfl rfl rfl)) (by omega) (by omega)) ⟨by omega, by omega⟩), (fun h => absurd h (by omega)), (fun _ j => (hk7.getA rfl rfl rfl))⟩)
    · refine q_bipush C dX12_file_26 (n := 28) rfl (x := (-3)) (by decide) ?_
      have hp115 : zFi M3 a := p1.cg (fun j => (hk7.getA rfl rfl rfl))
      exact q_iret C dX12_file_28 ⟨rfl, rfl⟩ (by rw [hPo]; exact ⟨(-3), M3, J4, rfl, rfl, hI5, hK8, hp115, by omega, (Or.inr ⟨by omega, Or.inl ⟨by omega, rfl⟩⟩), (fun h => absurd h (by omega)), (fun _ j => (hk7.getA rfl rfl rfl))⟩)
  · refine q_bipush C dX12_file_13 (n := 15) rfl (x := (-2)) (by decide) ?_
    have hp116 : zFi M3 a := p1.cg (fun j => (hk7.getA rfl rfl rfl))
    exact q_iret C dX12_file_15 ⟨rfl, rfl⟩ (by rw [hPo]; exact ⟨(-2), M3, J4, rfl, rfl, hI5, hK8, hp116, by omega, (Or.inl ⟨by omega, rfl⟩), (fun h => absurd h (by omega)), (fun _ j => (hk7.getA rfl rfl rfl))⟩)
theorem c_X12_edit_v {w : zWp} {T : zTl} {M : zMm} {J : zJm} {R : zRm'} {G : zGt} {F : zRm'} {a : Nat} (hI : zI G M) (hF : zF F R) (h0 : zModel T F G a) (v1 : Int) (v2 : Int) (p1 : zFi M a) (p2 : -2147483648 ≤ v1 ∧ v1 ≤ 2147483647) (p3 : -2147483648 ≤ v2 ∧ v2 ≤ 2147483647) : zCt w 3 0 0 yX12_edit cX12_edit 12 (some .int) [.ref (w.2.1 + a), zi v1, zi v2] (T, M, J, R) (zPi T R G (fun x M2 => (zMd a [2, 4] [0, 2, 3, 9] [] M M2) ∧ (zFi M2 a) ∧ (M2 a 2 = 0) ∧ (zEA (M (a + 1)) (M a 2) (0 ≤ v1 ∧ v1 ≤ 3 ∧ M (a + 2) v1 = 1) v2 (M (a + 2) (4 + v1)) (zSum (M (a + 2)) (8 + 40 * v1) (M (a + 2) (4 + v1)).toNat + M (a + 2) (4 + v1)) (M (a + 2) (8 + 40 * v1 + v2) + 1) x) ∧ (0 ≤ x → zR2 M M2 (a + 2) (8 + 40 * v1 + v2) (M a 2) (4 + v1) x) ∧ (x < 0 → ∀ j, M2 (a + 2) j = M (a + 2) j))) := by
  refine zCt.of rfl (Nat.le_of_ble_eq_true rfl) ?_
  intro p e s m args below meth c C
  obtain ⟨Po, hPo⟩ : ∃ Po, Po = zPi T R G (fun x M2 => (zMd a [2, 4] [0, 2, 3, 9] [] M M2) ∧ (zFi M2 a) ∧ (M2 a 2 = 0) ∧ (zEA (M (a + 1)) (M a 2) (0 ≤ v1 ∧ v1 ≤ 3 ∧ M (a + 2) v1 = 1) v2 (M (a + 2) (4 + v1)) (zSum (M (a + 2)) (8 + 40 * v1) (M (a + 2) (4 + v1)).toNat + M (a + 2) (4 + v1)) (M (a + 2) (8 + 40 * v1 + v2) + 1) x) ∧ (0 ≤ x → zR2 M M2 (a + 2) (8 + 40 * v1 + v2) (M a 2) (4 + v1) x) ∧ (x < 0 → ∀ j, M2 (a + 2) j = M (a + 2) j)) := ⟨_, rfl⟩
  rw [← hPo]
  have hK0 : zMd a [2, 4] [0, 2, 3, 9] [] M M := zMd.rf
  have gk_length := zI.at hI (zM5 h0)
  have gk_size := zI.at hI (zM6 h0)
  show zK w p e 3 0 0 s m args below meth c 12 T Po 0 [.ref (w.2.1 + a), zi v1, zi v2, .null, .null, .null, .null, .null, .null, .null, .null, .null] [] (T, M, J, R)
  refine q_aload_n C dX12_edit_0 (n := 1) rfl rfl ?_
  refine q_callVv C dX12_edit_1 (n := 4) rfl m_X12_293 v_yX12_taken (zM0 h0) ⟨by decide, rfl⟩ (c_X12_taken (w := w) (J := J) hI hF h0) (Nat.le_of_ble_eq_true rfl) rfl rfl (Nat.le_of_ble_eq_true rfl) ⟨Nat.le_refl _, Nat.le_refl _⟩ (fun M3 J4  hI5 h6 => ?_)
  obtain ⟨hk7, h1, h2⟩ := h6
  have hK8 := hK0.tr hk7 rfl rfl rfl
  refine q_aload_n C dX12_edit_4 (n := 5) rfl rfl ?_
  refine q_iload_n C dX12_edit_5 (n := 6) rfl rfl ?_
  refine q_callVp C dX12_edit_6 (n := 9) rfl m_X12_281 v_yX12_isFile (zM0 h0) ⟨by decide, rfl⟩ (c_X12_isFile_e (w := w) (J := J4) hI5 hF h0 v1 (by omega)) (Nat.le_of_ble_eq_true rfl) rfl rfl (Nat.le_of_ble_eq_true rfl) ⟨Nat.le_refl _, Nat.le_refl _⟩ (fun x12 h13 => ?_)
  obtain ⟨h9, h10, h11⟩ := h13
  have hz14 : M3 (a + 2) v1 = M (a + 2) v1 := (hk7.getA rfl rfl rfl)
  have hfo := zOp.mk h11
  clear h11
  refine q_if_eq C 25 dX12_edit_9 (n := 12) rfl rfl (by omega) (fun h15 => ?_) (fun h15 => ?_)
  · refine q_bipush C dX12_edit_25 (n := 27) rfl (x := (-2)) (by decide) ?_
    have hp16 : zFi M3 a := p1.cg (fun j => (hk7.getA rfl rfl rfl))
    have hfe := hfo.out
    exact q_iret C dX12_edit_27 ⟨rfl, rfl⟩ (by rw [hPo]; exact ⟨(-2), M3, J4, rfl, rfl, hI5, hK8, hp16, by omega, (Or.inl ⟨by omega, rfl⟩), (fun h => absurd h (by omega)), (fun _ j => (hk7.getA rfl rfl rfl))⟩)
  · refine q_iload_n C dX12_edit_12 (n := 13) rfl rfl ?_
    refine q_iconst C dX12_edit_13 (n := 14) rfl ?_
    refine q_aload_n C dX12_edit_14 (n := 15) rfl rfl ?_
    refine q_iload_n C dX12_edit_15 (n := 16) rfl rfl ?_
    refine q_callVp C dX12_edit_16 (n := 19) rfl m_X12_285 v_yX12_linesOf (zM0 h0) ⟨by decide, rfl⟩ (c_X12_linesOf (w := w) (J := J4) hI5 hF h0 v1 (by omega)) (Nat.le_of_ble_eq_true rfl) rfl rfl (Nat.le_of_ble_eq_true rfl) ⟨Nat.le_refl _, Nat.le_refl _⟩ (fun x19 h20 => ?_)
    obtain ⟨h17, h18⟩ := h20
    have hz21 : M3 (a + 2) (4 + v1) = M (a + 2) (4 + v1) := (hk7.getA rfl rfl rfl)
    refine q_callSp C dX12_edit_19 (n := 22) rfl m_X12_277 s_yX12_isIn (c_X12_isIn (w := w) (J := J4) hI5 hF v2 0 x19 (by omega) (by omega) (by omega)) (Nat.le_of_ble_eq_true rfl) rfl rfl (Nat.le_of_ble_eq_true rfl) ⟨Nat.le_refl _, Nat.le_refl _⟩ (fun x25 h26 => ?_)
    obtain ⟨h22, h23, h24⟩ := h26
    refine q_if_ne C 28 dX12_edit_22 (n := 25) rfl rfl (by omega) (fun h27 => ?_) (fun h27 => ?_)
    · refine q_aload_n C dX12_edit_28 (n := 29) rfl rfl ?_
      refine q_iconst C dX12_edit_29 (n := 30) rfl ?_
      refine q_callVp C dX12_edit_30 (n := 33) rfl m_X12_296 v_yX12_badByte (zM0 h0) ⟨by decide, rfl⟩ (c_X12_badByte (w := w) (J := J4) hI5 hF h0 0 (by omega)) (Nat.le_of_ble_eq_true rfl) rfl rfl (Nat.le_of_ble_eq_true rfl) ⟨Nat.le_refl _, Nat.le_refl _⟩ (fun x30 h31 => ?_)
      obtain ⟨h28, h29⟩ := h31
      refine q_istore_n C [.ref (w.2.1 + a), zi v1, zi v2, zi x30, .null, .null, .null, .null, .null, .null, .null, .null] dX12_edit_33 (n := 34) rfl rfl rfl ?_
      refine q_iload_n C dX12_edit_34 (n := 35) rfl rfl ?_
      refine q_if_lt C 44 dX12_edit_35 (n := 38) rfl rfl (by omega) (fun h32 => ?_) (fun h32 => ?_)
      · have gz0 := zSum_0 (g := M (a + 2)) (b := 8 + 40 * v1)
        have gc : 39 < v2 ∨ 0 ≤ M (a + 2) (8 + 40 * v1 + v2) ∧ M (a + 2) (8 + 40 * v1 + v2) ≤ 440 := (Decidable.em (39 < v2)).imp id (fun h => zI.at hI ((zM9 h0 (8 + 40 * v1 + v2)).trans (zfG_8 (by omega))))
        refine q_aload_n C dX12_edit_44 (n := 45) rfl rfl ?_
        refine q_iload_n C dX12_edit_45 (n := 46) rfl rfl ?_
        refine q_callVp C dX12_edit_46 (n := 49) rfl m_X12_285 v_yX12_linesOf (zM0 h0) ⟨by decide, rfl⟩ (c_X12_linesOf (w := w) (J := J4) hI5 hF h0 v1 (by omega)) (Nat.le_of_ble_eq_true rfl) rfl rfl (Nat.le_of_ble_eq_true rfl) ⟨Nat.le_refl _, Nat.le_refl _⟩ (fun x35 h36 => ?_)
        obtain ⟨h33, h34⟩ := h36
        have hz37 : M3 (a + 2) (4 + v1) = M (a + 2) (4 + v1) := (hk7.getA rfl rfl rfl)
        refine q_istore C [.ref (w.2.1 + a), zi v1, zi v2, zi x30, zi x35, .null, .null, .null, .null, .null, .null, .null] dX12_edit_49 (n := 51) rfl rfl rfl ?_
        refine q_iload_n C dX12_edit_51 (n := 52) rfl rfl ?_
        refine q_iload C dX12_edit_52 (n := 54) rfl rfl ?_
        have J_41 : ∀ (u38 : Int), (-2147483648 ≤ u38 ∧ u38 ≤ 2147483647) → (v2 = M (a + 2) (4 + v1) ∧ u38 = v2 + 1 ∨ v2 < M (a + 2) (4 + v1) ∧ u38 = M (a + 2) (4 + v1)) → zK w p e 3 0 0 s m args below meth c 12 T Po 66 [.ref (w.2.1 + a), zi v1, zi v2, .null, zi x35, .null, .null, .null, .null, .null, .null, .null] [zi u38] (T, M3, J4, R) := by
          intro u38 h39 h40
          refine q_istore C [.ref (w.2.1 + a), zi v1, zi v2, .null, zi x35, zi u38, .null, .null, .null, .null, .null, .null] dX12_edit_66 (n := 68) rfl rfl rfl ?_
          refine q_aload_n C dX12_edit_68 (n := 69) rfl rfl ?_
          have g42 := zI.at hI5 (zM6 h0)
          refine q_getI C dX12_edit_69 (n := 72) rfl f_X12_274 (zM0 h0) (v := M3 a 3) rfl ?_
          refine q_iconst C dX12_edit_72 (n := 73) rfl ?_
          refine q_iadd C dX12_edit_73 (n := 74) rfl (v := (M3 a 3) + 1) rfl ?_
          refine q_istore C [.ref (w.2.1 + a), zi v1, zi v2, .null, zi x35, zi u38, zi ((M3 a 3) + 1), .null, .null, .null, .null, .null] dX12_edit_74 (n := 76) rfl rfl rfl ?_
          refine q_iconst C dX12_edit_76 (n := 77) rfl ?_
          refine q_istore C [.ref (w.2.1 + a), zi v1, zi v2, .null, zi x35, zi u38, zi ((M3 a 3) + 1), zi 0, .null, .null, .null, .null] dX12_edit_77 (n := 79) rfl rfl rfl ?_
          have L_49 : ∀ n50 : Nat, ∀ (u43 : Int) (u44 : Int), (-2147483648 ≤ u43 ∧ u43 ≤ 2147483647) → (-2147483648 ≤ u44 ∧ u44 ≤ 2147483647) → (0 ≤ u44 ∧ u44 ≤ x35) → (u44 ≤ v2 ∧ u43 = M a 2 + 1 + zSum (M (a + 2)) (8 + 40 * v1) (u44 : Int).toNat + u44 ∨ v2 < u44 ∧ u43 = M a 2 + zSum (M (a + 2)) (8 + 40 * v1) (u44 : Int).toNat + u44 - M (a + 2) (8 + 40 * v1 + v2)) → (41 - u44 ≤ (n50 : Int)) → zK w p e 3 0 0 s m args below meth c 12 T Po 79 [.ref (w.2.1 + a), zi v1, zi v2, .null, zi x35, zi u38, zi u43, zi u44, .null, .null, .null, .null] [] (T, M3, J4, R) := by
            intro n50
            induction n50 with
            | zero =>
              intro u43 u44 h45 h46 h47 h48 hm52
              exfalso
              omega
            | succ n50 ih51 =>
              intro u43 u44 h45 h46 h47 h48 hm52
              refine q_iload C dX12_edit_79 (n := 81) rfl rfl ?_
              refine q_iload C dX12_edit_81 (n := 83) rfl rfl ?_
              refine q_icmp_ge C 112 dX12_edit_83 (n := 86) rfl rfl (by omega) (fun h53 => ?_) (fun h53 => ?_)
              · have gmo := zFi.mo p1 hI h0 (k := v1) (l := v2) (by omega) (by omega)
                have gq : zSum (M (a + 2)) (8 + 40 * v1) (u44 : Int).toNat = zSum (M (a + 2)) (8 + 40 * v1) (M (a + 2) (4 + v1)).toNat := by rw [show (u44 : Int) = M (a + 2) (4 + v1) by omega]
                refine q_iload C dX12_edit_112 (n := 114) rfl rfl ?_
                have hsm := zEA.sm (s := M (a + 2) (4 + v1)) (by omega) (by omega) (by omega) h48 gq
                have hft : 0 ≤ v1 ∧ v1 ≤ 3 ∧ M (a + 2) v1 = 1 := by have hfe := hfo.out; omega
                refine q_sipush C dX12_edit_114 (n := 117) rfl (x := 400) (by decide) ?_
                refine q_icmp_gt C 127 dX12_edit_117 (n := 120) rfl rfl (by omega) (fun h54 => ?_) (fun h54 => ?_)
                · refine q_bipush C dX12_edit_127 (n := 129) rfl (x := (-3)) (by decide) ?_
                  have hp55 : zFi M3 a := p1.cg (fun j => (hk7.getA rfl rfl rfl))
                  exact q_iret C dX12_edit_129 ⟨rfl, rfl⟩ (by rw [hPo]; exact ⟨(-3), M3, J4, rfl, rfl, hI5, hK8, hp55, by omega, (Or.inr ⟨⟨hft, by omega, by omega⟩, _, (zWb.cg h29 (fun j => (hk7.getA rfl rfl rfl)) (by omega) (by omega)), Or.inr ⟨by omega, zEA.noL hsm h40 (by omega) (by omega)⟩⟩), (fun h => absurd h (by omega)), (fun _ j => (hk7.getA rfl rfl rfl))⟩)
                · refine q_iload C dX12_edit_120 (n := 122) rfl rfl ?_
                  refine q_bipush C dX12_edit_122 (n := 124) rfl (x := 40) (by decide) ?_
                  refine q_icmp_le C 130 dX12_edit_124 (n := 127) rfl rfl (by omega) (fun h56 => ?_) (fun h56 => ?_)
                  · refine q_aload_n C dX12_edit_130 (n := 131) rfl rfl ?_
                    refine q_iload_n C dX12_edit_131 (n := 132) rfl rfl ?_
                    refine q_iload_n C dX12_edit_132 (n := 133) rfl rfl ?_
                    have hp57 : zFi M3 a := p1.cg (fun j => (hk7.getA rfl rfl rfl))
                    refine q_callVp C dX12_edit_133 (n := 136) rfl m_X12_321 v_yX12_beginOf (zM0 h0) ⟨by decide, rfl⟩ (c_X12_beginOf (w := w) (J := J4) hI5 hF h0 v1 v2 hp57 (by omega) (by have hz58 : M3 (a + 2) (4 + v1) = M (a + 2) (4 + v1) := (hk7.getA rfl rfl rfl); omega)) (Nat.le_of_ble_eq_true rfl) rfl rfl (Nat.le_of_ble_eq_true rfl) ⟨Nat.le_refl _, Nat.le_refl _⟩ (fun x62 h63 => ?_)
                    obtain ⟨h59, h60, h61⟩ := h63
                    have hz64 : M3 (a + 2) (4 + v1) = M (a + 2) (4 + v1) := (hk7.getA rfl rfl rfl)
                    have hz65 : M3 (a + 2) (8 + 40 * v1 + v2) = M (a + 2) (8 + 40 * v1 + v2) := (hk7.getA rfl rfl rfl)
                    have gM1 : M3 (a + 2) = M (a + 2) := funext (fun j => (hk7.getA rfl rfl rfl))
                    have gs1 : zSum (M3 (a + 2)) (8 + 40 * v1) v2.toNat = zSum (M (a + 2)) (8 + 40 * v1) v2.toNat := by rw [gM1]
                    refine q_istore C [.ref (w.2.1 + a), zi v1, zi v2, .null, zi x35, zi u38, zi u43, zi x62, .null, .null, .null, .null] dX12_edit_136 (n := 138) rfl rfl rfl ?_
                    refine q_aload_n C dX12_edit_138 (n := 139) rfl rfl ?_
                    refine q_iload_n C dX12_edit_139 (n := 140) rfl rfl ?_
                    refine q_iload C dX12_edit_140 (n := 142) rfl rfl ?_
                    refine q_callVp C dX12_edit_142 (n := 145) rfl m_X12_321 v_yX12_beginOf (zM0 h0) ⟨by decide, rfl⟩ (c_X12_beginOf (w := w) (J := J4) hI5 hF h0 v1 x35 hp57 (by omega) (by have hz66 : M3 (a + 2) (4 + v1) = M (a + 2) (4 + v1) := (hk7.getA rfl rfl rfl); omega)) (Nat.le_of_ble_eq_true rfl) rfl rfl (Nat.le_of_ble_eq_true rfl) ⟨Nat.le_refl _, Nat.le_refl _⟩ (fun x70 h71 => ?_)
                    obtain ⟨h67, h68, h69⟩ := h71
                    have hz72 : M3 (a + 2) (4 + v1) = M (a + 2) (4 + v1) := (hk7.getA rfl rfl rfl)
                    have hz73 : M3 (a + 2) (8 + 40 * v1 + x35) = M (a + 2) (8 + 40 * v1 + x35) := (hk7.getA rfl rfl rfl)
                    have gM2 : M3 (a + 2) = M (a + 2) := funext (fun j => (hk7.getA rfl rfl rfl))
                    have gs2 : zSum (M3 (a + 2)) (8 + 40 * v1) (x35 : Int).toNat = zSum (M (a + 2)) (8 + 40 * v1) (M (a + 2) (4 + v1)).toNat := by rw [gM2, show (x35 : Int) = M (a + 2) (4 + v1) by omega]
                    refine q_istore C [.ref (w.2.1 + a), zi v1, zi v2, .null, zi x35, zi u38, zi u43, zi x62, zi x70, .null, .null, .null] dX12_edit_145 (n := 147) rfl rfl rfl ?_
                    refine q_iload_n C dX12_edit_147 (n := 148) rfl rfl ?_
                    refine q_iload C dX12_edit_148 (n := 150) rfl rfl ?_
                    have J_77 : ∀ (u74 : Int), (-2147483648 ≤ u74 ∧ u74 ≤ 2147483647) → (v2 < M (a + 2) (4 + v1) ∧ u74 = M (a + 2) (8 + 40 * v1 + v2) ∨ v2 = M (a + 2) (4 + v1) ∧ u74 = 0) → zK w p e 3 0 0 s m args below meth c 12 T Po 163 [.ref (w.2.1 + a), zi v1, zi v2, .null, .null, zi u38, .null, zi x62, zi x70, .null, .null, .null] [zi u74] (T, M3, J4, R) := by
                      intro u74 h75 h76
                      refine q_istore C [.ref (w.2.1 + a), zi v1, zi v2, .null, .null, zi u38, .null, zi x62, zi x70, zi u74, .null, .null] dX12_edit_163 (n := 165) rfl rfl rfl ?_
                      refine q_aload_n C dX12_edit_165 (n := 166) rfl rfl ?_
                      refine q_getI C dX12_edit_166 (n := 169) rfl f_X12_274 (zM0 h0) (v := M3 a 3) rfl ?_
                      refine q_iload C dX12_edit_169 (n := 171) rfl rfl ?_
                      refine q_isub C dX12_edit_171 (n := 172) rfl (v := (M3 a 3) - u74) rfl ?_
                      refine q_istore C [.ref (w.2.1 + a), zi v1, zi v2, .null, .null, zi u38, .null, zi x62, zi x70, zi u74, zi ((M3 a 3) - u74), .null] dX12_edit_172 (n := 174) rfl rfl rfl ?_
                      refine q_iload C dX12_edit_174 (n := 176) rfl rfl ?_
                      have J_84 : ∀ (M79 : zMm) (J80 : zJm), zI G M79 → zMd a [2, 4] [0, 2, 3, 9] [] M M79 → zMd a [4] [] [] M3 M79 → zK w p e 3 0 0 s m args below meth c 12 T Po 258 [.ref (w.2.1 + a), zi v1, zi v2, .null, .null, zi u38, .null, zi x62, .null, .null, .null, .null] [] (T, M79, J80, R) := by
                        intro M79 J80 hI81 hK82 hK83
                        refine q_iconst C dX12_edit_258 (n := 259) rfl ?_
                        refine q_istore C [.ref (w.2.1 + a), zi v1, zi v2, .null, .null, zi u38, .null, zi x62, .null, .null, .null, zi 0] dX12_edit_259 (n := 261) rfl rfl rfl ?_
                        have L_94 : ∀ n95 : Nat, ∀ (u85 : Int) (M87 : zMm) (J88 : zJm), zI G M87 → zMd a [2, 4] [0, 2, 3, 9] [] M M87 → zMd a [4] [] [] M79 M87 → (-2147483648 ≤ u85 ∧ u85 ≤ 2147483647) → (0 ≤ u85 ∧ u85 ≤ M a 2) → (441 - u85 ≤ (n95 : Int)) → zK w p e 3 0 0 s m args below meth c 12 T Po 261 [.ref (w.2.1 + a), zi v1, zi v2, .null, .null, zi u38, .null, zi x62, .null, .null, .null, zi u85] [] (T, M87, J88, R) := by
                          intro n95
                          induction n95 with
                          | zero =>
                            intro u85 M87 J88 hI89 hK90 hK91 h92 h93 hm97
                            exfalso
                            omega
                          | succ n95 ih96 =>
                            intro u85 M87 J88 hI89 hK90 hK91 h92 h93 hm97
                            refine q_iload C dX12_edit_261 (n := 263) rfl rfl ?_
                            refine q_aload_n C dX12_edit_263 (n := 264) rfl rfl ?_
                            refine q_getI C dX12_edit_264 (n := 267) rfl f_X12_274 (zM0 h0) (v := M3 a 3) ((hK91.getS rfl rfl).trans (hK83.getS rfl rfl)) ?_
                            refine q_icmp_ge C 293 dX12_edit_267 (n := 270) rfl rfl (by omega) (fun h98 => ?_) (fun h98 => ?_)
                            · refine q_aload_n C dX12_edit_293 (n := 294) rfl rfl ?_
                              refine q_getR C dX12_edit_294 (n := 297) rfl f_X12_17 (zM0 h0) (hF _ _ _ (zM7 h0)) ?_
                              refine q_bipush C dX12_edit_297 (n := 299) rfl (x := 8) (by decide) ?_
                              refine q_bipush C dX12_edit_299 (n := 301) rfl (x := 40) (by decide) ?_
                              refine q_iload_n C dX12_edit_301 (n := 302) rfl rfl ?_
                              refine q_imul C dX12_edit_302 (n := 303) rfl (v := 40 * v1) rfl ?_
                              refine q_iadd C dX12_edit_303 (n := 304) rfl (v := 8 + (40 * v1)) rfl ?_
                              refine q_iload_n C dX12_edit_304 (n := 305) rfl rfl ?_
                              refine q_iadd C dX12_edit_305 (n := 306) rfl (v := (8 + (40 * v1)) + v2) rfl ?_
                              refine q_aload_n C dX12_edit_306 (n := 307) rfl rfl ?_
                              refine q_getI C dX12_edit_307 (n := 310) rfl f_X12_274 (zM0 h0) (v := M3 a 3) ((hK91.getS rfl rfl).trans (hK83.getS rfl rfl)) ?_
                              refine q_iast C dX12_edit_310 (n := 311) rfl (zM8 h0) (by omega)  (fun M99 e100 => ?_)
                              have hp101 : zFi M87 a := hp57.cg (fun j => ((hK91.getA rfl rfl rfl).trans (hK83.getA rfl rfl rfl)))
                              have hI102 : zI G M99 := hI89.put e100 (((zM9 h0) ((8 + (40 * v1)) + v2)).trans (zfG_8 (by omega))) rfl (by omega)
                              have hK103 := hK90.upA e100 rfl
                              refine q_aload_n C dX12_edit_311 (n := 312) rfl rfl ?_
                              refine q_getR C dX12_edit_312 (n := 315) rfl f_X12_17 (zM0 h0) (hF _ _ _ (zM7 h0)) ?_
                              refine q_iconst C dX12_edit_315 (n := 316) rfl ?_
                              refine q_iload_n C dX12_edit_316 (n := 317) rfl rfl ?_
                              refine q_iadd C dX12_edit_317 (n := 318) rfl (v := 4 + v1) rfl ?_
                              refine q_iload C dX12_edit_318 (n := 320) rfl rfl ?_
                              refine q_iast C dX12_edit_320 (n := 321) rfl (zM8 h0) (by omega)  (fun M105 e106 => ?_)
                              have hI107 : zI G M105 := hI102.put e106 (((zM9 h0) (4 + v1)).trans (zfG_4 (by omega))) rfl (by omega)
                              have hK108 := hK103.upA e106 rfl
                              have hp109 : zFi M105 a := zEd_fi (M := M) (k := v1) (l := v2) (fun j => ((hK91.getA rfl rfl rfl).trans ((hK83.getA rfl rfl rfl).trans (hk7.getA rfl rfl rfl)))) e100 e106 p1 hI h0 (by omega) (by omega) (by omega)
                              refine q_aload_n C dX12_edit_321 (n := 322) rfl rfl ?_
                              refine q_iconst C dX12_edit_322 (n := 323) rfl ?_
                              refine q_putZ C dX12_edit_323 (n := 326) rfl f_X12_300 (zM0 h0) ⟨rfl, rfl⟩ (by omega) (fun M110 (e111 : M110 = zup M105 a 9 0) => ?_)
                              have hI112 : zI G M110 := hI107.put e111 (zM22 h0) rfl (by omega)
                              have hK113 := hK108.upS e111 rfl
                              refine q_iload C dX12_edit_326 (n := 328) rfl rfl ?_
                              have hp114 : zFi M110 a := hp109.cg (fun j => (zup_p e111 (by omega) _))
                              exact q_iret C dX12_edit_328 ⟨rfl, rfl⟩ (by rw [hPo]; exact ⟨u38, M110, J88, rfl, rfl, hI112, hK113, hp114, by have hz115 : M110 a 2 = M3 a 2 := ((zup_n e111 (by omega)).trans ((zup_p e106 (by omega) _).trans ((zup_p e100 (by omega) _).trans ((hK91.getS rfl rfl).trans (hK83.getS rfl rfl))))); omega, (Or.inr ⟨⟨hft, by omega, by omega⟩, _, (zWb.cg h29 (fun j => (hk7.getA rfl rfl rfl)) (by omega) (by omega)), Or.inr ⟨by omega, zEA.okL hsm h40 (by omega) (by omega)⟩⟩), (fun _ => zR2.of (fun j => ((hK91.getA rfl rfl rfl).trans ((hK83.getA rfl rfl rfl).trans (hk7.getA rfl rfl rfl)))) e100 e106 (fun j => (zup_p e111 (by omega) _)) (by omega) (by omega)), (fun h => absurd h (by omega))⟩)
                            · refine q_aload_n C dX12_edit_270 (n := 271) rfl rfl ?_
                              refine q_getR C dX12_edit_271 (n := 274) rfl f_X12_24 (zM0 h0) (hF _ _ _ (zM13 h0)) ?_
                              refine q_iload C dX12_edit_274 (n := 276) rfl rfl ?_
                              refine q_iload C dX12_edit_276 (n := 278) rfl rfl ?_
                              refine q_iadd C dX12_edit_278 (n := 279) rfl (v := x62 + u85) rfl ?_
                              refine q_aload_n C dX12_edit_279 (n := 280) rfl rfl ?_
                              refine q_getR C dX12_edit_280 (n := 283) rfl f_X12_13 (zM0 h0) (hF _ _ _ (zM2 h0)) ?_
                              refine q_iload C dX12_edit_283 (n := 285) rfl rfl ?_
                              have g116 := zI.at hI ((zM4 h0) u85)
                              refine q_bald C dX12_edit_285 (n := 286) rfl (zM3 h0) (by omega) (v := M (a + 1) u85) ((hK91.getA rfl rfl rfl).trans ((hK83.getA rfl rfl rfl).trans (hk7.getA rfl rfl rfl))) ?_
                              refine q_bast C dX12_edit_286 (n := 287) rfl (zM14 h0) (by omega) (by omega) (fun M117 e118 => ?_)
                              have hI119 : zI G M117 := hI89.put e118 ((zM15 h0) (x62 + u85)) rfl (by omega)
                              have hK120 := hK90.upA e118 rfl
                              have hK121 := hK91.upA e118 rfl
                              refine q_iinc C [.ref (w.2.1 + a), zi v1, zi v2, .null, .null, zi u38, .null, zi x62, .null, .null, .null, zi (u85 + 1)] dX12_edit_287 (n := 290) rfl rfl rfl rfl ?_
                              refine q_goto C 261 dX12_edit_290 rfl ?_
                              exact zK.weak (ih96 (u85 + 1) M117 J88 hI119 hK120 hK121 (by omega) (by omega) (by omega)) (zwk_c (zwk_c (zwk_c (zwk_n (zwk_n (zwk_c (zwk_n (zwk_c (zwk_n (zwk_n (zwk_n (zwk_c zwk_e))))))))))))
                        exact zK.weak (L_94 _ 0 M79 J80 hI81 hK82 (zMd.rf : zMd a [4] [] [] M79 M79) (by omega) (by omega) (Int.self_le_toNat _)) (zwk_c (zwk_c (zwk_c (zwk_n (zwk_n (zwk_c (zwk_n (zwk_c (zwk_n (zwk_n (zwk_n (zwk_c zwk_e))))))))))))
                      refine q_if_le C 221 dX12_edit_176 (n := 179) rfl rfl (by omega) (fun h122 => ?_) (fun h122 => ?_)
                      · refine q_iload C dX12_edit_221 (n := 223) rfl rfl ?_
                        refine q_iload C dX12_edit_223 (n := 225) rfl rfl ?_
                        refine q_iadd C dX12_edit_225 (n := 226) rfl (v := x62 + u74) rfl ?_
                        refine q_istore C [.ref (w.2.1 + a), zi v1, zi v2, .null, .null, zi u38, .null, zi x62, zi x70, zi u74, zi ((M3 a 3) - u74), zi (x62 + u74)] dX12_edit_226 (n := 228) rfl rfl rfl ?_
                        have L_133 : ∀ n134 : Nat, ∀ (u123 : Int) (M125 : zMm) (J126 : zJm), zI G M125 → zMd a [2, 4] [0, 2, 3, 9] [] M M125 → zMd a [4] [] [] M3 M125 → zMd a [4] [] [] M3 M125 → (-2147483648 ≤ u123 ∧ u123 ≤ 2147483647) → (x62 + u74 ≤ u123 ∧ u123 ≤ x70) → (1701 - u123 ≤ (n134 : Int)) → zK w p e 3 0 0 s m args below meth c 12 T Po 228 [.ref (w.2.1 + a), zi v1, zi v2, .null, .null, zi u38, .null, zi x62, zi x70, .null, zi ((M3 a 3) - u74), zi u123] [] (T, M125, J126, R) := by
                          intro n134
                          induction n134 with
                          | zero =>
                            intro u123 M125 J126 hI127 hK128 hK129 hK130 h131 h132 hm136
                            exfalso
                            omega
                          | succ n134 ih135 =>
                            intro u123 M125 J126 hI127 hK128 hK129 hK130 h131 h132 hm136
                            refine q_iload C dX12_edit_228 (n := 230) rfl rfl ?_
                            refine q_iload C dX12_edit_230 (n := 232) rfl rfl ?_
                            refine q_icmp_ge C 258 dX12_edit_232 (n := 235) rfl rfl (by omega) (fun h137 => ?_) (fun h137 => ?_)
                            · exact zK.weak (J_84 M125 J126 hI127 hK128 hK129) (zwk_c (zwk_c (zwk_c (zwk_n (zwk_n (zwk_c (zwk_n (zwk_c (zwk_n (zwk_n (zwk_n (zwk_n zwk_e))))))))))))
                            · refine q_aload_n C dX12_edit_235 (n := 236) rfl rfl ?_
                              refine q_getR C dX12_edit_236 (n := 239) rfl f_X12_24 (zM0 h0) (hF _ _ _ (zM13 h0)) ?_
                              refine q_iload C dX12_edit_239 (n := 241) rfl rfl ?_
                              refine q_iload C dX12_edit_241 (n := 243) rfl rfl ?_
                              refine q_iadd C dX12_edit_243 (n := 244) rfl (v := u123 + ((M3 a 3) - u74)) rfl ?_
                              refine q_aload_n C dX12_edit_244 (n := 245) rfl rfl ?_
                              refine q_getR C dX12_edit_245 (n := 248) rfl f_X12_24 (zM0 h0) (hF _ _ _ (zM13 h0)) ?_
                              refine q_iload C dX12_edit_248 (n := 250) rfl rfl ?_
                              have g138 := zI.at hI127 ((zM15 h0) u123)
                              refine q_bald C dX12_edit_250 (n := 251) rfl (zM14 h0) (by omega) (v := M125 (a + 4) u123) rfl ?_
                              refine q_bast C dX12_edit_251 (n := 252) rfl (zM14 h0) (by omega) (by omega) (fun M139 e140 => ?_)
                              have hI141 : zI G M139 := hI127.put e140 ((zM15 h0) (u123 + ((M3 a 3) - u74))) rfl (by omega)
                              have hK142 := hK128.upA e140 rfl
                              have hK143 := hK129.upA e140 rfl
                              have hK144 := hK130.upA e140 rfl
                              refine q_iinc C [.ref (w.2.1 + a), zi v1, zi v2, .null, .null, zi u38, .null, zi x62, zi x70, .null, zi ((M3 a 3) - u74), zi (u123 + 1)] dX12_edit_252 (n := 255) rfl rfl rfl rfl ?_
                              refine q_goto C 228 dX12_edit_255 rfl ?_
                              exact zK.weak (ih135 (u123 + 1) M139 J126 hI141 hK142 hK143 hK144 (by omega) (by omega) (by omega)) (zwk_c (zwk_c (zwk_c (zwk_n (zwk_n (zwk_c (zwk_n (zwk_c (zwk_c (zwk_n (zwk_c (zwk_c zwk_e))))))))))))
                        exact zK.weak (L_133 _ (x62 + u74) M3 J4 hI5 hK8 (zMd.rf : zMd a [4] [] [] M3 M3) (zMd.rf : zMd a [4] [] [] M3 M3) (by omega) (by omega) (Int.self_le_toNat _)) (zwk_c (zwk_c (zwk_c (zwk_n (zwk_n (zwk_c (zwk_n (zwk_c (zwk_c (zwk_n (zwk_c (zwk_c zwk_e))))))))))))
                      · refine q_iload C dX12_edit_179 (n := 181) rfl rfl ?_
                        refine q_iconst C dX12_edit_181 (n := 182) rfl ?_
                        refine q_isub C dX12_edit_182 (n := 183) rfl (v := x70 - 1) rfl ?_
                        refine q_istore C [.ref (w.2.1 + a), zi v1, zi v2, .null, .null, zi u38, .null, zi x62, zi x70, zi u74, zi ((M3 a 3) - u74), zi (x70 - 1)] dX12_edit_183 (n := 185) rfl rfl rfl ?_
                        have L_155 : ∀ n156 : Nat, ∀ (u145 : Int) (M147 : zMm) (J148 : zJm), zI G M147 → zMd a [2, 4] [0, 2, 3, 9] [] M M147 → zMd a [4] [] [] M3 M147 → zMd a [4] [] [] M3 M147 → (-2147483648 ≤ u145 ∧ u145 ≤ 2147483647) → (x62 + u74 - 1 ≤ u145 ∧ u145 ≤ x70 - 1) → (u145 + 2 ≤ (n156 : Int)) → zK w p e 3 0 0 s m args below meth c 12 T Po 185 [.ref (w.2.1 + a), zi v1, zi v2, .null, .null, zi u38, .null, zi x62, .null, zi u74, zi ((M3 a 3) - u74), zi u145] [] (T, M147, J148, R) := by
                          intro n156
                          induction n156 with
                          | zero =>
                            intro u145 M147 J148 hI149 hK150 hK151 hK152 h153 h154 hm158
                            exfalso
                            omega
                          | succ n156 ih157 =>
                            intro u145 M147 J148 hI149 hK150 hK151 hK152 h153 h154 hm158
                            refine q_iload C dX12_edit_185 (n := 187) rfl rfl ?_
                            refine q_iload C dX12_edit_187 (n := 189) rfl rfl ?_
                            refine q_iload C dX12_edit_189 (n := 191) rfl rfl ?_
                            refine q_iadd C dX12_edit_191 (n := 192) rfl (v := x62 + u74) rfl ?_
                            refine q_icmp_lt C 218 dX12_edit_192 (n := 195) rfl rfl (by omega) (fun h159 => ?_) (fun h159 => ?_)
                            · refine q_goto C 258 dX12_edit_218 rfl ?_
                              exact zK.weak (J_84 M147 J148 hI149 hK150 hK151) (zwk_c (zwk_c (zwk_c (zwk_n (zwk_n (zwk_c (zwk_n (zwk_c (zwk_n (zwk_n (zwk_n (zwk_n zwk_e))))))))))))
                            · refine q_aload_n C dX12_edit_195 (n := 196) rfl rfl ?_
                              refine q_getR C dX12_edit_196 (n := 199) rfl f_X12_24 (zM0 h0) (hF _ _ _ (zM13 h0)) ?_
                              refine q_iload C dX12_edit_199 (n := 201) rfl rfl ?_
                              refine q_iload C dX12_edit_201 (n := 203) rfl rfl ?_
                              refine q_iadd C dX12_edit_203 (n := 204) rfl (v := u145 + ((M3 a 3) - u74)) rfl ?_
                              refine q_aload_n C dX12_edit_204 (n := 205) rfl rfl ?_
                              refine q_getR C dX12_edit_205 (n := 208) rfl f_X12_24 (zM0 h0) (hF _ _ _ (zM13 h0)) ?_
                              refine q_iload C dX12_edit_208 (n := 210) rfl rfl ?_
                              have g160 := zI.at hI149 ((zM15 h0) u145)
                              refine q_bald C dX12_edit_210 (n := 211) rfl (zM14 h0) (by omega) (v := M147 (a + 4) u145) rfl ?_
                              refine q_bast C dX12_edit_211 (n := 212) rfl (zM14 h0) (by omega) (by omega) (fun M161 e162 => ?_)
                              have hI163 : zI G M161 := hI149.put e162 ((zM15 h0) (u145 + ((M3 a 3) - u74))) rfl (by omega)
                              have hK164 := hK150.upA e162 rfl
                              have hK165 := hK151.upA e162 rfl
                              have hK166 := hK152.upA e162 rfl
                              refine q_iinc C [.ref (w.2.1 + a), zi v1, zi v2, .null, .null, zi u38, .null, zi x62, .null, zi u74, zi ((M3 a 3) - u74), zi (u145 + (-1))] dX12_edit_212 (n := 215) rfl rfl rfl rfl ?_
                              refine q_goto C 185 dX12_edit_215 rfl ?_
                              exact zK.weak (ih157 (u145 + (-1)) M161 J148 hI163 hK164 hK165 hK166 (by omega) (by omega) (by omega)) (zwk_c (zwk_c (zwk_c (zwk_n (zwk_n (zwk_c (zwk_n (zwk_c (zwk_n (zwk_c (zwk_c (zwk_c zwk_e))))))))))))
                        exact zK.weak (L_155 _ (x70 - 1) M3 J4 hI5 hK8 (zMd.rf : zMd a [4] [] [] M3 M3) (zMd.rf : zMd a [4] [] [] M3 M3) (by omega) (by omega) (Int.self_le_toNat _)) (zwk_c (zwk_c (zwk_c (zwk_n (zwk_n (zwk_c (zwk_n (zwk_c (zwk_n (zwk_c (zwk_c (zwk_c zwk_e))))))))))))
                    refine q_icmp_ge C 162 dX12_edit_150 (n := 153) rfl rfl (by omega) (fun h167 => ?_) (fun h167 => ?_)
                    · refine q_iconst C dX12_edit_162 (n := 163) rfl ?_
                      exact zK.weak (J_77 0 (by omega) (by omega)) (zwk_c (zwk_c (zwk_c (zwk_n (zwk_n (zwk_c (zwk_n (zwk_c (zwk_c (zwk_n (zwk_n (zwk_n zwk_e))))))))))))
                    · refine q_aload_n C dX12_edit_153 (n := 154) rfl rfl ?_
                      refine q_iload_n C dX12_edit_154 (n := 155) rfl rfl ?_
                      refine q_iload_n C dX12_edit_155 (n := 156) rfl rfl ?_
                      refine q_callVp C dX12_edit_156 (n := 159) rfl m_X12_289 v_yX12_lengthOf (zM0 h0) ⟨by decide, rfl⟩ (c_X12_lengthOf (w := w) (J := J4) hI5 hF h0 v1 v2 (by omega) (by omega)) (Nat.le_of_ble_eq_true rfl) rfl rfl (Nat.le_of_ble_eq_true rfl) ⟨Nat.le_refl _, Nat.le_refl _⟩ (fun x170 h171 => ?_)
                      obtain ⟨h168, h169⟩ := h171
                      have hz172 : M3 (a + 2) (8 + 40 * v1 + v2) = M (a + 2) (8 + 40 * v1 + v2) := (hk7.getA rfl rfl rfl)
                      refine q_goto C 163 dX12_edit_159 rfl ?_
                      exact zK.weak (J_77 x170 (by omega) (by omega)) (zwk_c (zwk_c (zwk_c (zwk_n (zwk_n (zwk_c (zwk_n (zwk_c (zwk_c (zwk_n (zwk_n (zwk_n zwk_e))))))))))))
                  · refine q_bipush C dX12_edit_127 (n := 129) rfl (x := (-3)) (by decide) ?_
                    have hp173 : zFi M3 a := p1.cg (fun j => (hk7.getA rfl rfl rfl))
                    exact q_iret C dX12_edit_129 ⟨rfl, rfl⟩ (by rw [hPo]; exact ⟨(-3), M3, J4, rfl, rfl, hI5, hK8, hp173, by omega, (Or.inr ⟨⟨hft, by omega, by omega⟩, _, (zWb.cg h29 (fun j => (hk7.getA rfl rfl rfl)) (by omega) (by omega)), Or.inr ⟨by omega, zEA.noL hsm h40 (by omega) (by omega)⟩⟩), (fun h => absurd h (by omega)), (fun _ j => (hk7.getA rfl rfl rfl))⟩)
              · have gz1 := zSum_s (g := M (a + 2)) (b := 8 + 40 * v1) (i := u44) (by omega)
                have gle := zFi.le p1 hI h0 (k := v1) (l := u44) (by omega) (by omega)
                have gl : ¬ (u44 : Int) = v2 ∨ M (a + 2) (8 + 40 * v1 + u44) = M (a + 2) (8 + 40 * v1 + v2) := (Decidable.em ((u44 : Int) = v2)).symm.imp id (fun h => by rw [h])
                refine q_iload C dX12_edit_86 (n := 88) rfl rfl ?_
                refine q_iload_n C dX12_edit_88 (n := 89) rfl rfl ?_
                have J_177 : ∀ (u174 : Int), (-2147483648 ≤ u174 ∧ u174 ≤ 2147483647) → ((u44 + 1) ≤ v2 ∧ u174 = M a 2 + 1 + zSum (M (a + 2)) (8 + 40 * v1) ((u44 + 1) : Int).toNat + (u44 + 1) ∨ v2 < (u44 + 1) ∧ u174 = M a 2 + zSum (M (a + 2)) (8 + 40 * v1) ((u44 + 1) : Int).toNat + (u44 + 1) - M (a + 2) (8 + 40 * v1 + v2)) → zK w p e 3 0 0 s m args below meth c 12 T Po 106 [.ref (w.2.1 + a), zi v1, zi v2, .null, zi x35, zi u38, zi u174, zi u44, .null, .null, .null, .null] [] (T, M3, J4, R) := by
                  intro u174 h175 h176
                  refine q_iinc C [.ref (w.2.1 + a), zi v1, zi v2, .null, zi x35, zi u38, zi u174, zi (u44 + 1), .null, .null, .null, .null] dX12_edit_106 (n := 109) rfl rfl rfl rfl ?_
                  refine q_goto C 79 dX12_edit_109 rfl ?_
                  exact zK.weak (ih51 u174 (u44 + 1) (by omega) (by omega) (by omega) (by omega) (by omega)) (zwk_c (zwk_c (zwk_c (zwk_n (zwk_c (zwk_c (zwk_c (zwk_c (zwk_n (zwk_n (zwk_n (zwk_n zwk_e))))))))))))
                refine q_icmp_eq C 106 dX12_edit_89 (n := 92) rfl rfl (by omega) (fun h178 => ?_) (fun h178 => ?_)
                · exact zK.weak (J_177 u43 (by omega) (by omega)) (zwk_c (zwk_c (zwk_c (zwk_n (zwk_c (zwk_c (zwk_c (zwk_c (zwk_n (zwk_n (zwk_n (zwk_n zwk_e))))))))))))
                · refine q_iload C dX12_edit_92 (n := 94) rfl rfl ?_
                  refine q_aload_n C dX12_edit_94 (n := 95) rfl rfl ?_
                  refine q_iload_n C dX12_edit_95 (n := 96) rfl rfl ?_
                  refine q_iload C dX12_edit_96 (n := 98) rfl rfl ?_
                  refine q_callVp C dX12_edit_98 (n := 101) rfl m_X12_289 v_yX12_lengthOf (zM0 h0) ⟨by decide, rfl⟩ (c_X12_lengthOf (w := w) (J := J4) hI5 hF h0 v1 u44 (by omega) (by omega)) (Nat.le_of_ble_eq_true rfl) rfl rfl (Nat.le_of_ble_eq_true rfl) ⟨Nat.le_refl _, Nat.le_refl _⟩ (fun x181 h182 => ?_)
                  obtain ⟨h179, h180⟩ := h182
                  have hz183 : M3 (a + 2) (8 + 40 * v1 + u44) = M (a + 2) (8 + 40 * v1 + u44) := (hk7.getA rfl rfl rfl)
                  refine q_iconst C dX12_edit_101 (n := 102) rfl ?_
                  refine q_iadd C dX12_edit_102 (n := 103) rfl (v := x181 + 1) rfl ?_
                  refine q_iadd C dX12_edit_103 (n := 104) rfl (v := u43 + (x181 + 1)) rfl ?_
                  refine q_istore C [.ref (w.2.1 + a), zi v1, zi v2, .null, zi x35, zi u38, zi (u43 + (x181 + 1)), zi u44, .null, .null, .null, .null] dX12_edit_104 (n := 106) rfl rfl rfl ?_
                  exact zK.weak (J_177 (u43 + (x181 + 1)) (by omega) (by omega)) (zwk_c (zwk_c (zwk_c (zwk_n (zwk_c (zwk_c (zwk_c (zwk_c (zwk_n (zwk_n (zwk_n (zwk_n zwk_e))))))))))))
          exact zK.weak (L_49 _ ((M3 a 3) + 1) 0 (by omega) (by omega) (by omega) (by omega) (Int.self_le_toNat _)) (zwk_c (zwk_c (zwk_c (zwk_n (zwk_c (zwk_c (zwk_c (zwk_c (zwk_n (zwk_n (zwk_n (zwk_n zwk_e))))))))))))
        refine q_icmp_ne C 64 dX12_edit_54 (n := 57) rfl rfl (by omega) (fun h184 => ?_) (fun h184 => ?_)
        · refine q_iload C dX12_edit_64 (n := 66) rfl rfl ?_
          exact zK.weak (J_41 x35 (by omega) (by omega)) (zwk_c (zwk_c (zwk_c (zwk_n (zwk_c (zwk_n (zwk_n (zwk_n (zwk_n (zwk_n (zwk_n (zwk_n zwk_e))))))))))))
        · refine q_iload C dX12_edit_57 (n := 59) rfl rfl ?_
          refine q_iconst C dX12_edit_59 (n := 60) rfl ?_
          refine q_iadd C dX12_edit_60 (n := 61) rfl (v := x35 + 1) rfl ?_
          refine q_goto C 66 dX12_edit_61 rfl ?_
          exact zK.weak (J_41 (x35 + 1) (by omega) (by omega)) (zwk_c (zwk_c (zwk_c (zwk_n (zwk_c (zwk_n (zwk_n (zwk_n (zwk_n (zwk_n (zwk_n (zwk_n zwk_e))))))))))))
      · refine q_sipush C dX12_edit_38 (n := 41) rfl (x := (-1000)) (by decide) ?_
        refine q_iload_n C dX12_edit_41 (n := 42) rfl rfl ?_
        refine q_isub C dX12_edit_42 (n := 43) rfl (v := (-1000) - x30) rfl ?_
        have hp185 : zFi M3 a := p1.cg (fun j => (hk7.getA rfl rfl rfl))
        have hfe := hfo.out
        exact q_iret C dX12_edit_43 ⟨rfl, rfl⟩ (by rw [hPo]; exact ⟨(-1000) - x30, M3, J4, rfl, rfl, hI5, hK8, hp185, by omega, (Or.inr ⟨⟨by omega, by omega, by omega⟩, _, (zWb.cg h29 (fun j => (hk7.getA rfl rfl rfl)) (by omega) (by omega)), Or.inl ⟨by omega, rfl⟩⟩), (fun h => absurd h (by omega)), (fun _ j => (hk7.getA rfl rfl rfl))⟩)
    · refine q_bipush C dX12_edit_25 (n := 27) rfl (x := (-2)) (by decide) ?_
      have hp186 : zFi M3 a := p1.cg (fun j => (hk7.getA rfl rfl rfl))
      have hfe := hfo.out
      exact q_iret C dX12_edit_27 ⟨rfl, rfl⟩ (by rw [hPo]; exact ⟨(-2), M3, J4, rfl, rfl, hI5, hK8, hp186, by omega, (Or.inl ⟨by omega, rfl⟩), (fun h => absurd h (by omega)), (fun _ j => (hk7.getA rfl rfl rfl))⟩)
theorem c_X12_drop_v {w : zWp} {T : zTl} {M : zMm} {J : zJm} {R : zRm'} {G : zGt} {F : zRm'} {a : Nat} (hI : zI G M) (hF : zF F R) (h0 : zModel T F G a) (v1 : Int) (v2 : Int) (p1 : zFi M a) (p2 : -2147483648 ≤ v1 ∧ v1 ≤ 2147483647) (p3 : -2147483648 ≤ v2 ∧ v2 ≤ 2147483647) : zCt w 4 0 0 yX12_drop cX12_drop 7 (some .int) [.ref (w.2.1 + a), zi v1, zi v2] (T, M, J, R) (zPi T R G (fun x M2 => (zMd a [2, 4] [0, 9] [] M M2) ∧ (zFi M2 a) ∧ (¬ ((0 ≤ v1 ∧ v1 ≤ 3 ∧ M (a + 2) v1 = 1) ∧ 0 ≤ v2 ∧ v2 < M (a + 2) (4 + v1)) ∧ x = -1 ∧ (∀ j, M2 (a + 2) j = M (a + 2) j) ∨ ((0 ≤ v1 ∧ v1 ≤ 3 ∧ M (a + 2) v1 = 1) ∧ 0 ≤ v2 ∧ v2 < M (a + 2) (4 + v1)) ∧ x = M (a + 2) (4 + v1) - 1 ∧ zDp M M2 a v1 v2 (M (a + 2) (4 + v1))))) := by
  refine zCt.of rfl (Nat.le_of_ble_eq_true rfl) ?_
  intro p e s m args below meth c C
  obtain ⟨Po, hPo⟩ : ∃ Po, Po = zPi T R G (fun x M2 => (zMd a [2, 4] [0, 9] [] M M2) ∧ (zFi M2 a) ∧ (¬ ((0 ≤ v1 ∧ v1 ≤ 3 ∧ M (a + 2) v1 = 1) ∧ 0 ≤ v2 ∧ v2 < M (a + 2) (4 + v1)) ∧ x = -1 ∧ (∀ j, M2 (a + 2) j = M (a + 2) j) ∨ ((0 ≤ v1 ∧ v1 ≤ 3 ∧ M (a + 2) v1 = 1) ∧ 0 ≤ v2 ∧ v2 < M (a + 2) (4 + v1)) ∧ x = M (a + 2) (4 + v1) - 1 ∧ zDp M M2 a v1 v2 (M (a + 2) (4 + v1)))) := ⟨_, rfl⟩
  rw [← hPo]
  have hK0 : zMd a [2, 4] [0, 9] [] M M := zMd.rf
  show zK w p e 4 0 0 s m args below meth c 7 T Po 0 [.ref (w.2.1 + a), zi v1, zi v2, .null, .null, .null, .null] [] (T, M, J, R)
  refine q_aload_n C dX12_drop_0 (n := 1) rfl rfl ?_
  refine q_iconst C dX12_drop_1 (n := 2) rfl ?_
  refine q_putI C dX12_drop_2 (n := 5) rfl f_X12_1 (zM0 h0) ⟨rfl, rfl⟩ (fun M1 (e2 : M1 = zup M a 0 0) => ?_)
  have hI3 : zI G M1 := hI.put e2 (zM1 h0) rfl (by omega)
  have hK4 := hK0.upS e2 rfl
  refine q_aload_n C dX12_drop_5 (n := 6) rfl rfl ?_
  refine q_iload_n C dX12_drop_6 (n := 7) rfl rfl ?_
  refine q_iload_n C dX12_drop_7 (n := 8) rfl rfl ?_
  refine q_callVp C dX12_drop_8 (n := 11) rfl m_X12_324 v_yX12_isLine (zM0 h0) ⟨by decide, rfl⟩ (c_X12_isLine_e (w := w) (J := J) hI3 hF h0 v1 v2 (by omega) (by omega)) (Nat.le_of_ble_eq_true rfl) rfl rfl (Nat.le_of_ble_eq_true rfl) ⟨Nat.le_refl _, Nat.le_refl _⟩ (fun x8 h9 => ?_)
  obtain ⟨h5, h6, h7⟩ := h9
  have hz10 : M1 (a + 2) (4 + v1) = M (a + 2) (4 + v1) := (zup_p e2 (by omega) _)
  have hz11 : M1 (a + 2) v1 = M (a + 2) v1 := (zup_p e2 (by omega) _)
  refine q_if_ne C 16 dX12_drop_11 (n := 14) rfl rfl (by omega) (fun h12 => ?_) (fun h12 => ?_)
  · refine q_aload_n C dX12_drop_16 (n := 17) rfl rfl ?_
    refine q_iload_n C dX12_drop_17 (n := 18) rfl rfl ?_
    refine q_iload_n C dX12_drop_18 (n := 19) rfl rfl ?_
    have hp13 : zFi M1 a := p1.cg (fun j => (zup_p e2 (by omega) _))
    refine q_callVp C dX12_drop_19 (n := 22) rfl m_X12_321 v_yX12_beginOf (zM0 h0) ⟨by decide, rfl⟩ (c_X12_beginOf (w := w) (J := J) hI3 hF h0 v1 v2 hp13 (by omega) (by have hz14 : M1 (a + 2) (4 + v1) = M (a + 2) (4 + v1) := (zup_p e2 (by omega) _); omega)) (Nat.le_of_ble_eq_true rfl) rfl rfl (Nat.le_of_ble_eq_true rfl) ⟨Nat.le_refl _, Nat.le_refl _⟩ (fun x18 h19 => ?_)
    obtain ⟨h15, h16, h17⟩ := h19
    have hz20 : M1 (a + 2) (4 + v1) = M (a + 2) (4 + v1) := (zup_p e2 (by omega) _)
    have hz21 : M1 (a + 2) (8 + 40 * v1 + v2) = M (a + 2) (8 + 40 * v1 + v2) := (zup_p e2 (by omega) _)
    refine q_istore_n C [.ref (w.2.1 + a), zi v1, zi v2, zi x18, .null, .null, .null] dX12_drop_22 (n := 23) rfl rfl rfl ?_
    refine q_aload_n C dX12_drop_23 (n := 24) rfl rfl ?_
    refine q_iload_n C dX12_drop_24 (n := 25) rfl rfl ?_
    refine q_iload_n C dX12_drop_25 (n := 26) rfl rfl ?_
    refine q_callVp C dX12_drop_26 (n := 29) rfl m_X12_289 v_yX12_lengthOf (zM0 h0) ⟨by decide, rfl⟩ (c_X12_lengthOf (w := w) (J := J) hI3 hF h0 v1 v2 (by omega) (by omega)) (Nat.le_of_ble_eq_true rfl) rfl rfl (Nat.le_of_ble_eq_true rfl) ⟨Nat.le_refl _, Nat.le_refl _⟩ (fun x24 h25 => ?_)
    obtain ⟨h22, h23⟩ := h25
    have hz26 : M1 (a + 2) (8 + 40 * v1 + v2) = M (a + 2) (8 + 40 * v1 + v2) := (zup_p e2 (by omega) _)
    refine q_istore C [.ref (w.2.1 + a), zi v1, zi v2, zi x18, zi x24, .null, .null] dX12_drop_29 (n := 31) rfl rfl rfl ?_
    refine q_aload_n C dX12_drop_31 (n := 32) rfl rfl ?_
    refine q_iload_n C dX12_drop_32 (n := 33) rfl rfl ?_
    refine q_aload_n C dX12_drop_33 (n := 34) rfl rfl ?_
    refine q_iload_n C dX12_drop_34 (n := 35) rfl rfl ?_
    refine q_callVp C dX12_drop_35 (n := 38) rfl m_X12_285 v_yX12_linesOf (zM0 h0) ⟨by decide, rfl⟩ (c_X12_linesOf (w := w) (J := J) hI3 hF h0 v1 (by omega)) (Nat.le_of_ble_eq_true rfl) rfl rfl (Nat.le_of_ble_eq_true rfl) ⟨Nat.le_refl _, Nat.le_refl _⟩ (fun x29 h30 => ?_)
    obtain ⟨h27, h28⟩ := h30
    have hz31 : M1 (a + 2) (4 + v1) = M (a + 2) (4 + v1) := (zup_p e2 (by omega) _)
    refine q_callVp C dX12_drop_38 (n := 41) rfl m_X12_321 v_yX12_beginOf (zM0 h0) ⟨by decide, rfl⟩ (c_X12_beginOf (w := w) (J := J) hI3 hF h0 v1 x29 hp13 (by omega) (by have hz32 : M1 (a + 2) (4 + v1) = M (a + 2) (4 + v1) := (zup_p e2 (by omega) _); omega)) (Nat.le_of_ble_eq_true rfl) rfl rfl (Nat.le_of_ble_eq_true rfl) ⟨Nat.le_refl _, Nat.le_refl _⟩ (fun x36 h37 => ?_)
    obtain ⟨h33, h34, h35⟩ := h37
    have hz38 : M1 (a + 2) (4 + v1) = M (a + 2) (4 + v1) := (zup_p e2 (by omega) _)
    have hz39 : M1 (a + 2) (8 + 40 * v1 + x29) = M (a + 2) (8 + 40 * v1 + x29) := (zup_p e2 (by omega) _)
    refine q_istore C [.ref (w.2.1 + a), zi v1, zi v2, zi x18, zi x24, zi x36, .null] dX12_drop_41 (n := 43) rfl rfl rfl ?_
    refine q_iload_n C dX12_drop_43 (n := 44) rfl rfl ?_
    refine q_iload C dX12_drop_44 (n := 46) rfl rfl ?_
    refine q_iadd C dX12_drop_46 (n := 47) rfl (v := x18 + x24) rfl ?_
    refine q_istore C [.ref (w.2.1 + a), zi v1, zi v2, zi x18, zi x24, zi x36, zi (x18 + x24)] dX12_drop_47 (n := 49) rfl rfl rfl ?_
    have L_49 : ∀ n50 : Nat, ∀ (u40 : Int) (M42 : zMm) (J43 : zJm), zI G M42 → zMd a [2, 4] [0, 9] [] M M42 → zMd a [4] [] [] M1 M42 → (-2147483648 ≤ u40 ∧ u40 ≤ 2147483647) → (x18 + x24 ≤ u40 ∧ u40 ≤ 1700) → (1701 - u40 ≤ (n50 : Int)) → zK w p e 4 0 0 s m args below meth c 7 T Po 49 [.ref (w.2.1 + a), zi v1, zi v2, .null, zi x24, zi x36, zi u40] [] (T, M42, J43, R) := by
      intro n50
      induction n50 with
      | zero =>
        intro u40 M42 J43 hI44 hK45 hK46 h47 h48 hm52
        exfalso
        omega
      | succ n50 ih51 =>
        intro u40 M42 J43 hI44 hK45 hK46 h47 h48 hm52
        refine q_iload C dX12_drop_49 (n := 51) rfl rfl ?_
        refine q_iload C dX12_drop_51 (n := 53) rfl rfl ?_
        refine q_icmp_ge C 79 dX12_drop_53 (n := 56) rfl rfl (by omega) (fun h53 => ?_) (fun h53 => ?_)
        · refine q_iload_n C dX12_drop_79 (n := 80) rfl rfl ?_
          refine q_istore C [.ref (w.2.1 + a), zi v1, zi v2, .null, zi x24, zi x36, zi v2] dX12_drop_80 (n := 82) rfl rfl rfl ?_
          have L_65 : ∀ n66 : Nat, ∀ (u54 : Int) (M56 : zMm) (J57 : zJm), zI G M56 → zMd a [2, 4] [0, 9] [] M M56 → zMd a [2] [] [] M42 M56 → (-2147483648 ≤ u54 ∧ u54 ≤ 2147483647) → (v2 ≤ u54 ∧ u54 ≤ M (a + 2) (4 + v1) - 1) → (zDr M56 M a v1 v2 u54) → (M56 (a + 2) (4 + v1) = M (a + 2) (4 + v1)) → (41 - u54 ≤ (n66 : Int)) → zK w p e 4 0 0 s m args below meth c 7 T Po 82 [.ref (w.2.1 + a), zi v1, .null, .null, .null, .null, zi u54] [] (T, M56, J57, R) := by
            intro n66
            induction n66 with
            | zero =>
              intro u54 M56 J57 hI58 hK59 hK60 h61 h62 h63 h64 hm68
              exfalso
              omega
            | succ n66 ih67 =>
              intro u54 M56 J57 hI58 hK59 hK60 h61 h62 h63 h64 hm68
              refine q_iload C dX12_drop_82 (n := 84) rfl rfl ?_
              refine q_aload_n C dX12_drop_84 (n := 85) rfl rfl ?_
              refine q_iload_n C dX12_drop_85 (n := 86) rfl rfl ?_
              refine q_callVp C dX12_drop_86 (n := 89) rfl m_X12_285 v_yX12_linesOf (zM0 h0) ⟨by decide, rfl⟩ (c_X12_linesOf (w := w) (J := J57) hI58 hF h0 v1 (by omega)) (Nat.le_of_ble_eq_true rfl) rfl rfl (Nat.le_of_ble_eq_true rfl) ⟨Nat.le_refl _, Nat.le_refl _⟩ (fun x71 h72 => ?_)
              obtain ⟨h69, h70⟩ := h72
              refine q_iconst C dX12_drop_89 (n := 90) rfl ?_
              refine q_isub C dX12_drop_90 (n := 91) rfl (v := x71 - 1) rfl ?_
              refine q_icmp_ge C 132 dX12_drop_91 (n := 94) rfl rfl (by omega) (fun h73 => ?_) (fun h73 => ?_)
              · refine q_aload_n C dX12_drop_132 (n := 133) rfl rfl ?_
                refine q_getR C dX12_drop_133 (n := 136) rfl f_X12_17 (zM0 h0) (hF _ _ _ (zM7 h0)) ?_
                refine q_iconst C dX12_drop_136 (n := 137) rfl ?_
                refine q_iload_n C dX12_drop_137 (n := 138) rfl rfl ?_
                refine q_iadd C dX12_drop_138 (n := 139) rfl (v := 4 + v1) rfl ?_
                refine q_dup2 C dX12_drop_139 (n := 140) rfl ⟨rfl, rfl⟩ ?_
                have g74 := zI.at hI58 (((zM9 h0) (4 + v1)).trans (zfG_4 (by omega)))
                refine q_iald C dX12_drop_140 (n := 141) rfl (zM8 h0) (by omega) (v := M56 (a + 2) (4 + v1)) rfl ?_
                refine q_iconst C dX12_drop_141 (n := 142) rfl ?_
                refine q_isub C dX12_drop_142 (n := 143) rfl (v := (M56 (a + 2) (4 + v1)) - 1) rfl ?_
                refine q_iast C dX12_drop_143 (n := 144) rfl (zM8 h0) (by omega)  (fun M75 e76 => ?_)
                have hI77 : zI G M75 := hI58.put e76 (((zM9 h0) (4 + v1)).trans (zfG_4 (by omega))) rfl (by omega)
                have hK78 := hK59.upA e76 rfl
                have hK79 := hK60.upA e76 rfl
                refine q_aload_n C dX12_drop_144 (n := 145) rfl rfl ?_
                refine q_iconst C dX12_drop_145 (n := 146) rfl ?_
                refine q_putZ C dX12_drop_146 (n := 149) rfl f_X12_300 (zM0 h0) ⟨rfl, rfl⟩ (by omega) (fun M80 (e81 : M80 = zup M75 a 9 0) => ?_)
                have hI82 : zI G M80 := hI77.put e81 (zM22 h0) rfl (by omega)
                have hK83 := hK78.upS e81 rfl
                refine q_aload_n C dX12_drop_149 (n := 150) rfl rfl ?_
                refine q_iload_n C dX12_drop_150 (n := 151) rfl rfl ?_
                refine q_callVp C dX12_drop_151 (n := 154) rfl m_X12_285 v_yX12_linesOf (zM0 h0) ⟨by decide, rfl⟩ (c_X12_linesOf (w := w) (J := J57) hI82 hF h0 v1 (by omega)) (Nat.le_of_ble_eq_true rfl) rfl rfl (Nat.le_of_ble_eq_true rfl) ⟨Nat.le_refl _, Nat.le_refl _⟩ (fun x87 h88 => ?_)
                obtain ⟨h85, h86⟩ := h88
                have hz89 : M80 (a + 2) (4 + v1) = (M56 (a + 2) (4 + v1)) - 1 := ((zup_p e81 (by omega) _).trans (zup_s e76))
                have gei : u54 = M (a + 2) (4 + v1) - 1 := by omega
                have hp90 : zFi M75 a := zDr.fi (n := M (a + 2) (4 + v1)) (by rw [← gei]; exact h63) p1 hI h0 (by omega) rfl (by omega) e76 (by omega)
                have hp91 : zFi M80 a := hp90.cg (fun j => (zup_p e81 (by omega) _))
                exact q_iret C dX12_drop_154 ⟨rfl, rfl⟩ (by rw [hPo]; exact ⟨x87, M80, J57, rfl, rfl, hI82, hK83, hp91, (Or.inr ⟨by omega, by omega, zDp.of h63 e76 (fun j => (zup_p e81 (by omega) _)) (by omega) (by omega)⟩)⟩)
              · refine q_aload_n C dX12_drop_94 (n := 95) rfl rfl ?_
                refine q_getR C dX12_drop_95 (n := 98) rfl f_X12_17 (zM0 h0) (hF _ _ _ (zM7 h0)) ?_
                refine q_bipush C dX12_drop_98 (n := 100) rfl (x := 8) (by decide) ?_
                refine q_bipush C dX12_drop_100 (n := 102) rfl (x := 40) (by decide) ?_
                refine q_iload_n C dX12_drop_102 (n := 103) rfl rfl ?_
                refine q_imul C dX12_drop_103 (n := 104) rfl (v := 40 * v1) rfl ?_
                refine q_iadd C dX12_drop_104 (n := 105) rfl (v := 8 + (40 * v1)) rfl ?_
                refine q_iload C dX12_drop_105 (n := 107) rfl rfl ?_
                refine q_iadd C dX12_drop_107 (n := 108) rfl (v := (8 + (40 * v1)) + u54) rfl ?_
                refine q_aload_n C dX12_drop_108 (n := 109) rfl rfl ?_
                refine q_getR C dX12_drop_109 (n := 112) rfl f_X12_17 (zM0 h0) (hF _ _ _ (zM7 h0)) ?_
                refine q_bipush C dX12_drop_112 (n := 114) rfl (x := 8) (by decide) ?_
                refine q_bipush C dX12_drop_114 (n := 116) rfl (x := 40) (by decide) ?_
                refine q_iload_n C dX12_drop_116 (n := 117) rfl rfl ?_
                refine q_imul C dX12_drop_117 (n := 118) rfl (v := 40 * v1) rfl ?_
                refine q_iadd C dX12_drop_118 (n := 119) rfl (v := 8 + (40 * v1)) rfl ?_
                refine q_iload C dX12_drop_119 (n := 121) rfl rfl ?_
                refine q_iadd C dX12_drop_121 (n := 122) rfl (v := (8 + (40 * v1)) + u54) rfl ?_
                refine q_iconst C dX12_drop_122 (n := 123) rfl ?_
                refine q_iadd C dX12_drop_123 (n := 124) rfl (v := ((8 + (40 * v1)) + u54) + 1) rfl ?_
                have g92 := zI.at hI58 (((zM9 h0) (((8 + (40 * v1)) + u54) + 1)).trans (zfG_8 (by omega)))
                refine q_iald C dX12_drop_124 (n := 125) rfl (zM8 h0) (by omega) (v := M56 (a + 2) (((8 + (40 * v1)) + u54) + 1)) rfl ?_
                refine q_iast C dX12_drop_125 (n := 126) rfl (zM8 h0) (by omega)  (fun M93 e94 => ?_)
                have hI95 : zI G M93 := hI58.put e94 (((zM9 h0) ((8 + (40 * v1)) + u54)).trans (zfG_8 (by omega))) rfl (by omega)
                have hK96 := hK59.upA e94 rfl
                have hK97 := hK60.upA e94 rfl
                refine q_iinc C [.ref (w.2.1 + a), zi v1, .null, .null, .null, .null, zi (u54 + 1)] dX12_drop_126 (n := 129) rfl rfl rfl rfl ?_
                refine q_goto C 82 dX12_drop_129 rfl ?_
                exact zK.weak (ih67 (u54 + 1) M93 J57 hI95 hK96 hK97 (by omega) (by omega) (h63.step e94 (by have hw : M56 (a + 2) (8 + 40 * v1 + u54 + 1) = M56 (a + 2) (8 + 40 * v1 + u54 + 1) := rfl; omega) (by omega)) (by have hw : M93 (a + 2) (4 + v1) = M56 (a + 2) (4 + v1) := (zup_n e94 (by omega)); omega) (by omega)) (zwk_c (zwk_c (zwk_n (zwk_n (zwk_n (zwk_n (zwk_c zwk_e)))))))
          exact zK.weak (L_65 _ v2 M42 J43 hI44 hK45 (zMd.rf : zMd a [2] [] [] M42 M42) (by omega) (by omega) (zDr.zero (fun j => ((hK46.getA rfl rfl rfl).trans (zup_p e2 (by omega) _)))) (by have hw : M42 (a + 2) (4 + v1) = M (a + 2) (4 + v1) := ((hK46.getA rfl rfl rfl).trans (zup_p e2 (by omega) _)); omega) (Int.self_le_toNat _)) (zwk_c (zwk_c (zwk_n (zwk_n (zwk_n (zwk_n (zwk_c zwk_e)))))))
        · refine q_aload_n C dX12_drop_56 (n := 57) rfl rfl ?_
          refine q_getR C dX12_drop_57 (n := 60) rfl f_X12_24 (zM0 h0) (hF _ _ _ (zM13 h0)) ?_
          refine q_iload C dX12_drop_60 (n := 62) rfl rfl ?_
          refine q_iload C dX12_drop_62 (n := 64) rfl rfl ?_
          refine q_isub C dX12_drop_64 (n := 65) rfl (v := u40 - x24) rfl ?_
          refine q_aload_n C dX12_drop_65 (n := 66) rfl rfl ?_
          refine q_getR C dX12_drop_66 (n := 69) rfl f_X12_24 (zM0 h0) (hF _ _ _ (zM13 h0)) ?_
          refine q_iload C dX12_drop_69 (n := 71) rfl rfl ?_
          have g98 := zI.at hI44 ((zM15 h0) u40)
          refine q_bald C dX12_drop_71 (n := 72) rfl (zM14 h0) (by omega) (v := M42 (a + 4) u40) rfl ?_
          refine q_bast C dX12_drop_72 (n := 73) rfl (zM14 h0) (by omega) (by omega) (fun M99 e100 => ?_)
          have hI101 : zI G M99 := hI44.put e100 ((zM15 h0) (u40 - x24)) rfl (by omega)
          have hK102 := hK45.upA e100 rfl
          have hK103 := hK46.upA e100 rfl
          refine q_iinc C [.ref (w.2.1 + a), zi v1, zi v2, .null, zi x24, zi x36, zi (u40 + 1)] dX12_drop_73 (n := 76) rfl rfl rfl rfl ?_
          refine q_goto C 49 dX12_drop_76 rfl ?_
          exact zK.weak (ih51 (u40 + 1) M99 J43 hI101 hK102 hK103 (by omega) (by omega) (by omega)) (zwk_c (zwk_c (zwk_c (zwk_n (zwk_c (zwk_c (zwk_c zwk_e)))))))
    exact zK.weak (L_49 _ (x18 + x24) M1 J hI3 hK4 (zMd.rf : zMd a [4] [] [] M1 M1) (by omega) (by omega) (Int.self_le_toNat _)) (zwk_c (zwk_c (zwk_c (zwk_n (zwk_c (zwk_c (zwk_c zwk_e)))))))
  · refine q_iconst C dX12_drop_14 (n := 15) rfl ?_
    have hp104 : zFi M1 a := p1.cg (fun j => (zup_p e2 (by omega) _))
    exact q_iret C dX12_drop_15 ⟨rfl, rfl⟩ (by rw [hPo]; exact ⟨(-1), M1, J, rfl, rfl, hI3, hK4, hp104, (Or.inl ⟨by omega, rfl, (fun j => (zup_p e2 (by omega) _))⟩)⟩)
theorem c_X12_image_v {w : zWp} {T : zTl} {M : zMm} {J : zJm} {R : zRm'} {G : zGt} {F : zRm'} {a : Nat} (hI : zI G M) (hF : zF F R) (h0 : zModel T F G a) (v1 : Int) (p1 : zFi M a) (p2 : zFk M a) (p3 : -2147483648 ≤ v1 ∧ v1 ≤ 2147483647) : zCt w 2 0 0 yX12_image cX12_image 3 (some .boolean) [.ref (w.2.1 + a), zi v1] (T, M, J, R) (zPi T R G (fun x M2 => (zMd a [3, 5, 6] [0] [] M M2) ∧ (x = 0 ∨ x = 1) ∧ (zFk M2 a) ∧ (x = 0 ∨ 0 ≤ v1 ∧ v1 ≤ 1) ∧ (x = 1 ∨ v1 < 0 ∨ 1 < v1) ∧ (∀ j : Int, M2 (a + 6) j = M (a + 6) j ∨ j = v1 ∧ x = 1 ∧ M2 (a + 6) j = 1) ∧ (x = 1 → M2 (a + 6) v1 = 1) ∧ ((v1 < 0 ∨ 2 ≤ v1) ∧ (∀ j, M2 (a + 3) j = M (a + 3) j) ∨ (0 ≤ v1 ∧ v1 < 2) ∧ zImg M2 M a v1 173))) := by
  refine zCt.of rfl (Nat.le_of_ble_eq_true rfl) ?_
  intro p e s m args below meth c C
  obtain ⟨Po, hPo⟩ : ∃ Po, Po = zPi T R G (fun x M2 => (zMd a [3, 5, 6] [0] [] M M2) ∧ (x = 0 ∨ x = 1) ∧ (zFk M2 a) ∧ (x = 0 ∨ 0 ≤ v1 ∧ v1 ≤ 1) ∧ (x = 1 ∨ v1 < 0 ∨ 1 < v1) ∧ (∀ j : Int, M2 (a + 6) j = M (a + 6) j ∨ j = v1 ∧ x = 1 ∧ M2 (a + 6) j = 1) ∧ (x = 1 → M2 (a + 6) v1 = 1) ∧ ((v1 < 0 ∨ 2 ≤ v1) ∧ (∀ j, M2 (a + 3) j = M (a + 3) j) ∨ (0 ≤ v1 ∧ v1 < 2) ∧ zImg M2 M a v1 173)) := ⟨_, rfl⟩
  rw [← hPo]
  have hK0 : zMd a [3, 5, 6] [0] [] M M := zMd.rf
  show zK w p e 2 0 0 s m args below meth c 3 T Po 0 [.ref (w.2.1 + a), zi v1, .null] [] (T, M, J, R)
  refine q_aload_n C dX12_image_0 (n := 1) rfl rfl ?_
  refine q_iconst C dX12_image_1 (n := 2) rfl ?_
  refine q_putI C dX12_image_2 (n := 5) rfl f_X12_1 (zM0 h0) ⟨rfl, rfl⟩ (fun M1 (e2 : M1 = zup M a 0 0) => ?_)
  have hI3 : zI G M1 := hI.put e2 (zM1 h0) rfl (by omega)
  have hK4 := hK0.upS e2 rfl
  refine q_iload_n C dX12_image_5 (n := 6) rfl rfl ?_
  refine q_iconst C dX12_image_6 (n := 7) rfl ?_
  refine q_iconst C dX12_image_7 (n := 8) rfl ?_
  refine q_callSp C dX12_image_8 (n := 11) rfl m_X12_277 s_yX12_isIn (c_X12_isIn (w := w) (J := J) hI3 hF v1 0 1 (by omega) (by omega) (by omega)) (Nat.le_of_ble_eq_true rfl) rfl rfl (Nat.le_of_ble_eq_true rfl) ⟨Nat.le_refl _, Nat.le_refl _⟩ (fun x8 h9 => ?_)
  obtain ⟨h5, h6, h7⟩ := h9
  refine q_if_ne C 16 dX12_image_11 (n := 14) rfl rfl (by omega) (fun h10 => ?_) (fun h10 => ?_)
  · refine q_iconst C dX12_image_16 (n := 17) rfl ?_
    refine q_istore_n C [.ref (w.2.1 + a), zi v1, zi 0] dX12_image_17 (n := 18) rfl rfl rfl ?_
    have L_21 : ∀ n22 : Nat, ∀ (u11 : Int) (M13 : zMm) (J14 : zJm), zI G M13 → zMd a [3, 5, 6] [0] [] M M13 → zMd a [3] [] [] M1 M13 → (-2147483648 ≤ u11 ∧ u11 ≤ 2147483647) → (0 ≤ u11 ∧ u11 ≤ 173) → (zImg M13 M a v1 u11) → (173 - u11 + 1 ≤ (n22 : Int)) → zK w p e 2 0 0 s m args below meth c 3 T Po 18 [.ref (w.2.1 + a), zi v1, zi u11] [] (T, M13, J14, R) := by
      intro n22
      induction n22 with
      | zero =>
        intro u11 M13 J14 hI15 hK16 hK17 h18 h19 h20 hm24
        exfalso
        omega
      | succ n22 ih23 =>
        intro u11 M13 J14 hI15 hK16 hK17 h18 h19 h20 hm24
        refine q_iload_n C dX12_image_18 (n := 19) rfl rfl ?_
        refine q_sipush C dX12_image_19 (n := 22) rfl (x := 173) (by decide) ?_
        refine q_icmp_ge C 49 dX12_image_22 (n := 25) rfl rfl (by omega) (fun h25 => ?_) (fun h25 => ?_)
        · refine q_iconst C dX12_image_49 (n := 50) rfl ?_
          refine q_istore_n C [.ref (w.2.1 + a), zi v1, zi 0] dX12_image_50 (n := 51) rfl rfl rfl ?_
          have L_35 : ∀ n36 : Nat, ∀ (u26 : Int) (M28 : zMm) (J29 : zJm), zI G M28 → zMd a [3, 5, 6] [0] [] M M28 → zMd a [5] [] [] M13 M28 → (-2147483648 ≤ u26 ∧ u26 ≤ 2147483647) → (0 ≤ u26 ∧ u26 ≤ 1690) → (1690 - u26 + 1 ≤ (n36 : Int)) → zK w p e 2 0 0 s m args below meth c 3 T Po 51 [.ref (w.2.1 + a), zi v1, zi u26] [] (T, M28, J29, R) := by
            intro n36
            induction n36 with
            | zero =>
              intro u26 M28 J29 hI30 hK31 hK32 h33 h34 hm38
              exfalso
              omega
            | succ n36 ih37 =>
              intro u26 M28 J29 hI30 hK31 hK32 h33 h34 hm38
              refine q_iload_n C dX12_image_51 (n := 52) rfl rfl ?_
              refine q_sipush C dX12_image_52 (n := 55) rfl (x := 1690) (by decide) ?_
              refine q_icmp_ge C 82 dX12_image_55 (n := 58) rfl rfl (by omega) (fun h39 => ?_) (fun h39 => ?_)
              · refine q_aload_n C dX12_image_82 (n := 83) rfl rfl ?_
                refine q_getR C dX12_image_83 (n := 86) rfl f_X12_30 (zM0 h0) (hF _ _ _ (zM19 h0)) ?_
                refine q_iload_n C dX12_image_86 (n := 87) rfl rfl ?_
                refine q_iconst C dX12_image_87 (n := 88) rfl ?_
                refine q_zast C dX12_image_88 (n := 89) rfl (zM20 h0) (by omega) (by omega) (fun M40 e41 => ?_)
                have hI42 : zI G M40 := hI30.put e41 ((zM21 h0) v1) rfl (by omega)
                have hK43 := hK31.upA e41 rfl
                refine q_iconst C dX12_image_89 (n := 90) rfl ?_
                have hp45 : zImg M40 M a v1 u11 := h20.cg (fun j => ((zup_p e41 (by omega) _).trans (hK32.getA rfl rfl rfl)))
                have ge : u11 = 173 := by omega
                exact q_zret C dX12_image_90 ⟨rfl, rfl⟩ (by omega) (by rw [hPo]; exact ⟨1, M40, J29, rfl, rfl, hI42, hK43, by omega, (zImg.fk (by rw [← ge]; exact hp45) hI h0 (by omega) p1 p2), by omega, by omega, (fun j => (Decidable.em (j = v1)).elim (fun hj => Or.inr ⟨hj, by omega, by rw [hj]; exact zup_s e41⟩) (fun hj => Or.inl ((zup_n e41 (fun z => hj z.2)).trans ((hK32.getA rfl rfl rfl).trans ((hK17.getA rfl rfl rfl).trans (zup_p e2 (by omega) _)))))), (fun _ => zup_s e41), (Or.inr ⟨by omega, (show zImg M40 M a v1 173 from by rw [← (show u11 = 173 by omega)]; exact hp45)⟩)⟩)
              · refine q_aload_n C dX12_image_58 (n := 59) rfl rfl ?_
                refine q_getR C dX12_image_59 (n := 62) rfl f_X12_27 (zM0 h0) (hF _ _ _ (zM16 h0)) ?_
                refine q_sipush C dX12_image_62 (n := 65) rfl (x := 1690) (by decide) ?_
                refine q_iload_n C dX12_image_65 (n := 66) rfl rfl ?_
                refine q_imul C dX12_image_66 (n := 67) rfl (v := 1690 * v1) rfl ?_
                refine q_iload_n C dX12_image_67 (n := 68) rfl rfl ?_
                refine q_iadd C dX12_image_68 (n := 69) rfl (v := (1690 * v1) + u26) rfl ?_
                refine q_aload_n C dX12_image_69 (n := 70) rfl rfl ?_
                refine q_getR C dX12_image_70 (n := 73) rfl f_X12_24 (zM0 h0) (hF _ _ _ (zM13 h0)) ?_
                refine q_iload_n C dX12_image_73 (n := 74) rfl rfl ?_
                have g46 := zI.at hI ((zM15 h0) u26)
                refine q_bald C dX12_image_74 (n := 75) rfl (zM14 h0) (by omega) (v := M (a + 4) u26) ((hK32.getA rfl rfl rfl).trans ((hK17.getA rfl rfl rfl).trans (zup_p e2 (by omega) _))) ?_
                refine q_bast C dX12_image_75 (n := 76) rfl (zM17 h0) (by omega) (by omega) (fun M47 e48 => ?_)
                have hI49 : zI G M47 := hI30.put e48 ((zM18 h0) ((1690 * v1) + u26)) rfl (by omega)
                have hK50 := hK31.upA e48 rfl
                have hK51 := hK32.upA e48 rfl
                refine q_iinc C [.ref (w.2.1 + a), zi v1, zi (u26 + 1)] dX12_image_76 (n := 79) rfl rfl rfl rfl ?_
                refine q_goto C 51 dX12_image_79 rfl ?_
                exact zK.weak (ih37 (u26 + 1) M47 J29 hI49 hK50 hK51 (by omega) (by omega) (by omega)) (zwk_c (zwk_c (zwk_c zwk_e)))
          exact zK.weak (L_35 _ 0 M13 J14 hI15 hK16 (zMd.rf : zMd a [5] [] [] M13 M13) (by omega) (by omega) (Int.self_le_toNat _)) (zwk_c (zwk_c (zwk_c zwk_e)))
        · refine q_aload_n C dX12_image_25 (n := 26) rfl rfl ?_
          refine q_getR C dX12_image_26 (n := 29) rfl f_X12_21 (zM0 h0) (hF _ _ _ (zM10 h0)) ?_
          refine q_sipush C dX12_image_29 (n := 32) rfl (x := 173) (by decide) ?_
          refine q_iload_n C dX12_image_32 (n := 33) rfl rfl ?_
          refine q_imul C dX12_image_33 (n := 34) rfl (v := 173 * v1) rfl ?_
          refine q_iload_n C dX12_image_34 (n := 35) rfl rfl ?_
          refine q_iadd C dX12_image_35 (n := 36) rfl (v := (173 * v1) + u11) rfl ?_
          refine q_aload_n C dX12_image_36 (n := 37) rfl rfl ?_
          refine q_getR C dX12_image_37 (n := 40) rfl f_X12_17 (zM0 h0) (hF _ _ _ (zM7 h0)) ?_
          refine q_iload_n C dX12_image_40 (n := 41) rfl rfl ?_
          have g52 := zI.at hI (((zM9 h0) u11).trans (zfG_e u11))
          refine q_iald C dX12_image_41 (n := 42) rfl (zM8 h0) (by omega) (v := M (a + 2) u11) ((hK17.getA rfl rfl rfl).trans (zup_p e2 (by omega) _)) ?_
          refine q_iast C dX12_image_42 (n := 43) rfl (zM11 h0) (by omega)  (fun M53 e54 => ?_)
          have hI55 : zI G M53 := hI15.put e54 (((zM12 h0) ((173 * v1) + u11)).trans (zkG_e (by omega) (by omega))) rfl (by omega)
          have hK56 := hK16.upA e54 rfl
          have hK57 := hK17.upA e54 rfl
          refine q_iinc C [.ref (w.2.1 + a), zi v1, zi (u11 + 1)] dX12_image_43 (n := 46) rfl rfl rfl rfl ?_
          refine q_goto C 18 dX12_image_46 rfl ?_
          exact zK.weak (ih23 (u11 + 1) M53 J14 hI55 hK56 hK57 (by omega) (by omega) (h20.step e54 (by omega)) (by omega)) (zwk_c (zwk_c (zwk_c zwk_e)))
    exact zK.weak (L_21 _ 0 M1 J hI3 hK4 (zMd.rf : zMd a [3] [] [] M1 M1) (by omega) (by omega) (zImg.zero (fun j => (zup_p e2 (by omega) _))) (Int.self_le_toNat _)) (zwk_c (zwk_c (zwk_c zwk_e)))
  · refine q_iconst C dX12_image_14 (n := 15) rfl ?_
    have hp58 : zFk M1 a := p2.cg (fun j => (zup_p e2 (by omega) _))
    exact q_zret C dX12_image_15 ⟨rfl, rfl⟩ (by omega) (by rw [hPo]; exact ⟨0, M1, J, rfl, rfl, hI3, hK4, by omega, hp58, by omega, by omega, (fun j => Or.inl (zup_p e2 (by omega) _)), (fun h => absurd h (by omega)), (Or.inl ⟨by omega, (fun j => (zup_p e2 (by omega) _))⟩)⟩)
theorem c_X12_restore_v {w : zWp} {T : zTl} {M : zMm} {J : zJm} {R : zRm'} {G : zGt} {F : zRm'} {a : Nat} (hI : zI G M) (hF : zF F R) (h0 : zModel T F G a) (v1 : Int) (p1 : zFi M a) (p2 : zFk M a) (p3 : -2147483648 ≤ v1 ∧ v1 ≤ 2147483647) : zCt w 2 0 0 yX12_restore cX12_restore 3 (some .boolean) [.ref (w.2.1 + a), zi v1] (T, M, J, R) (zPi T R G (fun x M2 => (zMd a [2, 4] [0, 9] [] M M2) ∧ (x = 0 ∨ x = 1) ∧ (zFi M2 a) ∧ (x = 1 ∧ 0 ≤ v1 ∧ v1 < 2 ∧ M (a + 6) v1 = 1 ∨ x = 0 ∧ (v1 < 0 ∨ 2 ≤ v1 ∨ M (a + 6) v1 = 0)) ∧ (x = 0 ∧ (∀ j, M2 (a + 2) j = M (a + 2) j) ∨ (x = 1 ∧ 0 ≤ v1 ∧ v1 < 2) ∧ zRst M2 M a v1 173))) := by
  refine zCt.of rfl (Nat.le_of_ble_eq_true rfl) ?_
  intro p e s m args below meth c C
  obtain ⟨Po, hPo⟩ : ∃ Po, Po = zPi T R G (fun x M2 => (zMd a [2, 4] [0, 9] [] M M2) ∧ (x = 0 ∨ x = 1) ∧ (zFi M2 a) ∧ (x = 1 ∧ 0 ≤ v1 ∧ v1 < 2 ∧ M (a + 6) v1 = 1 ∨ x = 0 ∧ (v1 < 0 ∨ 2 ≤ v1 ∨ M (a + 6) v1 = 0)) ∧ (x = 0 ∧ (∀ j, M2 (a + 2) j = M (a + 2) j) ∨ (x = 1 ∧ 0 ≤ v1 ∧ v1 < 2) ∧ zRst M2 M a v1 173)) := ⟨_, rfl⟩
  rw [← hPo]
  have hK0 : zMd a [2, 4] [0, 9] [] M M := zMd.rf
  show zK w p e 2 0 0 s m args below meth c 3 T Po 0 [.ref (w.2.1 + a), zi v1, .null] [] (T, M, J, R)
  refine q_aload_n C dX12_restore_0 (n := 1) rfl rfl ?_
  refine q_iconst C dX12_restore_1 (n := 2) rfl ?_
  refine q_putI C dX12_restore_2 (n := 5) rfl f_X12_1 (zM0 h0) ⟨rfl, rfl⟩ (fun M1 (e2 : M1 = zup M a 0 0) => ?_)
  have hI3 : zI G M1 := hI.put e2 (zM1 h0) rfl (by omega)
  have hK4 := hK0.upS e2 rfl
  refine q_iload_n C dX12_restore_5 (n := 6) rfl rfl ?_
  refine q_iconst C dX12_restore_6 (n := 7) rfl ?_
  refine q_iconst C dX12_restore_7 (n := 8) rfl ?_
  refine q_callSp C dX12_restore_8 (n := 11) rfl m_X12_277 s_yX12_isIn (c_X12_isIn (w := w) (J := J) hI3 hF v1 0 1 (by omega) (by omega) (by omega)) (Nat.le_of_ble_eq_true rfl) rfl rfl (Nat.le_of_ble_eq_true rfl) ⟨Nat.le_refl _, Nat.le_refl _⟩ (fun x8 h9 => ?_)
  obtain ⟨h5, h6, h7⟩ := h9
  have J_11 : (v1 < 0 ∨ 1 < v1 ∨ M (a + 6) v1 = 0) → zK w p e 2 0 0 s m args below meth c 3 T Po 23 [.null, .null, .null] [] (T, M1, J, R) := by
    intro h10
    refine q_iconst C dX12_restore_23 (n := 24) rfl ?_
    have hp12 : zFi M1 a := p1.cg (fun j => (zup_p e2 (by omega) _))
    exact q_zret C dX12_restore_24 ⟨rfl, rfl⟩ (by omega) (by rw [hPo]; exact ⟨0, M1, J, rfl, rfl, hI3, hK4, by omega, hp12, by omega, (Or.inl ⟨by omega, (fun j => (zup_p e2 (by omega) _))⟩)⟩)
  refine q_if_eq C 23 dX12_restore_11 (n := 14) rfl rfl (by omega) (fun h13 => ?_) (fun h13 => ?_)
  · exact zK.weak (J_11 (by omega)) (zwk_n (zwk_n (zwk_n zwk_e)))
  · refine q_aload_n C dX12_restore_14 (n := 15) rfl rfl ?_
    refine q_getR C dX12_restore_15 (n := 18) rfl f_X12_30 (zM0 h0) (hF _ _ _ (zM19 h0)) ?_
    refine q_iload_n C dX12_restore_18 (n := 19) rfl rfl ?_
    have g14 := zI.at hI ((zM21 h0) v1)
    refine q_zald C dX12_restore_19 (n := 20) rfl (zM20 h0) (by omega) (v := M (a + 6) v1) (zup_p e2 (by omega) _) ?_
    refine q_if_ne C 25 dX12_restore_20 (n := 23) rfl rfl (by omega) (fun h15 => ?_) (fun h15 => ?_)
    · refine q_iconst C dX12_restore_25 (n := 26) rfl ?_
      refine q_istore_n C [.ref (w.2.1 + a), zi v1, zi 0] dX12_restore_26 (n := 27) rfl rfl rfl ?_
      have L_26 : ∀ n27 : Nat, ∀ (u16 : Int) (M18 : zMm) (J19 : zJm), zI G M18 → zMd a [2, 4] [0, 9] [] M M18 → zMd a [2] [] [] M1 M18 → (-2147483648 ≤ u16 ∧ u16 ≤ 2147483647) → (0 ≤ u16 ∧ u16 ≤ 173) → (zRst M18 M a v1 u16) → (173 - u16 + 1 ≤ (n27 : Int)) → zK w p e 2 0 0 s m args below meth c 3 T Po 27 [.ref (w.2.1 + a), zi v1, zi u16] [] (T, M18, J19, R) := by
        intro n27
        induction n27 with
        | zero =>
          intro u16 M18 J19 hI20 hK21 hK22 h23 h24 h25 hm29
          exfalso
          omega
        | succ n27 ih28 =>
          intro u16 M18 J19 hI20 hK21 hK22 h23 h24 h25 hm29
          refine q_iload_n C dX12_restore_27 (n := 28) rfl rfl ?_
          refine q_sipush C dX12_restore_28 (n := 31) rfl (x := 173) (by decide) ?_
          refine q_icmp_ge C 58 dX12_restore_31 (n := 34) rfl rfl (by omega) (fun h30 => ?_) (fun h30 => ?_)
          · refine q_iconst C dX12_restore_58 (n := 59) rfl ?_
            refine q_istore_n C [.ref (w.2.1 + a), zi v1, zi 0] dX12_restore_59 (n := 60) rfl rfl rfl ?_
            have L_40 : ∀ n41 : Nat, ∀ (u31 : Int) (M33 : zMm) (J34 : zJm), zI G M33 → zMd a [2, 4] [0, 9] [] M M33 → zMd a [4] [] [] M18 M33 → (-2147483648 ≤ u31 ∧ u31 ≤ 2147483647) → (0 ≤ u31 ∧ u31 ≤ 1690) → (1690 - u31 + 1 ≤ (n41 : Int)) → zK w p e 2 0 0 s m args below meth c 3 T Po 60 [.ref (w.2.1 + a), zi v1, zi u31] [] (T, M33, J34, R) := by
              intro n41
              induction n41 with
              | zero =>
                intro u31 M33 J34 hI35 hK36 hK37 h38 h39 hm43
                exfalso
                omega
              | succ n41 ih42 =>
                intro u31 M33 J34 hI35 hK36 hK37 h38 h39 hm43
                refine q_iload_n C dX12_restore_60 (n := 61) rfl rfl ?_
                refine q_sipush C dX12_restore_61 (n := 64) rfl (x := 1690) (by decide) ?_
                refine q_icmp_ge C 91 dX12_restore_64 (n := 67) rfl rfl (by omega) (fun h44 => ?_) (fun h44 => ?_)
                · refine q_aload_n C dX12_restore_91 (n := 92) rfl rfl ?_
                  refine q_iconst C dX12_restore_92 (n := 93) rfl ?_
                  refine q_putZ C dX12_restore_93 (n := 96) rfl f_X12_300 (zM0 h0) ⟨rfl, rfl⟩ (by omega) (fun M45 (e46 : M45 = zup M33 a 9 0) => ?_)
                  have hI47 : zI G M45 := hI35.put e46 (zM22 h0) rfl (by omega)
                  have hK48 := hK36.upS e46 rfl
                  refine q_iconst C dX12_restore_96 (n := 97) rfl ?_
                  have hp50 : zRst M45 M a v1 u16 := h25.cg (fun j => ((zup_p e46 (by omega) _).trans (hK37.getA rfl rfl rfl)))
                  have ge : u16 = 173 := by omega
                  exact q_zret C dX12_restore_97 ⟨rfl, rfl⟩ (by omega) (by rw [hPo]; exact ⟨1, M45, J34, rfl, rfl, hI47, hK48, by omega, (zRst.fi (by rw [← ge]; exact hp50) hI h0 (by omega) p2), by omega, (Or.inr ⟨by omega, (show zRst M45 M a v1 173 from by rw [← (show u16 = 173 by omega)]; exact hp50)⟩)⟩)
                · refine q_aload_n C dX12_restore_67 (n := 68) rfl rfl ?_
                  refine q_getR C dX12_restore_68 (n := 71) rfl f_X12_24 (zM0 h0) (hF _ _ _ (zM13 h0)) ?_
                  refine q_iload_n C dX12_restore_71 (n := 72) rfl rfl ?_
                  refine q_aload_n C dX12_restore_72 (n := 73) rfl rfl ?_
                  refine q_getR C dX12_restore_73 (n := 76) rfl f_X12_27 (zM0 h0) (hF _ _ _ (zM16 h0)) ?_
                  refine q_sipush C dX12_restore_76 (n := 79) rfl (x := 1690) (by decide) ?_
                  refine q_iload_n C dX12_restore_79 (n := 80) rfl rfl ?_
                  refine q_imul C dX12_restore_80 (n := 81) rfl (v := 1690 * v1) rfl ?_
                  refine q_iload_n C dX12_restore_81 (n := 82) rfl rfl ?_
                  refine q_iadd C dX12_restore_82 (n := 83) rfl (v := (1690 * v1) + u31) rfl ?_
                  have g51 := zI.at hI ((zM18 h0) ((1690 * v1) + u31))
                  refine q_bald C dX12_restore_83 (n := 84) rfl (zM17 h0) (by omega) (v := M (a + 5) ((1690 * v1) + u31)) ((hK37.getA rfl rfl rfl).trans ((hK22.getA rfl rfl rfl).trans (zup_p e2 (by omega) _))) ?_
                  refine q_bast C dX12_restore_84 (n := 85) rfl (zM14 h0) (by omega) (by omega) (fun M52 e53 => ?_)
                  have hI54 : zI G M52 := hI35.put e53 ((zM15 h0) u31) rfl (by omega)
                  have hK55 := hK36.upA e53 rfl
                  have hK56 := hK37.upA e53 rfl
                  refine q_iinc C [.ref (w.2.1 + a), zi v1, zi (u31 + 1)] dX12_restore_85 (n := 88) rfl rfl rfl rfl ?_
                  refine q_goto C 60 dX12_restore_88 rfl ?_
                  exact zK.weak (ih42 (u31 + 1) M52 J34 hI54 hK55 hK56 (by omega) (by omega) (by omega)) (zwk_c (zwk_c (zwk_c zwk_e)))
            exact zK.weak (L_40 _ 0 M18 J19 hI20 hK21 (zMd.rf : zMd a [4] [] [] M18 M18) (by omega) (by omega) (Int.self_le_toNat _)) (zwk_c (zwk_c (zwk_c zwk_e)))
          · refine q_aload_n C dX12_restore_34 (n := 35) rfl rfl ?_
            refine q_getR C dX12_restore_35 (n := 38) rfl f_X12_17 (zM0 h0) (hF _ _ _ (zM7 h0)) ?_
            refine q_iload_n C dX12_restore_38 (n := 39) rfl rfl ?_
            refine q_aload_n C dX12_restore_39 (n := 40) rfl rfl ?_
            refine q_getR C dX12_restore_40 (n := 43) rfl f_X12_21 (zM0 h0) (hF _ _ _ (zM10 h0)) ?_
            refine q_sipush C dX12_restore_43 (n := 46) rfl (x := 173) (by decide) ?_
            refine q_iload_n C dX12_restore_46 (n := 47) rfl rfl ?_
            refine q_imul C dX12_restore_47 (n := 48) rfl (v := 173 * v1) rfl ?_
            refine q_iload_n C dX12_restore_48 (n := 49) rfl rfl ?_
            refine q_iadd C dX12_restore_49 (n := 50) rfl (v := (173 * v1) + u16) rfl ?_
            have g57 := zI.at hI (((zM12 h0) ((173 * v1) + u16)).trans (zkG_e (by omega) (by omega)))
            refine q_iald C dX12_restore_50 (n := 51) rfl (zM11 h0) (by omega) (v := M (a + 3) ((173 * v1) + u16)) ((hK22.getA rfl rfl rfl).trans (zup_p e2 (by omega) _)) ?_
            refine q_iast C dX12_restore_51 (n := 52) rfl (zM8 h0) (by omega)  (fun M58 e59 => ?_)
            have hI60 : zI G M58 := hI20.put e59 (((zM9 h0) u16).trans (zfG_e u16)) rfl (by omega)
            have hK61 := hK21.upA e59 rfl
            have hK62 := hK22.upA e59 rfl
            refine q_iinc C [.ref (w.2.1 + a), zi v1, zi (u16 + 1)] dX12_restore_52 (n := 55) rfl rfl rfl rfl ?_
            refine q_goto C 27 dX12_restore_55 rfl ?_
            exact zK.weak (ih28 (u16 + 1) M58 J19 hI60 hK61 hK62 (by omega) (by omega) (h25.step e59 (by omega)) (by omega)) (zwk_c (zwk_c (zwk_c zwk_e)))
      exact zK.weak (L_26 _ 0 M1 J hI3 hK4 (zMd.rf : zMd a [2] [] [] M1 M1) (by omega) (by omega) (zRst.zero (fun j => (zup_p e2 (by omega) _))) (Int.self_le_toNat _)) (zwk_c (zwk_c (zwk_c zwk_e)))
    · exact zK.weak (J_11 (by omega)) (zwk_n (zwk_n (zwk_n zwk_e)))
theorem c_X12_switches_v {w : zWp} {T : zTl} {M : zMm} {J : zJm} {R : zRm'} {G : zGt} {F : zRm'} {a : Nat} (hI : zI G M) (hF : zF F R) (h0 : zModel T F G a) (p1 : zFi M a) : zCt w 2 0 0 yX12_switches cX12_switches 6 (some .int) [.ref (w.2.1 + a)] (T, M, J, R) (zPi T R G (fun x M2 => (zMd a [2, 4, 7] [0, 2, 3, 9] [] M M2) ∧ (zFi M2 a) ∧ (M2 a 2 = 0) ∧ (x = -1 ∧ M2 (a + 2) 168 = M (a + 2) 168 ∧ M2 (a + 2) 172 = M (a + 2) 172 ∨ 0 ≤ x ∧ M2 (a + 2) 168 = x ∧ M2 (a + 2) 172 = 0) ∧ (∀ j, j < 168 → M2 (a + 2) j = M (a + 2) j))) := by
  refine zCt.of rfl (Nat.le_of_ble_eq_true rfl) ?_
  intro p e s m args below meth c C
  obtain ⟨Po, hPo⟩ : ∃ Po, Po = zPi T R G (fun x M2 => (zMd a [2, 4, 7] [0, 2, 3, 9] [] M M2) ∧ (zFi M2 a) ∧ (M2 a 2 = 0) ∧ (x = -1 ∧ M2 (a + 2) 168 = M (a + 2) 168 ∧ M2 (a + 2) 172 = M (a + 2) 172 ∨ 0 ≤ x ∧ M2 (a + 2) 168 = x ∧ M2 (a + 2) 172 = 0) ∧ (∀ j, j < 168 → M2 (a + 2) j = M (a + 2) j)) := ⟨_, rfl⟩
  rw [← hPo]
  have hK0 : zMd a [2, 4, 7] [0, 2, 3, 9] [] M M := zMd.rf
  have gk_length := zI.at hI (zM5 h0)
  show zK w p e 2 0 0 s m args below meth c 6 T Po 0 [.ref (w.2.1 + a), .null, .null, .null, .null, .null] [] (T, M, J, R)
  refine q_aload_n C dX12_switches_0 (n := 1) rfl rfl ?_
  refine q_callVv C dX12_switches_1 (n := 4) rfl m_X12_293 v_yX12_taken (zM0 h0) ⟨by decide, rfl⟩ (c_X12_taken (w := w) (J := J) hI hF h0) (Nat.le_of_ble_eq_true rfl) rfl rfl (Nat.le_of_ble_eq_true rfl) ⟨Nat.le_refl _, Nat.le_refl _⟩ (fun M3 J4  hI5 h6 => ?_)
  obtain ⟨hk7, h1, h2⟩ := h6
  have hK8 := hK0.tr hk7 rfl rfl rfl
  refine q_iconst C dX12_switches_4 (n := 5) rfl ?_
  refine q_istore_n C [.ref (w.2.1 + a), zi 0, .null, .null, .null, .null] dX12_switches_5 (n := 6) rfl rfl rfl ?_
  refine q_iconst C dX12_switches_6 (n := 7) rfl ?_
  refine q_istore_n C [.ref (w.2.1 + a), zi 0, zi 0, .null, .null, .null] dX12_switches_7 (n := 8) rfl rfl rfl ?_
  refine q_aload_n C dX12_switches_8 (n := 9) rfl rfl ?_
  refine q_getR C dX12_switches_9 (n := 12) rfl f_X12_34 (zM0 h0) (hF _ _ _ (zM23 h0)) ?_
  refine q_astore_n C [.ref (w.2.1 + a), zi 0, zi 0, .ref (w.2.1 + (a + 7)), .null, .null] dX12_switches_12 (n := 13) rfl rfl rfl ?_
  have L_22 : ∀ n23 : Nat, ∀ (u9 : Int) (u10 : Int) (M12 : zMm) (J13 : zJm), zI G M12 → zMd a [2, 4, 7] [0, 2, 3, 9] [] M M12 → zMd a [7] [] [] M3 M12 → (-2147483648 ≤ u9 ∧ u9 ≤ 2147483647) → (-2147483648 ≤ u10 ∧ u10 ≤ 2147483647) → (0 ≤ u9 ∧ u9 ≤ 3) → (0 ≤ u10 ∧ u10 ≤ M12 a 3 ∧ u10 ≤ 440) → (zSb M12 a u9) → (441 * (3 - u9) + 442 - u10 ≤ (n23 : Int)) → zK w p e 2 0 0 s m args below meth c 6 T Po 13 [.ref (w.2.1 + a), zi u9, zi u10, .ref (w.2.1 + (a + 7)), .null, .null] [] (T, M12, J13, R) := by
    intro n23
    induction n23 with
    | zero =>
      intro u9 u10 M12 J13 hI14 hK15 hK16 h17 h18 h19 h20 h21 hm25
      exfalso
      omega
    | succ n23 ih24 =>
      intro u9 u10 M12 J13 hI14 hK15 hK16 h17 h18 h19 h20 h21 hm25
      have hz26 : M12 a 3 = M3 a 3 := (hK16.getS rfl rfl)
      refine q_iload_n C dX12_switches_13 (n := 14) rfl rfl ?_
      refine q_aload_n C dX12_switches_14 (n := 15) rfl rfl ?_
      have g27 := zI.at hI5 (zM6 h0)
      refine q_getI C dX12_switches_15 (n := 18) rfl f_X12_274 (zM0 h0) (v := M3 a 3) (hK16.getS rfl rfl) ?_
      refine q_icmp_ge C 205 dX12_switches_18 (n := 21) rfl rfl (by omega) (fun h28 => ?_) (fun h28 => ?_)
      · refine q_aload_n C dX12_switches_205 (n := 206) rfl rfl ?_
        refine q_iconst C dX12_switches_206 (n := 207) rfl ?_
        refine q_putZ C dX12_switches_207 (n := 210) rfl f_X12_300 (zM0 h0) ⟨rfl, rfl⟩ (by omega) (fun M29 (e30 : M29 = zup M12 a 9 0) => ?_)
        have hI31 : zI G M29 := hI14.put e30 (zM22 h0) rfl (by omega)
        have hK32 := hK15.upS e30 rfl
        refine q_aload_n C dX12_switches_210 (n := 211) rfl rfl ?_
        refine q_getR C dX12_switches_211 (n := 214) rfl f_X12_17 (zM0 h0) (hF _ _ _ (zM7 h0)) ?_
        refine q_sipush C dX12_switches_214 (n := 217) rfl (x := 168) (by decide) ?_
        refine q_iload_n C dX12_switches_217 (n := 218) rfl rfl ?_
        refine q_iast C dX12_switches_218 (n := 219) rfl (zM8 h0) (by omega)  (fun M34 e35 => ?_)
        have hp36 : zFi M29 a := p1.cg (fun j => ((zup_p e30 (by omega) _).trans ((hK16.getA rfl rfl rfl).trans (hk7.getA rfl rfl rfl))))
        have hp37 : zFi M34 a := hp36.up e35 hI31 h0 (by omega)
        have hI38 : zI G M34 := hI31.put e35 (((zM9 h0) 168).trans (zfG_168 (by omega))) rfl (by omega)
        have hK39 := hK32.upA e35 rfl
        refine q_aload_n C dX12_switches_219 (n := 220) rfl rfl ?_
        refine q_getR C dX12_switches_220 (n := 223) rfl f_X12_17 (zM0 h0) (hF _ _ _ (zM7 h0)) ?_
        refine q_sipush C dX12_switches_223 (n := 226) rfl (x := 172) (by decide) ?_
        refine q_iconst C dX12_switches_226 (n := 227) rfl ?_
        refine q_iast C dX12_switches_227 (n := 228) rfl (zM8 h0) (by omega)  (fun M40 e41 => ?_)
        have hp42 : zFi M40 a := hp37.up e41 hI38 h0 (by omega)
        have hI43 : zI G M40 := hI38.put e41 (((zM9 h0) 172).trans (zfG_172 (by omega))) rfl (by omega)
        have hK44 := hK39.upA e41 rfl
        refine q_iconst C dX12_switches_228 (n := 229) rfl ?_
        refine q_istore C [.ref (w.2.1 + a), zi u9, zi u10, .ref (w.2.1 + (a + 7)), zi 0, .null] dX12_switches_229 (n := 231) rfl rfl rfl ?_
        have L_58 : ∀ n59 : Nat, ∀ (u45 : Int) (M47 : zMm) (J48 : zJm), zI G M47 → zMd a [2, 4, 7] [0, 2, 3, 9] [] M M47 → zMd a [2, 4] [] [] M40 M47 → (-2147483648 ≤ u45 ∧ u45 ≤ 2147483647) → (0 ≤ u45 ∧ u45 ≤ u9) → (zFi M47 a) → (M47 (a + 2) 168 = u9) → (M47 (a + 2) 172 = 0) → (∀ j, j < 168 → M47 (a + 2) j = M (a + 2) j) → (4 - u45 ≤ (n59 : Int)) → zK w p e 2 0 0 s m args below meth c 6 T Po 231 [.ref (w.2.1 + a), zi u9, .null, .ref (w.2.1 + (a + 7)), zi u45, .null] [] (T, M47, J48, R) := by
          intro n59
          induction n59 with
          | zero =>
            intro u45 M47 J48 hI49 hK50 hK51 h52 h53 h54 h55 h56 h57 hm61
            exfalso
            omega
          | succ n59 ih60 =>
            intro u45 M47 J48 hI49 hK50 hK51 h52 h53 h54 h55 h56 h57 hm61
            refine q_iload C dX12_switches_231 (n := 233) rfl rfl ?_
            refine q_iload_n C dX12_switches_233 (n := 234) rfl rfl ?_
            refine q_icmp_ge C 309 dX12_switches_234 (n := 237) rfl rfl (by omega) (fun h62 => ?_) (fun h62 => ?_)
            · refine q_iload_n C dX12_switches_309 (n := 310) rfl rfl ?_
              exact q_iret C dX12_switches_310 ⟨rfl, rfl⟩ (by rw [hPo]; exact ⟨u9, M47, J48, rfl, rfl, hI49, hK50, h54, by have hz63 : M47 a 2 = M3 a 2 := ((hK51.getS rfl rfl).trans ((zup_p e41 (by omega) _).trans ((zup_p e35 (by omega) _).trans ((zup_n e30 (by omega)).trans (hK16.getS rfl rfl))))); omega, (by have hz : M47 (a + 2) 168 = M47 (a + 2) 168 := rfl; have hz2 : M47 (a + 2) 172 = M47 (a + 2) 172 := rfl; omega), (fun j hj => (rfl).trans (h57 j hj))⟩)
            · have gs64 := h21 u45 (by omega) (by omega)
              refine q_aload_n C dX12_switches_237 (n := 238) rfl rfl ?_
              refine q_getR C dX12_switches_238 (n := 241) rfl f_X12_17 (zM0 h0) (hF _ _ _ (zM7 h0)) ?_
              refine q_sipush C dX12_switches_241 (n := 244) rfl (x := 169) (by decide) ?_
              refine q_iload C dX12_switches_244 (n := 246) rfl rfl ?_
              refine q_iadd C dX12_switches_246 (n := 247) rfl (v := 169 + u45) rfl ?_
              refine q_aload_n C dX12_switches_247 (n := 248) rfl rfl ?_
              refine q_iconst C dX12_switches_248 (n := 249) rfl ?_
              refine q_iload C dX12_switches_249 (n := 251) rfl rfl ?_
              refine q_iadd C dX12_switches_251 (n := 252) rfl (v := 4 + u45) rfl ?_
              have g65 := zI.at hI14 ((zM25 h0) (4 + u45))
              refine q_iald C dX12_switches_252 (n := 253) rfl (zM24 h0) (by omega) (v := M12 (a + 7) (4 + u45)) ((hK51.getA rfl rfl rfl).trans ((zup_p e41 (by omega) _).trans ((zup_p e35 (by omega) _).trans (zup_p e30 (by omega) _)))) ?_
              refine q_iast C dX12_switches_253 (n := 254) rfl (zM8 h0) (by omega)  (fun M66 e67 => ?_)
              have hp68 : zFi M66 a := h54.up e67 hI49 h0 (by omega)
              have hI69 : zI G M66 := hI49.put e67 (((zM9 h0) (169 + u45)).trans (zfG_169 (by omega))) rfl (by omega)
              have hK70 := hK50.upA e67 rfl
              have hK71 := hK51.upA e67 rfl
              refine q_iconst C dX12_switches_254 (n := 255) rfl ?_
              refine q_istore C [.ref (w.2.1 + a), zi u9, .null, .ref (w.2.1 + (a + 7)), zi u45, zi 0] dX12_switches_255 (n := 257) rfl rfl rfl ?_
              have L_82 : ∀ n83 : Nat, ∀ (u72 : Int) (M74 : zMm) (J75 : zJm), zI G M74 → zMd a [2, 4, 7] [0, 2, 3, 9] [] M M74 → zMd a [2, 4] [] [] M40 M74 → zMd a [4] [] [] M66 M74 → (-2147483648 ≤ u72 ∧ u72 ≤ 2147483647) → (0 ≤ u72 ∧ u72 ≤ 30) → (31 - u72 ≤ (n83 : Int)) → zK w p e 2 0 0 s m args below meth c 6 T Po 257 [.ref (w.2.1 + a), zi u9, .null, .ref (w.2.1 + (a + 7)), zi u45, zi u72] [] (T, M74, J75, R) := by
                intro n83
                induction n83 with
                | zero =>
                  intro u72 M74 J75 hI76 hK77 hK78 hK79 h80 h81 hm85
                  exfalso
                  omega
                | succ n83 ih84 =>
                  intro u72 M74 J75 hI76 hK77 hK78 hK79 h80 h81 hm85
                  refine q_iload C dX12_switches_257 (n := 259) rfl rfl ?_
                  refine q_aload_n C dX12_switches_259 (n := 260) rfl rfl ?_
                  refine q_iconst C dX12_switches_260 (n := 261) rfl ?_
                  refine q_iload C dX12_switches_261 (n := 263) rfl rfl ?_
                  refine q_iadd C dX12_switches_263 (n := 264) rfl (v := 4 + u45) rfl ?_
                  refine q_iald C dX12_switches_264 (n := 265) rfl (zM24 h0) (by omega) (v := M12 (a + 7) (4 + u45)) ((hK79.getA rfl rfl rfl).trans ((zup_p e67 (by omega) _).trans ((hK51.getA rfl rfl rfl).trans ((zup_p e41 (by omega) _).trans ((zup_p e35 (by omega) _).trans (zup_p e30 (by omega) _)))))) ?_
                  refine q_icmp_ge C 303 dX12_switches_265 (n := 268) rfl rfl (by omega) (fun h86 => ?_) (fun h86 => ?_)
                  · refine q_iinc C [.ref (w.2.1 + a), zi u9, .null, .ref (w.2.1 + (a + 7)), zi (u45 + 1), zi u72] dX12_switches_303 (n := 306) rfl rfl rfl rfl ?_
                    refine q_goto C 231 dX12_switches_306 rfl ?_
                    have hp87 : zFi M74 a := hp68.cg (fun j => (hK79.getA rfl rfl rfl))
                    exact zK.weak (ih60 (u45 + 1) M74 J75 hI76 hK77 hK78 (by omega) (by omega) hp87 (by have hz : M74 (a + 2) 168 = M47 (a + 2) 168 := ((hK79.getA rfl rfl rfl).trans (zup_n e67 (by omega))); omega) (by have hz : M74 (a + 2) 172 = M47 (a + 2) 172 := ((hK79.getA rfl rfl rfl).trans (zup_n e67 (by omega))); omega) (fun j hj => (((hK79.getA rfl rfl rfl).trans (zup_n e67 (by omega)))).trans (h57 j hj)) (by omega)) (zwk_c (zwk_c (zwk_n (zwk_c (zwk_c (zwk_n zwk_e))))))
                  · refine q_aload_n C dX12_switches_268 (n := 269) rfl rfl ?_
                    refine q_getR C dX12_switches_269 (n := 272) rfl f_X12_24 (zM0 h0) (hF _ _ _ (zM13 h0)) ?_
                    refine q_sipush C dX12_switches_272 (n := 275) rfl (x := 1600) (by decide) ?_
                    refine q_bipush C dX12_switches_275 (n := 277) rfl (x := 30) (by decide) ?_
                    refine q_iload C dX12_switches_277 (n := 279) rfl rfl ?_
                    refine q_imul C dX12_switches_279 (n := 280) rfl (v := 30 * u45) rfl ?_
                    refine q_iadd C dX12_switches_280 (n := 281) rfl (v := 1600 + (30 * u45)) rfl ?_
                    refine q_iload C dX12_switches_281 (n := 283) rfl rfl ?_
                    refine q_iadd C dX12_switches_283 (n := 284) rfl (v := (1600 + (30 * u45)) + u72) rfl ?_
                    refine q_aload_n C dX12_switches_284 (n := 285) rfl rfl ?_
                    refine q_getR C dX12_switches_285 (n := 288) rfl f_X12_13 (zM0 h0) (hF _ _ _ (zM2 h0)) ?_
                    refine q_aload_n C dX12_switches_288 (n := 289) rfl rfl ?_
                    refine q_iload C dX12_switches_289 (n := 291) rfl rfl ?_
                    have g88 := zI.at hI14 ((zM25 h0) u45)
                    refine q_iald C dX12_switches_291 (n := 292) rfl (zM24 h0) (by omega) (v := M12 (a + 7) u45) ((hK79.getA rfl rfl rfl).trans ((zup_p e67 (by omega) _).trans ((hK51.getA rfl rfl rfl).trans ((zup_p e41 (by omega) _).trans ((zup_p e35 (by omega) _).trans (zup_p e30 (by omega) _)))))) ?_
                    refine q_iload C dX12_switches_292 (n := 294) rfl rfl ?_
                    refine q_iadd C dX12_switches_294 (n := 295) rfl (v := (M12 (a + 7) u45) + u72) rfl ?_
                    have g89 := zI.at hI ((zM4 h0) ((M12 (a + 7) u45) + u72))
                    refine q_bald C dX12_switches_295 (n := 296) rfl (zM3 h0) (by omega) (v := M (a + 1) ((M12 (a + 7) u45) + u72)) ((hK79.getA rfl rfl rfl).trans ((zup_p e67 (by omega) _).trans ((hK51.getA rfl rfl rfl).trans ((zup_p e41 (by omega) _).trans ((zup_p e35 (by omega) _).trans ((zup_p e30 (by omega) _).trans ((hK16.getA rfl rfl rfl).trans (hk7.getA rfl rfl rfl)))))))) ?_
                    refine q_bast C dX12_switches_296 (n := 297) rfl (zM14 h0) (by omega) (by omega) (fun M90 e91 => ?_)
                    have hI92 : zI G M90 := hI76.put e91 ((zM15 h0) ((1600 + (30 * u45)) + u72)) rfl (by omega)
                    have hK93 := hK77.upA e91 rfl
                    have hK94 := hK78.upA e91 rfl
                    have hK95 := hK79.upA e91 rfl
                    refine q_iinc C [.ref (w.2.1 + a), zi u9, .null, .ref (w.2.1 + (a + 7)), zi u45, zi (u72 + 1)] dX12_switches_297 (n := 300) rfl rfl rfl rfl ?_
                    refine q_goto C 257 dX12_switches_300 rfl ?_
                    exact zK.weak (ih84 (u72 + 1) M90 J75 hI92 hK93 hK94 hK95 (by omega) (by omega) (by omega)) (zwk_c (zwk_c (zwk_n (zwk_c (zwk_c (zwk_c zwk_e))))))
              exact zK.weak (L_82 _ 0 M66 J48 hI69 hK70 hK71 (zMd.rf : zMd a [4] [] [] M66 M66) (by omega) (by omega) (Int.self_le_toNat _)) (zwk_c (zwk_c (zwk_n (zwk_c (zwk_c (zwk_c zwk_e))))))
        exact zK.weak (L_58 _ 0 M40 J13 hI43 hK44 (zMd.rf : zMd a [2, 4] [] [] M40 M40) (by omega) (by omega) hp42 (by have hz : M40 (a + 2) 168 = u9 := ((zup_n e41 (by omega)).trans (zup_s e35)); omega) (by have hz : M40 (a + 2) 172 = 0 := (zup_s e41); omega) (fun j hj => ((zup_n e41 (by omega)).trans ((zup_n e35 (by omega)).trans ((zup_p e30 (by omega) _).trans ((hK16.getA rfl rfl rfl).trans (hk7.getA rfl rfl rfl)))))) (Int.self_le_toNat _)) (zwk_c (zwk_c (zwk_n (zwk_c (zwk_c (zwk_n zwk_e))))))
      · refine q_aload_n C dX12_switches_21 (n := 22) rfl rfl ?_
        refine q_getR C dX12_switches_22 (n := 25) rfl f_X12_13 (zM0 h0) (hF _ _ _ (zM2 h0)) ?_
        refine q_iload_n C dX12_switches_25 (n := 26) rfl rfl ?_
        have g96 := zI.at hI ((zM4 h0) u10)
        refine q_bald C dX12_switches_26 (n := 27) rfl (zM3 h0) (by omega) (v := M (a + 1) u10) ((hK16.getA rfl rfl rfl).trans (hk7.getA rfl rfl rfl)) ?_
        refine q_bipush C dX12_switches_27 (n := 29) rfl (x := 32) (by decide) ?_
        refine q_icmp_ne C 38 dX12_switches_29 (n := 32) rfl rfl (by omega) (fun h97 => ?_) (fun h97 => ?_)
        · refine q_iload_n C dX12_switches_38 (n := 39) rfl rfl ?_
          refine q_iconst C dX12_switches_39 (n := 40) rfl ?_
          refine q_icmp_eq C 55 dX12_switches_40 (n := 43) rfl rfl (by omega) (fun h98 => ?_) (fun h98 => ?_)
          · refine q_iconst C dX12_switches_55 (n := 56) rfl ?_
            have hp99 : zFi M12 a := p1.cg (fun j => ((hK16.getA rfl rfl rfl).trans (hk7.getA rfl rfl rfl)))
            exact q_iret C dX12_switches_56 ⟨rfl, rfl⟩ (by rw [hPo]; exact ⟨(-1), M12, J13, rfl, rfl, hI14, hK15, hp99, by have hz100 : M12 a 2 = M3 a 2 := (hK16.getS rfl rfl); omega, (by have hz : M12 (a + 2) 168 = M (a + 2) 168 := ((hK16.getA rfl rfl rfl).trans (hk7.getA rfl rfl rfl)); have hz2 : M12 (a + 2) 172 = M (a + 2) 172 := ((hK16.getA rfl rfl rfl).trans (hk7.getA rfl rfl rfl)); omega), (fun j hj => ((hK16.getA rfl rfl rfl).trans (hk7.getA rfl rfl rfl)))⟩)
          · refine q_aload_n C dX12_switches_43 (n := 44) rfl rfl ?_
            refine q_getR C dX12_switches_44 (n := 47) rfl f_X12_13 (zM0 h0) (hF _ _ _ (zM2 h0)) ?_
            refine q_iload_n C dX12_switches_47 (n := 48) rfl rfl ?_
            refine q_bald C dX12_switches_48 (n := 49) rfl (zM3 h0) (by omega) (v := M (a + 1) u10) ((hK16.getA rfl rfl rfl).trans (hk7.getA rfl rfl rfl)) ?_
            refine q_callSp C dX12_switches_49 (n := 52) rfl m_X12_304 s_yX12_isStart (c_X12_isStart (w := w) (J := J13) hI14 hF (M (a + 1) u10) (by omega)) (Nat.le_of_ble_eq_true rfl) rfl rfl (Nat.le_of_ble_eq_true rfl) ⟨Nat.le_refl _, Nat.le_refl _⟩ (fun x102 h103 => ?_)
            refine q_if_ne C 57 dX12_switches_52 (n := 55) rfl rfl (by omega) (fun h104 => ?_) (fun h104 => ?_)
            · refine q_aload_n C dX12_switches_57 (n := 58) rfl rfl ?_
              refine q_iload_n C dX12_switches_58 (n := 59) rfl rfl ?_
              refine q_iload_n C dX12_switches_59 (n := 60) rfl rfl ?_
              refine q_iast C dX12_switches_60 (n := 61) rfl (zM24 h0) (by omega)  (fun M105 e106 => ?_)
              have hp107 : zSb M105 a u9 := h21.up e106 (by omega)
              have hI108 : zI G M105 := hI14.put e106 ((zM25 h0) u9) rfl (by omega)
              have hK109 := hK15.upA e106 rfl
              have hK110 := hK16.upA e106 rfl
              have L_114 : ∀ n115 : Nat, ∀ (u111 : Int), (-2147483648 ≤ u111 ∧ u111 ≤ 2147483647) → (u10 ≤ u111 ∧ u111 ≤ M105 a 3 ∧ u111 ≤ 440) → (441 - u111 ≤ (n115 : Int)) → zK w p e 2 0 0 s m args below meth c 6 T Po 61 [.ref (w.2.1 + a), zi u9, zi u111, .ref (w.2.1 + (a + 7)), .null, .null] [] (T, M105, J13, R) := by
                intro n115
                induction n115 with
                | zero =>
                  intro u111 h112 h113 hm117
                  exfalso
                  omega
                | succ n115 ih116 =>
                  intro u111 h112 h113 hm117
                  have hz118 : M105 a 3 = M3 a 3 := ((zup_p e106 (by omega) _).trans (hK16.getS rfl rfl))
                  refine q_iload_n C dX12_switches_61 (n := 62) rfl rfl ?_
                  refine q_aload_n C dX12_switches_62 (n := 63) rfl rfl ?_
                  refine q_getI C dX12_switches_63 (n := 66) rfl f_X12_274 (zM0 h0) (v := M3 a 3) ((zup_p e106 (by omega) _).trans (hK16.getS rfl rfl)) ?_
                  have J_120 : (u111 = u111) → zK w p e 2 0 0 s m args below meth c 6 T Po 99 [.ref (w.2.1 + a), zi u9, zi u111, .ref (w.2.1 + (a + 7)), .null, .null] [] (T, M105, J13, R) := by
                    intro h119
                    refine q_aload_n C dX12_switches_99 (n := 100) rfl rfl ?_
                    refine q_iconst C dX12_switches_100 (n := 101) rfl ?_
                    refine q_iload_n C dX12_switches_101 (n := 102) rfl rfl ?_
                    refine q_iadd C dX12_switches_102 (n := 103) rfl (v := 4 + u9) rfl ?_
                    refine q_iload_n C dX12_switches_103 (n := 104) rfl rfl ?_
                    refine q_aload_n C dX12_switches_104 (n := 105) rfl rfl ?_
                    refine q_iload_n C dX12_switches_105 (n := 106) rfl rfl ?_
                    refine q_iald C dX12_switches_106 (n := 107) rfl (zM24 h0) (by omega) (v := u10) (zup_s e106) ?_
                    refine q_isub C dX12_switches_107 (n := 108) rfl (v := u111 - u10) rfl ?_
                    refine q_iast C dX12_switches_108 (n := 109) rfl (zM24 h0) (by omega)  (fun M121 e122 => ?_)
                    have hp123 : zSb M121 a u9 := hp107.up e122 (by omega)
                    have hI124 : zI G M121 := hI108.put e122 ((zM25 h0) (4 + u9)) rfl (by omega)
                    have hK125 := hK109.upA e122 rfl
                    have hK126 := hK110.upA e122 rfl
                    refine q_aload_n C dX12_switches_109 (n := 110) rfl rfl ?_
                    refine q_iconst C dX12_switches_110 (n := 111) rfl ?_
                    refine q_iload_n C dX12_switches_111 (n := 112) rfl rfl ?_
                    refine q_iadd C dX12_switches_112 (n := 113) rfl (v := 4 + u9) rfl ?_
                    refine q_iald C dX12_switches_113 (n := 114) rfl (zM24 h0) (by omega) (v := u111 - u10) (zup_s e122) ?_
                    refine q_bipush C dX12_switches_114 (n := 116) rfl (x := 30) (by decide) ?_
                    refine q_icmp_gt C 138 dX12_switches_116 (n := 119) rfl rfl (by omega) (fun h127 => ?_) (fun h127 => ?_)
                    · refine q_iconst C dX12_switches_138 (n := 139) rfl ?_
                      have hp128 : zFi M121 a := p1.cg (fun j => ((zup_p e122 (by omega) _).trans ((zup_p e106 (by omega) _).trans ((hK16.getA rfl rfl rfl).trans (hk7.getA rfl rfl rfl)))))
                      exact q_iret C dX12_switches_139 ⟨rfl, rfl⟩ (by rw [hPo]; exact ⟨(-1), M121, J13, rfl, rfl, hI124, hK125, hp128, by have hz129 : M121 a 2 = M3 a 2 := ((zup_p e122 (by omega) _).trans ((zup_p e106 (by omega) _).trans (hK16.getS rfl rfl))); omega, (by have hz : M121 (a + 2) 168 = M (a + 2) 168 := ((zup_p e122 (by omega) _).trans ((zup_p e106 (by omega) _).trans ((hK16.getA rfl rfl rfl).trans (hk7.getA rfl rfl rfl)))); have hz2 : M121 (a + 2) 172 = M (a + 2) 172 := ((zup_p e122 (by omega) _).trans ((zup_p e106 (by omega) _).trans ((hK16.getA rfl rfl rfl).trans (hk7.getA rfl rfl rfl)))); omega), (fun j hj => ((zup_p e122 (by omega) _).trans ((zup_p e106 (by omega) _).trans ((hK16.getA rfl rfl rfl).trans (hk7.getA rfl rfl rfl)))))⟩)
                    · refine q_iload_n C dX12_switches_119 (n := 120) rfl rfl ?_
                      refine q_aload_n C dX12_switches_120 (n := 121) rfl rfl ?_
                      refine q_getI C dX12_switches_121 (n := 124) rfl f_X12_274 (zM0 h0) (v := M3 a 3) ((zup_p e122 (by omega) _).trans ((zup_p e106 (by omega) _).trans (hK16.getS rfl rfl))) ?_
                      have J_130 : zK w p e 2 0 0 s m args below meth c 6 T Po 140 [.ref (w.2.1 + a), zi u9, zi u111, .ref (w.2.1 + (a + 7)), .null, .null] [] (T, M121, J13, R) := by
                        refine q_iconst C dX12_switches_140 (n := 141) rfl ?_
                        refine q_istore C [.ref (w.2.1 + a), zi u9, zi u111, .ref (w.2.1 + (a + 7)), zi 0, .null] dX12_switches_141 (n := 143) rfl rfl rfl ?_
                        have L_134 : ∀ n135 : Nat, ∀ (u131 : Int), (-2147483648 ≤ u131 ∧ u131 ≤ 2147483647) → (0 ≤ u131 ∧ u131 ≤ u9) → (4 - u131 ≤ (n135 : Int)) → zK w p e 2 0 0 s m args below meth c 6 T Po 143 [.ref (w.2.1 + a), zi u9, zi u111, .ref (w.2.1 + (a + 7)), zi u131, .null] [] (T, M121, J13, R) := by
                          intro n135
                          induction n135 with
                          | zero =>
                            intro u131 h132 h133 hm137
                            exfalso
                            omega
                          | succ n135 ih136 =>
                            intro u131 h132 h133 hm137
                            refine q_iload C dX12_switches_143 (n := 145) rfl rfl ?_
                            refine q_iload_n C dX12_switches_145 (n := 146) rfl rfl ?_
                            refine q_icmp_ge C 182 dX12_switches_146 (n := 149) rfl rfl (by omega) (fun h138 => ?_) (fun h138 => ?_)
                            · refine q_aload_n C dX12_switches_182 (n := 183) rfl rfl ?_
                              refine q_aload_n C dX12_switches_183 (n := 184) rfl rfl ?_
                              refine q_iload_n C dX12_switches_184 (n := 185) rfl rfl ?_
                              refine q_iald C dX12_switches_185 (n := 186) rfl (zM24 h0) (by omega) (v := u10) ((zup_n e122 (by omega)).trans (zup_s e106)) ?_
                              refine q_aload_n C dX12_switches_186 (n := 187) rfl rfl ?_
                              refine q_iconst C dX12_switches_187 (n := 188) rfl ?_
                              refine q_iload_n C dX12_switches_188 (n := 189) rfl rfl ?_
                              refine q_iadd C dX12_switches_189 (n := 190) rfl (v := 4 + u9) rfl ?_
                              refine q_iald C dX12_switches_190 (n := 191) rfl (zM24 h0) (by omega) (v := u111 - u10) (zup_s e122) ?_
                              refine q_callVp C dX12_switches_191 (n := 194) rfl m_X12_314 v_yX12_isTapeDefined (zM0 h0) ⟨by decide, rfl⟩ (c_X12_isTapeDefined (w := w) (J := J13) hI124 hF h0 u10 (u111 - u10) (by omega)) (Nat.le_of_ble_eq_true rfl) rfl rfl (Nat.le_of_ble_eq_true rfl) ⟨Nat.le_refl _, Nat.le_refl _⟩ (fun x140 h141 => ?_)
                              refine q_if_eq C 199 dX12_switches_194 (n := 197) rfl rfl (by omega) (fun h142 => ?_) (fun h142 => ?_)
                              · have hp143 : zSb M121 a (u9 + 1) := hp123.add (by have hz1 : M121 (a + 7) u9 = u10 := ((zup_n e122 (by omega)).trans (zup_s e106)); have hz2 : M121 (a + 7) (4 + u9) = u111 - u10 := (zup_s e122); omega)
                                refine q_iinc C [.ref (w.2.1 + a), zi (u9 + 1), zi u111, .ref (w.2.1 + (a + 7)), zi u131, .null] dX12_switches_199 (n := 202) rfl rfl rfl rfl ?_
                                refine q_goto C 13 dX12_switches_202 rfl ?_
                                exact zK.weak (ih24 (u9 + 1) u111 M121 J13 hI124 hK125 hK126 (by omega) (by omega) (by omega) (by have hz144 : M121 a 3 = M3 a 3 := ((zup_p e122 (by omega) _).trans ((zup_p e106 (by omega) _).trans (hK16.getS rfl rfl))); omega) hp143 (by omega)) (zwk_c (zwk_c (zwk_c (zwk_c (zwk_n (zwk_n zwk_e))))))
                              · refine q_iconst C dX12_switches_197 (n := 198) rfl ?_
                                have hp145 : zFi M121 a := p1.cg (fun j => ((zup_p e122 (by omega) _).trans ((zup_p e106 (by omega) _).trans ((hK16.getA rfl rfl rfl).trans (hk7.getA rfl rfl rfl)))))
                                exact q_iret C dX12_switches_198 ⟨rfl, rfl⟩ (by rw [hPo]; exact ⟨(-1), M121, J13, rfl, rfl, hI124, hK125, hp145, by have hz146 : M121 a 2 = M3 a 2 := ((zup_p e122 (by omega) _).trans ((zup_p e106 (by omega) _).trans (hK16.getS rfl rfl))); omega, (by have hz : M121 (a + 2) 168 = M (a + 2) 168 := ((zup_p e122 (by omega) _).trans ((zup_p e106 (by omega) _).trans ((hK16.getA rfl rfl rfl).trans (hk7.getA rfl rfl rfl)))); have hz2 : M121 (a + 2) 172 = M (a + 2) 172 := ((zup_p e122 (by omega) _).trans ((zup_p e106 (by omega) _).trans ((hK16.getA rfl rfl rfl).trans (hk7.getA rfl rfl rfl)))); omega), (fun j hj => ((zup_p e122 (by omega) _).trans ((zup_p e106 (by omega) _).trans ((hK16.getA rfl rfl rfl).trans (hk7.getA rfl rfl rfl)))))⟩)
                            · have gs147 := hp123 u131 (by omega) (by omega)
                              refine q_aload_n C dX12_switches_149 (n := 150) rfl rfl ?_
                              refine q_aload_n C dX12_switches_150 (n := 151) rfl rfl ?_
                              refine q_iload C dX12_switches_151 (n := 153) rfl rfl ?_
                              have g148 := zI.at hI124 ((zM25 h0) u131)
                              refine q_iald C dX12_switches_153 (n := 154) rfl (zM24 h0) (by omega) (v := M121 (a + 7) u131) rfl ?_
                              refine q_aload_n C dX12_switches_154 (n := 155) rfl rfl ?_
                              refine q_iconst C dX12_switches_155 (n := 156) rfl ?_
                              refine q_iload C dX12_switches_156 (n := 158) rfl rfl ?_
                              refine q_iadd C dX12_switches_158 (n := 159) rfl (v := 4 + u131) rfl ?_
                              have g149 := zI.at hI124 ((zM25 h0) (4 + u131))
                              refine q_iald C dX12_switches_159 (n := 160) rfl (zM24 h0) (by omega) (v := M121 (a + 7) (4 + u131)) rfl ?_
                              refine q_aload_n C dX12_switches_160 (n := 161) rfl rfl ?_
                              refine q_iload_n C dX12_switches_161 (n := 162) rfl rfl ?_
                              refine q_iald C dX12_switches_162 (n := 163) rfl (zM24 h0) (by omega) (v := u10) ((zup_n e122 (by omega)).trans (zup_s e106)) ?_
                              refine q_aload_n C dX12_switches_163 (n := 164) rfl rfl ?_
                              refine q_iconst C dX12_switches_164 (n := 165) rfl ?_
                              refine q_iload_n C dX12_switches_165 (n := 166) rfl rfl ?_
                              refine q_iadd C dX12_switches_166 (n := 167) rfl (v := 4 + u9) rfl ?_
                              refine q_iald C dX12_switches_167 (n := 168) rfl (zM24 h0) (by omega) (v := u111 - u10) (zup_s e122) ?_
                              refine q_callVp C dX12_switches_168 (n := 171) rfl m_X12_310 v_yX12_areTape (zM0 h0) ⟨by decide, rfl⟩ (c_X12_areTape (w := w) (J := J13) hI124 hF h0 (M121 (a + 7) u131) (M121 (a + 7) (4 + u131)) u10 (u111 - u10) (by omega)) (Nat.le_of_ble_eq_true rfl) rfl rfl (Nat.le_of_ble_eq_true rfl) ⟨Nat.le_refl _, Nat.le_refl _⟩ (fun x151 h152 => ?_)
                              refine q_if_eq C 176 dX12_switches_171 (n := 174) rfl rfl (by omega) (fun h153 => ?_) (fun h153 => ?_)
                              · refine q_iinc C [.ref (w.2.1 + a), zi u9, zi u111, .ref (w.2.1 + (a + 7)), zi (u131 + 1), .null] dX12_switches_176 (n := 179) rfl rfl rfl rfl ?_
                                refine q_goto C 143 dX12_switches_179 rfl ?_
                                exact zK.weak (ih136 (u131 + 1) (by omega) (by omega) (by omega)) (zwk_c (zwk_c (zwk_c (zwk_c (zwk_c (zwk_n zwk_e))))))
                              · refine q_iconst C dX12_switches_174 (n := 175) rfl ?_
                                have hp154 : zFi M121 a := p1.cg (fun j => ((zup_p e122 (by omega) _).trans ((zup_p e106 (by omega) _).trans ((hK16.getA rfl rfl rfl).trans (hk7.getA rfl rfl rfl)))))
                                exact q_iret C dX12_switches_175 ⟨rfl, rfl⟩ (by rw [hPo]; exact ⟨(-1), M121, J13, rfl, rfl, hI124, hK125, hp154, by have hz155 : M121 a 2 = M3 a 2 := ((zup_p e122 (by omega) _).trans ((zup_p e106 (by omega) _).trans (hK16.getS rfl rfl))); omega, (by have hz : M121 (a + 2) 168 = M (a + 2) 168 := ((zup_p e122 (by omega) _).trans ((zup_p e106 (by omega) _).trans ((hK16.getA rfl rfl rfl).trans (hk7.getA rfl rfl rfl)))); have hz2 : M121 (a + 2) 172 = M (a + 2) 172 := ((zup_p e122 (by omega) _).trans ((zup_p e106 (by omega) _).trans ((hK16.getA rfl rfl rfl).trans (hk7.getA rfl rfl rfl)))); omega), (fun j hj => ((zup_p e122 (by omega) _).trans ((zup_p e106 (by omega) _).trans ((hK16.getA rfl rfl rfl).trans (hk7.getA rfl rfl rfl)))))⟩)
                        exact zK.weak (L_134 _ 0 (by omega) (by omega) (Int.self_le_toNat _)) (zwk_c (zwk_c (zwk_c (zwk_c (zwk_c (zwk_n zwk_e))))))
                      refine q_icmp_ge C 140 dX12_switches_124 (n := 127) rfl rfl (by omega) (fun h156 => ?_) (fun h156 => ?_)
                      · exact zK.weak (J_130) (zwk_c (zwk_c (zwk_c (zwk_c (zwk_n (zwk_n zwk_e))))))
                      · refine q_aload_n C dX12_switches_127 (n := 128) rfl rfl ?_
                        refine q_getR C dX12_switches_128 (n := 131) rfl f_X12_13 (zM0 h0) (hF _ _ _ (zM2 h0)) ?_
                        refine q_iload_n C dX12_switches_131 (n := 132) rfl rfl ?_
                        have g157 := zI.at hI ((zM4 h0) u111)
                        refine q_bald C dX12_switches_132 (n := 133) rfl (zM3 h0) (by omega) (v := M (a + 1) u111) ((zup_p e122 (by omega) _).trans ((zup_p e106 (by omega) _).trans ((hK16.getA rfl rfl rfl).trans (hk7.getA rfl rfl rfl)))) ?_
                        refine q_bipush C dX12_switches_133 (n := 135) rfl (x := 32) (by decide) ?_
                        refine q_icmp_eq C 140 dX12_switches_135 (n := 138) rfl rfl (by omega) (fun h158 => ?_) (fun h158 => ?_)
                        · exact zK.weak (J_130) (zwk_c (zwk_c (zwk_c (zwk_c (zwk_n (zwk_n zwk_e))))))
                        · refine q_iconst C dX12_switches_138 (n := 139) rfl ?_
                          have hp159 : zFi M121 a := p1.cg (fun j => ((zup_p e122 (by omega) _).trans ((zup_p e106 (by omega) _).trans ((hK16.getA rfl rfl rfl).trans (hk7.getA rfl rfl rfl)))))
                          exact q_iret C dX12_switches_139 ⟨rfl, rfl⟩ (by rw [hPo]; exact ⟨(-1), M121, J13, rfl, rfl, hI124, hK125, hp159, by have hz160 : M121 a 2 = M3 a 2 := ((zup_p e122 (by omega) _).trans ((zup_p e106 (by omega) _).trans (hK16.getS rfl rfl))); omega, (by have hz : M121 (a + 2) 168 = M (a + 2) 168 := ((zup_p e122 (by omega) _).trans ((zup_p e106 (by omega) _).trans ((hK16.getA rfl rfl rfl).trans (hk7.getA rfl rfl rfl)))); have hz2 : M121 (a + 2) 172 = M (a + 2) 172 := ((zup_p e122 (by omega) _).trans ((zup_p e106 (by omega) _).trans ((hK16.getA rfl rfl rfl).trans (hk7.getA rfl rfl rfl)))); omega), (fun j hj => ((zup_p e122 (by omega) _).trans ((zup_p e106 (by omega) _).trans ((hK16.getA rfl rfl rfl).trans (hk7.getA rfl rfl rfl)))))⟩)
                  refine q_icmp_ge C 99 dX12_switches_66 (n := 69) rfl rfl (by omega) (fun h161 => ?_) (fun h161 => ?_)
                  · exact zK.weak (J_120 (by omega)) (zwk_c (zwk_c (zwk_c (zwk_c (zwk_n (zwk_n zwk_e))))))
                  · refine q_aload_n C dX12_switches_69 (n := 70) rfl rfl ?_
                    refine q_getR C dX12_switches_70 (n := 73) rfl f_X12_13 (zM0 h0) (hF _ _ _ (zM2 h0)) ?_
                    refine q_iload_n C dX12_switches_73 (n := 74) rfl rfl ?_
                    have g162 := zI.at hI ((zM4 h0) u111)
                    refine q_bald C dX12_switches_74 (n := 75) rfl (zM3 h0) (by omega) (v := M (a + 1) u111) ((zup_p e106 (by omega) _).trans ((hK16.getA rfl rfl rfl).trans (hk7.getA rfl rfl rfl))) ?_
                    refine q_callSp C dX12_switches_75 (n := 78) rfl m_X12_304 s_yX12_isStart (c_X12_isStart (w := w) (J := J13) hI108 hF (M (a + 1) u111) (by omega)) (Nat.le_of_ble_eq_true rfl) rfl rfl (Nat.le_of_ble_eq_true rfl) ⟨Nat.le_refl _, Nat.le_refl _⟩ (fun x164 h165 => ?_)
                    have J_166 : zK w p e 2 0 0 s m args below meth c 6 T Po 93 [.ref (w.2.1 + a), zi u9, zi u111, .ref (w.2.1 + (a + 7)), .null, .null] [] (T, M105, J13, R) := by
                      refine q_iinc C [.ref (w.2.1 + a), zi u9, zi (u111 + 1), .ref (w.2.1 + (a + 7)), .null, .null] dX12_switches_93 (n := 96) rfl rfl rfl rfl ?_
                      refine q_goto C 61 dX12_switches_96 rfl ?_
                      exact zK.weak (ih116 (u111 + 1) (by omega) (by have hz167 : M105 a 3 = M3 a 3 := ((zup_p e106 (by omega) _).trans (hK16.getS rfl rfl)); omega) (by omega)) (zwk_c (zwk_c (zwk_c (zwk_c (zwk_n (zwk_n zwk_e))))))
                    refine q_if_ne C 93 dX12_switches_78 (n := 81) rfl rfl (by omega) (fun h168 => ?_) (fun h168 => ?_)
                    · exact zK.weak (J_166) (zwk_c (zwk_c (zwk_c (zwk_c (zwk_n (zwk_n zwk_e))))))
                    · refine q_aload_n C dX12_switches_81 (n := 82) rfl rfl ?_
                      refine q_getR C dX12_switches_82 (n := 85) rfl f_X12_13 (zM0 h0) (hF _ _ _ (zM2 h0)) ?_
                      refine q_iload_n C dX12_switches_85 (n := 86) rfl rfl ?_
                      refine q_bald C dX12_switches_86 (n := 87) rfl (zM3 h0) (by omega) (v := M (a + 1) u111) ((zup_p e106 (by omega) _).trans ((hK16.getA rfl rfl rfl).trans (hk7.getA rfl rfl rfl))) ?_
                      refine q_callSp C dX12_switches_87 (n := 90) rfl m_X12_307 s_yX12_isDigit (c_X12_isDigit (w := w) (J := J13) hI108 hF (M (a + 1) u111) (by omega)) (Nat.le_of_ble_eq_true rfl) rfl rfl (Nat.le_of_ble_eq_true rfl) ⟨Nat.le_refl _, Nat.le_refl _⟩ (fun x171 h172 => ?_)
                      obtain ⟨h169, h170⟩ := h172
                      refine q_if_eq C 99 dX12_switches_90 (n := 93) rfl rfl (by omega) (fun h173 => ?_) (fun h173 => ?_)
                      · exact zK.weak (J_120 (by omega)) (zwk_c (zwk_c (zwk_c (zwk_c (zwk_n (zwk_n zwk_e))))))
                      · exact zK.weak (J_166) (zwk_c (zwk_c (zwk_c (zwk_c (zwk_n (zwk_n zwk_e))))))
              exact zK.weak (L_114 _ u10 (by omega) (by have hz174 : M105 a 3 = M3 a 3 := ((zup_p e106 (by omega) _).trans (hK16.getS rfl rfl)); omega) (Int.self_le_toNat _)) (zwk_c (zwk_c (zwk_c (zwk_c (zwk_n (zwk_n zwk_e))))))
            · refine q_iconst C dX12_switches_55 (n := 56) rfl ?_
              have hp175 : zFi M12 a := p1.cg (fun j => ((hK16.getA rfl rfl rfl).trans (hk7.getA rfl rfl rfl)))
              exact q_iret C dX12_switches_56 ⟨rfl, rfl⟩ (by rw [hPo]; exact ⟨(-1), M12, J13, rfl, rfl, hI14, hK15, hp175, by have hz176 : M12 a 2 = M3 a 2 := (hK16.getS rfl rfl); omega, (by have hz : M12 (a + 2) 168 = M (a + 2) 168 := ((hK16.getA rfl rfl rfl).trans (hk7.getA rfl rfl rfl)); have hz2 : M12 (a + 2) 172 = M (a + 2) 172 := ((hK16.getA rfl rfl rfl).trans (hk7.getA rfl rfl rfl)); omega), (fun j hj => ((hK16.getA rfl rfl rfl).trans (hk7.getA rfl rfl rfl)))⟩)
        · refine q_iinc C [.ref (w.2.1 + a), zi u9, zi (u10 + 1), .ref (w.2.1 + (a + 7)), .null, .null] dX12_switches_32 (n := 35) rfl rfl rfl rfl ?_
          refine q_goto C 13 dX12_switches_35 rfl ?_
          exact zK.weak (ih24 u9 (u10 + 1) M12 J13 hI14 hK15 hK16 (by omega) (by omega) (by omega) (by have hz177 : M12 a 3 = M3 a 3 := (hK16.getS rfl rfl); omega) h21 (by omega)) (zwk_c (zwk_c (zwk_c (zwk_c (zwk_n (zwk_n zwk_e))))))
  exact zK.weak (L_22 _ 0 0 M3 J4 hI5 hK8 (zMd.rf : zMd a [7] [] [] M3 M3) (by omega) (by omega) (by omega) (by omega) (fun k k0 k1 => by omega) (Int.self_le_toNat _)) (zwk_c (zwk_c (zwk_c (zwk_c (zwk_n (zwk_n zwk_e))))))
