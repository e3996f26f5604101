theorem zFi.up {T : zTl} {F : zRm'} {G : zGt} {M M2 : zMm} {a : Nat} {i x : Int} (h : zFi M a) (e : M2 = zup M (a + 2) i x) (hI : zI G M) (h0 : zModel T F G a) (hi : 168 ≤ i) : zFi M2 a := fun k k0 k3 => by
  have hn := zI.at hI ((zM9 h0 (4 + k)).trans (zfG_4 (by omega)))
  rw [zup_n e (by omega), zSum_cg (g := M2 (a + 2)) (h := M (a + 2))]
  · exact h k k0 k3
  · intro j hj
    exact zup_n e (by omega)
theorem zkG_4 {q i : Int} (hq : 0 ≤ q ∧ q ≤ 1) (hi : 0 ≤ i ∧ i ≤ 3) : zkG (173 * q + 4 + i) = (40, 0, 40) := by
  rw [show 173 * q + 4 + i = 173 * q + (4 + i) by omega, zkG_e hq (by omega), ← zfG_e, zfG_4 (by omega)]
def zFk (M : zMm) (a : Nat) : Prop := ∀ q, 0 ≤ q → q ≤ 1 → ∀ k, 0 ≤ k → k ≤ 3 → zSum (M (a + 3)) (173 * q + 8 + 40 * k) (M (a + 3) (173 * q + 4 + k)).toNat ≤ 400
theorem zFk.cg {M M2 : zMm} {a : Nat} (h : zFk M a) (e : ∀ j, M2 (a + 3) j = M (a + 3) j) : zFk M2 a := by
  have : M2 (a + 3) = M (a + 3) := funext e
  intro q q0 q1 k k0 k3
  rw [this]
  exact h q q0 q1 k k0 k3
theorem zSum_sh {g h : Int → Int} {b b2 : Int} : ∀ (n : Nat), (∀ i : Nat, i < n → g (b + i) = h (b2 + i)) → zSum g b n = zSum h b2 n
  | 0, _ => rfl
  | n + 1, q => by
    unfold zSum
    rw [zSum_sh n (fun i hi => q i (by omega)), q n (by omega)]
def zImg (M M0 : zMm) (a : Nat) (k n : Int) : Prop := ∀ j, M (a + 3) j = if 173 * k ≤ j ∧ j < 173 * k + n then M0 (a + 2) (j - 173 * k) else M0 (a + 3) j
theorem zImg.zero {M M0 : zMm} {a : Nat} {k : Int} (e : ∀ j, M (a + 3) j = M0 (a + 3) j) : zImg M M0 a k 0 := fun j => by
  rw [if_neg (by omega)]
  exact e j
theorem zImg.cg {M M0 M2 : zMm} {a : Nat} {k n : Int} (h : zImg M M0 a k n) (e : ∀ j, M2 (a + 3) j = M (a + 3) j) : zImg M2 M0 a k n := fun j => (e j).trans (h j)
theorem zImg.step {M M0 M2 : zMm} {a : Nat} {k n : Int} (h : zImg M M0 a k n) (e : M2 = zup M (a + 3) (173 * k + n) (M0 (a + 2) n)) (n0 : 0 ≤ n) : zImg M2 M0 a k (n + 1) := fun j => by
  by_cases q : j = 173 * k + n
  · subst q
    rw [zup_s e, if_pos (by omega), show 173 * k + n - 173 * k = n by omega]
  · rw [zup_n e (by omega), h j]
    by_cases q2 : 173 * k ≤ j ∧ j < 173 * k + n
    · rw [if_pos q2, if_pos (by omega)]
    · rw [if_neg q2, if_neg (by omega)]
theorem zImg.fk {T : zTl} {F : zRm'} {G : zGt} {M M0 : zMm} {a : Nat} {k : Int} (h : zImg M M0 a k 173) (hI : zI G M0) (h0 : zModel T F G a) (hk : 0 ≤ k ∧ k ≤ 1) (f : zFi M0 a) (g : zFk M0 a) : zFk M a := fun q q0 q1 i i0 i3 => by
  by_cases e : q = k
  · subst e
    have hn := zI.at hI ((zM9 h0 (4 + i)).trans (zfG_4 (by omega)))
    rw [h (173 * q + 4 + i), if_pos (by omega), show 173 * q + 4 + i - 173 * q = 4 + i by omega]
    rw [zSum_sh (g := M (a + 3)) (h := M0 (a + 2)) (b2 := 8 + 40 * i)]
    · exact f i i0 i3
    · intro j hj
      rw [h, if_pos (by omega), show 173 * q + 8 + 40 * i + (j : Int) - 173 * q = 8 + 40 * i + j by omega]
  · have hn := zI.at hI ((zM12 h0 (173 * q + 4 + i)).trans (zkG_4 (by omega) (by omega)))
    rw [h (173 * q + 4 + i), if_neg (by omega)]
    rw [zSum_sh (g := M (a + 3)) (h := M0 (a + 3)) (b2 := 173 * q + 8 + 40 * i)]
    · exact g q q0 q1 i i0 i3
    · intro j hj
      rw [h, if_neg (by omega)]
def zRst (M M0 : zMm) (a : Nat) (k n : Int) : Prop := ∀ j, M (a + 2) j = if 0 ≤ j ∧ j < n then M0 (a + 3) (173 * k + j) else M0 (a + 2) j
theorem zRst.zero {M M0 : zMm} {a : Nat} {k : Int} (e : ∀ j, M (a + 2) j = M0 (a + 2) j) : zRst M M0 a k 0 := fun j => by
  rw [if_neg (by omega)]
  exact e j
theorem zRst.cg {M M0 M2 : zMm} {a : Nat} {k n : Int} (h : zRst M M0 a k n) (e : ∀ j, M2 (a + 2) j = M (a + 2) j) : zRst M2 M0 a k n := fun j => (e j).trans (h j)
theorem zRst.step {M M0 M2 : zMm} {a : Nat} {k n : Int} (h : zRst M M0 a k n) (e : M2 = zup M (a + 2) n (M0 (a + 3) (173 * k + n))) (n0 : 0 ≤ n) : zRst M2 M0 a k (n + 1) := fun j => by
  by_cases q : j = n
  · subst q
    rw [zup_s e, if_pos (by omega)]
  · rw [zup_n e (by omega), h j]
    by_cases q2 : 0 ≤ j ∧ j < n
    · rw [if_pos q2, if_pos (by omega)]
    · rw [if_neg q2, if_neg (by omega)]
theorem zRst.fi {T : zTl} {F : zRm'} {G : zGt} {M M0 : zMm} {a : Nat} {k : Int} (h : zRst M M0 a k 173) (hI : zI G M0) (h0 : zModel T F G a) (hk : 0 ≤ k ∧ k ≤ 1) (g : zFk M0 a) : zFi M a := fun i i0 i3 => by
  have hn := zI.at hI ((zM12 h0 (173 * k + 4 + i)).trans (zkG_4 (by omega) (by omega)))
  rw [h (4 + i), if_pos (by omega), show 173 * k + (4 + i) = 173 * k + 4 + i by omega]
  rw [zSum_sh (g := M (a + 2)) (h := M0 (a + 3)) (b2 := 173 * k + 8 + 40 * i)]
  · exact g k hk.1 hk.2 i i0 i3
  · intro j hj
    rw [h, if_pos (by omega), show 173 * k + (8 + 40 * i + (j : Int)) = 173 * k + 8 + 40 * i + j by omega]
def zSb (M : zMm) (a : Nat) (n : Int) : Prop := ∀ k, 0 ≤ k → k < n → M (a + 7) k + M (a + 7) (4 + k) ≤ 440 ∧ M (a + 7) (4 + k) ≤ 30
theorem zSb.cg {M M2 : zMm} {a : Nat} {n : Int} (h : zSb M a n) (e : ∀ j, M2 (a + 7) j = M (a + 7) j) : zSb M2 a n := fun k k0 k1 => by
  rw [e, e]
  exact h k k0 k1
theorem zSb.up {M M2 : zMm} {a : Nat} {n i x : Int} (h : zSb M a n) (e : M2 = zup M (a + 7) i x) (hi : (i = n ∨ i = 4 + n) ∧ n ≤ 3) : zSb M2 a n := fun k k0 k1 => by
  rw [zup_n e (by omega), zup_n e (by omega)]
  exact h k k0 k1
theorem zSb.add {M : zMm} {a : Nat} {n : Int} (h : zSb M a n) (hn : M (a + 7) n + M (a + 7) (4 + n) ≤ 440 ∧ M (a + 7) (4 + n) ≤ 30) : zSb M a (n + 1) := fun k k0 k1 => by
  by_cases q : k = n
  · subst q
    exact hn
  · exact h k k0 (by omega)
theorem c_X12_set {w : zWp} {T : zTl} {M : zMm} {J : zJm} {R : zRm'} {G : zGt} {F : zRm'} {a : Nat} (hI : zI G M) (hF : zF F R) (h0 : zModel T F G a) (v1 : Int) (p1 : zFi M a) (p2 : -2147483648 ≤ v1 ∧ v1 ≤ 2147483647) : zCt w 1 0 0 yX12_set cX12_set 2 (some .int) [.ref (w.2.1 + a), zi v1] (T, M, J, R) (zPi T R G (fun x M2 => (zMd a [2] [0] [] M M2) ∧ (zFi M2 a))) := by
  refine zCt.of rfl (Nat.le_of_ble_eq_true rfl) ?_
  intro p e s m args below meth c C
  obtain ⟨Po, hPo⟩ : ∃ Po, Po = zPi T R G (fun x M2 => (zMd a [2] [0] [] M M2) ∧ (zFi M2 a)) := ⟨_, rfl⟩
  rw [← hPo]
  have hK0 : zMd a [2] [0] [] M M := zMd.rf
  show zK w p e 1 0 0 s m args below meth c 2 T Po 0 [.ref (w.2.1 + a), zi v1] [] (T, M, J, R)
  refine q_aload_n C dX12_set_0 (n := 1) rfl rfl ?_
  refine q_iconst C dX12_set_1 (n := 2) rfl ?_
  refine q_putI C dX12_set_2 (n := 5) rfl f_X12_1 (zM0 h0) ⟨rfl, rfl⟩ (fun M1 (e2 : M1 = zup M a 0 0) => ?_)
  have hI3 : zI G M1 := hI.put e2 (zM1 h0) rfl (by omega)
  have hK4 := hK0.upS e2 rfl
  refine q_iload_n C dX12_set_5 (n := 6) rfl rfl ?_
  refine q_if_lt C 23 dX12_set_6 (n := 9) rfl rfl (by omega) (fun h5 => ?_) (fun h5 => ?_)
  · refine q_iconst C dX12_set_23 (n := 24) rfl ?_
    have hp6 : zFi M1 a := p1.cg (fun j => (zup_p e2 (by omega) _))
    exact q_iret C dX12_set_24 ⟨rfl, rfl⟩ (by rw [hPo]; exact ⟨(-1), M1, J, rfl, rfl, hI3, hK4, hp6⟩)
  · refine q_iload_n C dX12_set_9 (n := 10) rfl rfl ?_
    refine q_iconst C dX12_set_10 (n := 11) rfl ?_
    refine q_aload_n C dX12_set_11 (n := 12) rfl rfl ?_
    refine q_getR C dX12_set_12 (n := 15) rfl f_X12_17 (zM0 h0) (hF _ _ _ (zM7 h0)) ?_
    refine q_sipush C dX12_set_15 (n := 18) rfl (x := 168) (by decide) ?_
    have g7 := zI.at hI (((zM9 h0) 168).trans (zfG_168 (by omega)))
    refine q_iald C dX12_set_18 (n := 19) rfl (zM8 h0) (by omega) (v := M (a + 2) 168) (zup_p e2 (by omega) _) ?_
    refine q_ishl C dX12_set_19 (n := 20) rfl (v := zshl 1 (M (a + 2) 168)) rfl ?_
    have g8 := zr_shl 1 (M (a + 2) 168)
    have g9 : 0 ≤ M (a + 2) 168 ∧ M (a + 2) 168 ≤ 3 → 1 ≤ zshl 1 (M (a + 2) 168) ∧ zshl 1 (M (a + 2) 168) ≤ 8 := fun h => zshl1 h
    refine q_icmp_lt C 25 dX12_set_20 (n := 23) rfl rfl (by omega) (fun h10 => ?_) (fun h10 => ?_)
    · refine q_aload_n C dX12_set_25 (n := 26) rfl rfl ?_
      refine q_getR C dX12_set_26 (n := 29) rfl f_X12_17 (zM0 h0) (hF _ _ _ (zM7 h0)) ?_
      refine q_sipush C dX12_set_29 (n := 32) rfl (x := 172) (by decide) ?_
      refine q_iload_n C dX12_set_32 (n := 33) rfl rfl ?_
      refine q_iast C dX12_set_33 (n := 34) rfl (zM8 h0) (by omega)  (fun M11 e12 => ?_)
      have hp13 : zFi M1 a := p1.cg (fun j => (zup_p e2 (by omega) _))
      have hp14 : zFi M11 a := hp13.up e12 hI3 h0 (by omega)
      have hI15 : zI G M11 := hI3.put e12 (((zM9 h0) 172).trans (zfG_172 (by omega))) rfl (by omega)
      have hK16 := hK4.upA e12 rfl
      refine q_iconst C dX12_set_34 (n := 35) rfl ?_
      exact q_iret C dX12_set_35 ⟨rfl, rfl⟩ (by rw [hPo]; exact ⟨0, M11, J, rfl, rfl, hI15, hK16, hp14⟩)
    · refine q_iconst C dX12_set_23 (n := 24) rfl ?_
      have hp17 : zFi M1 a := p1.cg (fun j => (zup_p e2 (by omega) _))
      exact q_iret C dX12_set_24 ⟨rfl, rfl⟩ (by rw [hPo]; exact ⟨(-1), M1, J, rfl, rfl, hI3, hK4, hp17⟩)
theorem c_X12_guardOf {w : zWp} {T : zTl} {M : zMm} {J : zJm} {R : zRm'} {G : zGt} {F : zRm'} {a : Nat} (hI : zI G M) (hF : zF F R) (h0 : zModel T F G a) (v1 : Int) (p1 : zFi M a) (p2 : 0 ≤ v1 ∧ v1 ≤ 3) : zCt w 6 0 0 yX12_guardOf cX12_guardOf 4 (some .int) [.ref (w.2.1 + a), zi v1] (T, M, J, R) (zPi T R G (fun x M2 => (zMd a [9, 10, 11, 12, 13, 14, 15, 16, 17, 22] [11, 23, 24, 25, 26, 27, 28, 29, 34] [(18, 11), (18, 12), (18, 13), (18, 14)] M M2) ∧ (0 ≤ x ∧ x ≤ 30))) := by
  refine zCt.of rfl (Nat.le_of_ble_eq_true rfl) ?_
  intro p e s m args below meth c C
  obtain ⟨Po, hPo⟩ : ∃ Po, Po = zPi T R G (fun x M2 => (zMd a [9, 10, 11, 12, 13, 14, 15, 16, 17, 22] [11, 23, 24, 25, 26, 27, 28, 29, 34] [(18, 11), (18, 12), (18, 13), (18, 14)] M M2) ∧ (0 ≤ x ∧ x ≤ 30)) := ⟨_, rfl⟩
  rw [← hPo]
  have hK0 : zMd a [9, 10, 11, 12, 13, 14, 15, 16, 17, 22] [11, 23, 24, 25, 26, 27, 28, 29, 34] [(18, 11), (18, 12), (18, 13), (18, 14)] M M := zMd.rf
  have gk_f_4___v1 := zI.at hI (((zM9 h0) (4 + v1)).trans (zfG_4 (by omega)))
  show zK w p e 6 0 0 s m args below meth c 4 T Po 0 [.ref (w.2.1 + a), zi v1, .null, .null] [] (T, M, J, R)
  refine q_iconst C dX12_guardOf_0 (n := 1) rfl ?_
  refine q_istore_n C [.ref (w.2.1 + a), zi v1, zi 0, .null] dX12_guardOf_1 (n := 2) rfl rfl rfl ?_
  have L_4 : ∀ n5 : Nat, ∀ (u1 : Int), (-2147483648 ≤ u1 ∧ u1 ≤ 2147483647) → (0 ≤ u1 ∧ u1 ≤ M (a + 2) (4 + v1) ∧ u1 ≤ 40) → (40 - u1 + 1 ≤ (n5 : Int)) → zK w p e 6 0 0 s m args below meth c 4 T Po 2 [.ref (w.2.1 + a), zi v1, zi u1, .null] [] (T, M, J, R) := by
    intro n5
    induction n5 with
    | zero =>
      intro u1 h2 h3 hm7
      exfalso
      omega
    | succ n5 ih6 =>
      intro u1 h2 h3 hm7
      refine q_iload_n C dX12_guardOf_2 (n := 3) rfl rfl ?_
      refine q_aload_n C dX12_guardOf_3 (n := 4) rfl rfl ?_
      refine q_iload_n C dX12_guardOf_4 (n := 5) rfl rfl ?_
      refine q_callVp C dX12_guardOf_5 (n := 8) rfl m_X12_285 v_yX12_linesOf (zM0 h0) ⟨by decide, rfl⟩ (c_X12_linesOf (w := w) (J := J) hI hF h0 v1 (by omega)) (Nat.le_of_ble_eq_true rfl) rfl rfl (Nat.le_of_ble_eq_true rfl) ⟨Nat.le_refl _, Nat.le_refl _⟩ (fun x10 h11 => ?_)
      obtain ⟨h8, h9⟩ := h11
      have J_12 : zK w p e 6 0 0 s m args below meth c 4 T Po 26 [.ref (w.2.1 + a), zi v1, zi u1, .null] [] (T, M, J, R) := by
        refine q_aload_n C dX12_guardOf_26 (n := 27) rfl rfl ?_
        refine q_iload_n C dX12_guardOf_27 (n := 28) rfl rfl ?_
        refine q_callVp C dX12_guardOf_28 (n := 31) rfl m_X12_285 v_yX12_linesOf (zM0 h0) ⟨by decide, rfl⟩ (c_X12_linesOf (w := w) (J := J) hI hF h0 v1 (by omega)) (Nat.le_of_ble_eq_true rfl) rfl rfl (Nat.le_of_ble_eq_true rfl) ⟨Nat.le_refl _, Nat.le_refl _⟩ (fun x15 h16 => ?_)
        obtain ⟨h13, h14⟩ := h16
        refine q_iconst C dX12_guardOf_31 (n := 32) rfl ?_
        refine q_isub C dX12_guardOf_32 (n := 33) rfl (v := x15 - 1) rfl ?_
        refine q_istore_n C [.ref (w.2.1 + a), zi v1, zi u1, zi (x15 - 1)] dX12_guardOf_33 (n := 34) rfl rfl rfl ?_
        have L_20 : ∀ n21 : Nat, ∀ (u17 : Int), (-2147483648 ≤ u17 ∧ u17 ≤ 2147483647) → (-1 ≤ u17 ∧ u17 < M (a + 2) (4 + v1) ∧ u17 ≤ 39) → (u17 + 2 ≤ (n21 : Int)) → zK w p e 6 0 0 s m args below meth c 4 T Po 34 [.ref (w.2.1 + a), zi v1, zi u1, zi u17] [] (T, M, J, R) := by
          intro n21
          induction n21 with
          | zero =>
            intro u17 h18 h19 hm23
            exfalso
            omega
          | succ n21 ih22 =>
            intro u17 h18 h19 hm23
            refine q_iload_n C dX12_guardOf_34 (n := 35) rfl rfl ?_
            refine q_iload_n C dX12_guardOf_35 (n := 36) rfl rfl ?_
            have J_24 : zK w p e 6 0 0 s m args below meth c 4 T Po 54 [.ref (w.2.1 + a), zi v1, zi u1, zi u17] [] (T, M, J, R) := by
              refine q_iload_n C dX12_guardOf_54 (n := 55) rfl rfl ?_
              refine q_iload_n C dX12_guardOf_55 (n := 56) rfl rfl ?_
              refine q_icmp_ge C 69 dX12_guardOf_56 (n := 59) rfl rfl (by omega) (fun h25 => ?_) (fun h25 => ?_)
              · refine q_iconst C dX12_guardOf_69 (n := 70) rfl ?_
                exact q_iret C dX12_guardOf_70 ⟨rfl, rfl⟩ (by rw [hPo]; exact ⟨0, M, J, rfl, rfl, hI, hK0, by omega⟩)
              · refine q_aload_n C dX12_guardOf_59 (n := 60) rfl rfl ?_
                refine q_iload_n C dX12_guardOf_60 (n := 61) rfl rfl ?_
                refine q_iload_n C dX12_guardOf_61 (n := 62) rfl rfl ?_
                refine q_callVp C dX12_guardOf_62 (n := 65) rfl m_X12_337 v_yX12_roleOf (zM0 h0) ⟨by decide, rfl⟩ (c_X12_roleOf (w := w) (J := J) hI hF h0 v1 u17 p1 (by omega) (by omega)) (Nat.le_of_ble_eq_true rfl) rfl rfl (Nat.le_of_ble_eq_true rfl) ⟨Nat.le_refl _, Nat.le_refl _⟩ (fun x27 h28 => ?_)
                refine q_iconst C dX12_guardOf_65 (n := 66) rfl ?_
                refine q_icmp_eq C 71 dX12_guardOf_66 (n := 69) rfl rfl (by omega) (fun h29 => ?_) (fun h29 => ?_)
                · refine q_aload_n C dX12_guardOf_71 (n := 72) rfl rfl ?_
                  refine q_iload_n C dX12_guardOf_72 (n := 73) rfl rfl ?_
                  refine q_putI C dX12_guardOf_73 (n := 76) rfl f_X12_349 (zM0 h0) ⟨rfl, rfl⟩ (fun M30 (e31 : M30 = zup M a 11 u1) => ?_)
                  have hI32 : zI G M30 := hI.put e31 (zM26 h0) rfl (by omega)
                  have hK33 := hK0.upS e31 rfl
                  refine q_aload_n C dX12_guardOf_76 (n := 77) rfl rfl ?_
                  refine q_iload_n C dX12_guardOf_77 (n := 78) rfl rfl ?_
                  refine q_iload_n C dX12_guardOf_78 (n := 79) rfl rfl ?_
                  have hp34 : zFi M30 a := p1.cg (fun j => (zup_p e31 (by omega) _))
                  refine q_callVi C dX12_guardOf_79 (n := 82) rfl m_X12_352 v_yX12_lexes (zM0 h0) ⟨by decide, rfl⟩ (c_X12_lexes (w := w) (J := J) hI32 hF h0 v1 u1 hp34 (by omega) (by have hz35 : M30 (a + 2) (4 + v1) = M (a + 2) (4 + v1) := (zup_p e31 (by omega) _); omega)) (Nat.le_of_ble_eq_true rfl) rfl rfl (Nat.le_of_ble_eq_true rfl) ⟨Nat.le_refl _, Nat.le_refl _⟩ (fun x47 M43 J44  hI45 h46 => ?_)
                  obtain ⟨hk48, h36, h37, h38, h39, h40, h41, h42⟩ := h46
                  have hK49 := hK33.tr hk48 rfl rfl rfl
                  refine q_if_eq C 138 dX12_guardOf_82 (n := 85) rfl rfl (by omega) (fun h50 => ?_) (fun h50 => ?_)
                  · refine q_iconst C dX12_guardOf_138 (n := 139) rfl ?_
                    exact q_iret C dX12_guardOf_139 ⟨rfl, rfl⟩ (by rw [hPo]; exact ⟨0, M43, J44, rfl, rfl, hI45, hK49, by omega⟩)
                  · refine q_aload_n C dX12_guardOf_85 (n := 86) rfl rfl ?_
                    have g51 := zI.at hI45 (zM58 h0)
                    refine q_getI C dX12_guardOf_86 (n := 89) rfl f_X12_355 (zM0 h0) (v := M43 a 23) rfl ?_
                    refine q_iconst C dX12_guardOf_89 (n := 90) rfl ?_
                    refine q_icmp_ne C 138 dX12_guardOf_90 (n := 93) rfl rfl (by omega) (fun h52 => ?_) (fun h52 => ?_)
                    · refine q_iconst C dX12_guardOf_138 (n := 139) rfl ?_
                      exact q_iret C dX12_guardOf_139 ⟨rfl, rfl⟩ (by rw [hPo]; exact ⟨0, M43, J44, rfl, rfl, hI45, hK49, by omega⟩)
                    · refine q_aload_n C dX12_guardOf_93 (n := 94) rfl rfl ?_
                      refine q_iconst C dX12_guardOf_94 (n := 95) rfl ?_
                      refine q_callVp C dX12_guardOf_95 (n := 98) rfl m_X12_358 v_yX12_isHash (zM0 h0) ⟨by decide, rfl⟩ (c_X12_isHash (w := w) (J := J44) hI45 hF h0 0 (by omega)) (Nat.le_of_ble_eq_true rfl) rfl rfl (Nat.le_of_ble_eq_true rfl) ⟨Nat.le_refl _, Nat.le_refl _⟩ (fun x55 h56 => ?_)
                      obtain ⟨h53, h54⟩ := h56
                      have hz57 : M43 a 0 = M a 0 := ((hk48.getS rfl rfl).trans (zup_n e31 (by omega)))
                      refine q_if_eq C 138 dX12_guardOf_98 (n := 101) rfl rfl (by omega) (fun h58 => ?_) (fun h58 => ?_)
                      · refine q_iconst C dX12_guardOf_138 (n := 139) rfl ?_
                        exact q_iret C dX12_guardOf_139 ⟨rfl, rfl⟩ (by rw [hPo]; exact ⟨0, M43, J44, rfl, rfl, hI45, hK49, by omega⟩)
                      · refine q_aload_n C dX12_guardOf_101 (n := 102) rfl rfl ?_
                        refine q_iconst C dX12_guardOf_102 (n := 103) rfl ?_
                        refine q_callVi C dX12_guardOf_103 (n := 106) rfl m_X12_361 v_yX12_wordOf (zM0 h0) ⟨by decide, rfl⟩ (c_X12_wordOf (w := w) (J := J44) hI45 hF h0 1 (by omega)) (Nat.le_of_ble_eq_true rfl) rfl rfl (Nat.le_of_ble_eq_true rfl) ⟨Nat.le_refl _, Nat.le_refl _⟩ (fun x65 M61 J62  hI63 h64 => ?_)
                        obtain ⟨hk66, h59, h60⟩ := h64
                        have hK67 := hK49.tr hk66 rfl rfl rfl
                        refine q_iconst C dX12_guardOf_106 (n := 107) rfl ?_
                        refine q_icmp_ne C 138 dX12_guardOf_107 (n := 110) rfl rfl (by omega) (fun h68 => ?_) (fun h68 => ?_)
                        · refine q_iconst C dX12_guardOf_138 (n := 139) rfl ?_
                          exact q_iret C dX12_guardOf_139 ⟨rfl, rfl⟩ (by rw [hPo]; exact ⟨0, M61, J62, rfl, rfl, hI63, hK67, by omega⟩)
                        · refine q_aload_n C dX12_guardOf_110 (n := 111) rfl rfl ?_
                          refine q_getR C dX12_guardOf_111 (n := 114) rfl f_X12_40 (zM0 h0) (hF _ _ _ (zM31 h0)) ?_
                          refine q_iconst C dX12_guardOf_114 (n := 115) rfl ?_
                          have g69 := zI.at hI45 ((zM33 h0) 2)
                          refine q_iald C dX12_guardOf_115 (n := 116) rfl (zM32 h0) (by omega) (v := M43 (a + 9) 2) (hk66.getA rfl rfl rfl) ?_
                          refine q_if_ne C 138 dX12_guardOf_116 (n := 119) rfl rfl (by omega) (fun h70 => ?_) (fun h70 => ?_)
                          · refine q_iconst C dX12_guardOf_138 (n := 139) rfl ?_
                            exact q_iret C dX12_guardOf_139 ⟨rfl, rfl⟩ (by rw [hPo]; exact ⟨0, M61, J62, rfl, rfl, hI63, hK67, by omega⟩)
                          · refine q_aload_n C dX12_guardOf_119 (n := 120) rfl rfl ?_
                            refine q_iload_n C dX12_guardOf_120 (n := 121) rfl rfl ?_
                            refine q_iload_n C dX12_guardOf_121 (n := 122) rfl rfl ?_
                            have hp71 : zFi M61 a := hp34.cg (fun j => ((hk66.getA rfl rfl rfl).trans (hk48.getA rfl rfl rfl)))
                            refine q_callVp C dX12_guardOf_122 (n := 125) rfl m_X12_343 v_yX12_behindOf (zM0 h0) ⟨by decide, rfl⟩ (c_X12_behindOf (w := w) (J := J62) hI63 hF h0 v1 u1 hp71 (by omega) (by have hz72 : M61 (a + 2) (4 + v1) = M (a + 2) (4 + v1) := ((hk66.getA rfl rfl rfl).trans ((hk48.getA rfl rfl rfl).trans (zup_p e31 (by omega) _))); omega)) (Nat.le_of_ble_eq_true rfl) rfl rfl (Nat.le_of_ble_eq_true rfl) ⟨Nat.le_refl _, Nat.le_refl _⟩ (fun x74 h75 => ?_)
                            have hz76 : M61 (a + 2) (4 + v1) = M (a + 2) (4 + v1) := ((hk66.getA rfl rfl rfl).trans ((hk48.getA rfl rfl rfl).trans (zup_p e31 (by omega) _)))
                            refine q_iload_n C dX12_guardOf_125 (n := 126) rfl rfl ?_
                            refine q_icmp_ne C 138 dX12_guardOf_126 (n := 129) rfl rfl (by omega) (fun h77 => ?_) (fun h77 => ?_)
                            · refine q_iconst C dX12_guardOf_138 (n := 139) rfl ?_
                              exact q_iret C dX12_guardOf_139 ⟨rfl, rfl⟩ (by rw [hPo]; exact ⟨0, M61, J62, rfl, rfl, hI63, hK67, by omega⟩)
                            · refine q_aload_n C dX12_guardOf_129 (n := 130) rfl rfl ?_
                              refine q_getR C dX12_guardOf_130 (n := 133) rfl f_X12_46 (zM0 h0) (hF _ _ _ (zM37 h0)) ?_
                              refine q_iconst C dX12_guardOf_133 (n := 134) rfl ?_
                              have g78 := zI.at hI45 ((zM39 h0) 2)
                              refine q_iald C dX12_guardOf_134 (n := 135) rfl (zM38 h0) (by omega) (v := M43 (a + 11) 2) (hk66.getA rfl rfl rfl) ?_
                              refine q_goto C 139 dX12_guardOf_135 rfl ?_
                              exact q_iret C dX12_guardOf_139 ⟨rfl, rfl⟩ (by rw [hPo]; exact ⟨M43 (a + 11) 2, M61, J62, rfl, rfl, hI63, hK67, by omega⟩)
                · refine q_iconst C dX12_guardOf_69 (n := 70) rfl ?_
                  exact q_iret C dX12_guardOf_70 ⟨rfl, rfl⟩ (by rw [hPo]; exact ⟨0, M, J, rfl, rfl, hI, hK0, by omega⟩)
            refine q_icmp_le C 54 dX12_guardOf_36 (n := 39) rfl rfl (by omega) (fun h79 => ?_) (fun h79 => ?_)
            · exact zK.weak (J_24) (zwk_c (zwk_c (zwk_c (zwk_c zwk_e))))
            · refine q_aload_n C dX12_guardOf_39 (n := 40) rfl rfl ?_
              refine q_iload_n C dX12_guardOf_40 (n := 41) rfl rfl ?_
              refine q_iload_n C dX12_guardOf_41 (n := 42) rfl rfl ?_
              refine q_callVp C dX12_guardOf_42 (n := 45) rfl m_X12_346 v_yX12_isBlankLine (zM0 h0) ⟨by decide, rfl⟩ (c_X12_isBlankLine (w := w) (J := J) hI hF h0 v1 u17 p1 (by omega) (by omega)) (Nat.le_of_ble_eq_true rfl) rfl rfl (Nat.le_of_ble_eq_true rfl) ⟨Nat.le_refl _, Nat.le_refl _⟩ (fun x81 h82 => ?_)
              refine q_if_eq C 54 dX12_guardOf_45 (n := 48) rfl rfl (by omega) (fun h83 => ?_) (fun h83 => ?_)
              · exact zK.weak (J_24) (zwk_c (zwk_c (zwk_c (zwk_c zwk_e))))
              · refine q_iinc C [.ref (w.2.1 + a), zi v1, zi u1, zi (u17 + (-1))] dX12_guardOf_48 (n := 51) rfl rfl rfl rfl ?_
                refine q_goto C 34 dX12_guardOf_51 rfl ?_
                exact zK.weak (ih22 (u17 + (-1)) (by omega) (by omega) (by omega)) (zwk_c (zwk_c (zwk_c (zwk_c zwk_e))))
        exact zK.weak (L_20 _ (x15 - 1) (by omega) (by omega) (Int.self_le_toNat _)) (zwk_c (zwk_c (zwk_c (zwk_c zwk_e))))
      refine q_icmp_ge C 26 dX12_guardOf_8 (n := 11) rfl rfl (by omega) (fun h84 => ?_) (fun h84 => ?_)
      · exact zK.weak (J_12) (zwk_c (zwk_c (zwk_c (zwk_n zwk_e))))
      · refine q_aload_n C dX12_guardOf_11 (n := 12) rfl rfl ?_
        refine q_iload_n C dX12_guardOf_12 (n := 13) rfl rfl ?_
        refine q_iload_n C dX12_guardOf_13 (n := 14) rfl rfl ?_
        refine q_callVp C dX12_guardOf_14 (n := 17) rfl m_X12_346 v_yX12_isBlankLine (zM0 h0) ⟨by decide, rfl⟩ (c_X12_isBlankLine (w := w) (J := J) hI hF h0 v1 u1 p1 (by omega) (by omega)) (Nat.le_of_ble_eq_true rfl) rfl rfl (Nat.le_of_ble_eq_true rfl) ⟨Nat.le_refl _, Nat.le_refl _⟩ (fun x86 h87 => ?_)
        refine q_if_eq C 26 dX12_guardOf_17 (n := 20) rfl rfl (by omega) (fun h88 => ?_) (fun h88 => ?_)
        · exact zK.weak (J_12) (zwk_c (zwk_c (zwk_c (zwk_n zwk_e))))
        · refine q_iinc C [.ref (w.2.1 + a), zi v1, zi (u1 + 1), .null] dX12_guardOf_20 (n := 23) rfl rfl rfl rfl ?_
          refine q_goto C 2 dX12_guardOf_23 rfl ?_
          exact zK.weak (ih6 (u1 + 1) (by omega) (by omega) (by omega)) (zwk_c (zwk_c (zwk_c (zwk_n zwk_e))))
  exact zK.weak (L_4 _ 0 (by omega) (by omega) (Int.self_le_toNat _)) (zwk_c (zwk_c (zwk_c (zwk_n zwk_e))))
theorem c_X12_guard {w : zWp} {T : zTl} {M : zMm} {J : zJm} {R : zRm'} {G : zGt} {F : zRm'} {a : Nat} (hI : zI G M) (hF : zF F R) (h0 : zModel T F G a) (v1 : Int) (p1 : zFi M a) (p2 : -2147483648 ≤ v1 ∧ v1 ≤ 2147483647) : zCt w 7 0 0 yX12_guard cX12_guard 4 (some .int) [.ref (w.2.1 + a), zi v1] (T, M, J, R) (zPi T R G (fun x M2 => (zMd a [8, 9, 10, 11, 12, 13, 14, 15, 16, 17, 22] [0, 11, 13, 23, 24, 25, 26, 27, 28, 29, 34] [(18, 11), (18, 12), (18, 13), (18, 14)] M M2))) := by
  refine zCt.of rfl (Nat.le_of_ble_eq_true rfl) ?_
  intro p e s m args below meth c C
  obtain ⟨Po, hPo⟩ : ∃ Po, Po = zPi T R G (fun x M2 => (zMd a [8, 9, 10, 11, 12, 13, 14, 15, 16, 17, 22] [0, 11, 13, 23, 24, 25, 26, 27, 28, 29, 34] [(18, 11), (18, 12), (18, 13), (18, 14)] M M2)) := ⟨_, rfl⟩
  rw [← hPo]
  have hK0 : zMd a [8, 9, 10, 11, 12, 13, 14, 15, 16, 17, 22] [0, 11, 13, 23, 24, 25, 26, 27, 28, 29, 34] [(18, 11), (18, 12), (18, 13), (18, 14)] M M := zMd.rf
  show zK w p e 7 0 0 s m args below meth c 4 T Po 0 [.ref (w.2.1 + a), zi v1, .null, .null] [] (T, M, J, R)
  refine q_aload_n C dX12_guard_0 (n := 1) rfl rfl ?_
  refine q_iconst C dX12_guard_1 (n := 2) rfl ?_
  refine q_putI C dX12_guard_2 (n := 5) rfl f_X12_1 (zM0 h0) ⟨rfl, rfl⟩ (fun M1 (e2 : M1 = zup M a 0 0) => ?_)
  have hI3 : zI G M1 := hI.put e2 (zM1 h0) rfl (by omega)
  have hK4 := hK0.upS e2 rfl
  refine q_aload_n C dX12_guard_5 (n := 6) rfl rfl ?_
  refine q_iload_n C dX12_guard_6 (n := 7) rfl rfl ?_
  refine q_callVp C dX12_guard_7 (n := 10) rfl m_X12_281 v_yX12_isFile (zM0 h0) ⟨by decide, rfl⟩ (c_X12_isFile (w := w) (J := J) hI3 hF h0 v1 (by omega)) (Nat.le_of_ble_eq_true rfl) rfl rfl (Nat.le_of_ble_eq_true rfl) ⟨Nat.le_refl _, Nat.le_refl _⟩ (fun x7 h8 => ?_)
  obtain ⟨h5, h6⟩ := h8
  refine q_if_ne C 15 dX12_guard_10 (n := 13) rfl rfl (by omega) (fun h9 => ?_) (fun h9 => ?_)
  · refine q_aload_n C dX12_guard_15 (n := 16) rfl rfl ?_
    refine q_iload_n C dX12_guard_16 (n := 17) rfl rfl ?_
    have hp10 : zFi M1 a := p1.cg (fun j => (zup_p e2 (by omega) _))
    refine q_callVi C dX12_guard_17 (n := 20) rfl m_X12_364 v_yX12_guardOf (zM0 h0) ⟨by decide, rfl⟩ (c_X12_guardOf (w := w) (J := J) hI3 hF h0 v1 hp10 (by omega)) (Nat.le_of_ble_eq_true rfl) rfl rfl (Nat.le_of_ble_eq_true rfl) ⟨Nat.le_refl _, Nat.le_refl _⟩ (fun x16 M12 J13  hI14 h15 => ?_)
    obtain ⟨hk17, h11⟩ := h15
    have hK18 := hK4.tr hk17 rfl rfl rfl
    refine q_istore_n C [.ref (w.2.1 + a), zi v1, zi x16, .null] dX12_guard_20 (n := 21) rfl rfl rfl ?_
    refine q_iload_n C dX12_guard_21 (n := 22) rfl rfl ?_
    refine q_if_ne C 27 dX12_guard_22 (n := 25) rfl rfl (by omega) (fun h19 => ?_) (fun h19 => ?_)
    · refine q_aload_n C dX12_guard_27 (n := 28) rfl rfl ?_
      refine q_iload_n C dX12_guard_28 (n := 29) rfl rfl ?_
      refine q_putI C dX12_guard_29 (n := 32) rfl f_X12_367 (zM0 h0) ⟨rfl, rfl⟩ (fun M20 (e21 : M20 = zup M12 a 13 x16) => ?_)
      have hI22 : zI G M20 := hI14.put e21 (zM30 h0) rfl (by omega)
      have hK23 := hK18.upS e21 rfl
      refine q_iconst C dX12_guard_32 (n := 33) rfl ?_
      refine q_istore_n C [.ref (w.2.1 + a), zi v1, zi x16, zi 0] dX12_guard_33 (n := 34) rfl rfl rfl ?_
      have L_33 : ∀ n34 : Nat, ∀ (u24 : Int) (M26 : zMm) (J27 : zJm), zI G M26 → zMd a [8, 9, 10, 11, 12, 13, 14, 15, 16, 17, 22] [0, 11, 13, 23, 24, 25, 26, 27, 28, 29, 34] [(18, 11), (18, 12), (18, 13), (18, 14)] M M26 → zMd a [8] [] [] M20 M26 → (-2147483648 ≤ u24 ∧ u24 ≤ 2147483647) → (0 ≤ u24 ∧ u24 ≤ x16) → (30 - u24 + 1 ≤ (n34 : Int)) → zK w p e 7 0 0 s m args below meth c 4 T Po 34 [.ref (w.2.1 + a), .null, zi x16, zi u24] [] (T, M26, J27, R) := by
        intro n34
        induction n34 with
        | zero =>
          intro u24 M26 J27 hI28 hK29 hK30 h31 h32 hm36
          exfalso
          omega
        | succ n34 ih35 =>
          intro u24 M26 J27 hI28 hK29 hK30 h31 h32 hm36
          refine q_iload_n C dX12_guard_34 (n := 35) rfl rfl ?_
          refine q_iload_n C dX12_guard_35 (n := 36) rfl rfl ?_
          refine q_icmp_ge C 58 dX12_guard_36 (n := 39) rfl rfl (by omega) (fun h37 => ?_) (fun h37 => ?_)
          · refine q_iload_n C dX12_guard_58 (n := 59) rfl rfl ?_
            exact q_iret C dX12_guard_59 ⟨rfl, rfl⟩ (by rw [hPo]; exact ⟨x16, M26, J27, rfl, rfl, hI28, hK29⟩)
          · refine q_aload_n C dX12_guard_39 (n := 40) rfl rfl ?_
            refine q_getR C dX12_guard_40 (n := 43) rfl f_X12_37 (zM0 h0) (hF _ _ _ (zM27 h0)) ?_
            refine q_iload_n C dX12_guard_43 (n := 44) rfl rfl ?_
            refine q_aload_n C dX12_guard_44 (n := 45) rfl rfl ?_
            refine q_iconst C dX12_guard_45 (n := 46) rfl ?_
            refine q_iload_n C dX12_guard_46 (n := 47) rfl rfl ?_
            refine q_callVp C dX12_guard_47 (n := 50) rfl m_X12_370 v_yX12_byteIn (zM0 h0) ⟨by decide, rfl⟩ (c_X12_byteIn (w := w) (J := J27) hI28 hF h0 2 u24 (by omega) (by omega)) (Nat.le_of_ble_eq_true rfl) rfl rfl (Nat.le_of_ble_eq_true rfl) ⟨Nat.le_refl _, Nat.le_refl _⟩ (fun x40 h41 => ?_)
            obtain ⟨h38, h39⟩ := h41
            have hz42 : M26 a 2 = M a 2 := ((hK30.getS rfl rfl).trans ((zup_n e21 (by omega)).trans ((hk17.getS rfl rfl).trans (zup_n e2 (by omega)))))
            refine q_i2b C dX12_guard_50 (n := 51) rfl (v := zi2b x40) rfl ?_
            have g43 := z8_r x40
            refine q_bast C dX12_guard_51 (n := 52) rfl (zM28 h0) (by omega) (by omega) (fun M44 e45 => ?_)
            have hI46 : zI G M44 := hI28.put e45 ((zM29 h0) u24) rfl (by omega)
            have hK47 := hK29.upA e45 rfl
            have hK48 := hK30.upA e45 rfl
            refine q_iinc C [.ref (w.2.1 + a), .null, zi x16, zi (u24 + 1)] dX12_guard_52 (n := 55) rfl rfl rfl rfl ?_
            refine q_goto C 34 dX12_guard_55 rfl ?_
            exact zK.weak (ih35 (u24 + 1) M44 J27 hI46 hK47 hK48 (by omega) (by omega) (by omega)) (zwk_c (zwk_n (zwk_c (zwk_c zwk_e))))
      exact zK.weak (L_33 _ 0 M20 J13 hI22 hK23 (zMd.rf : zMd a [8] [] [] M20 M20) (by omega) (by omega) (Int.self_le_toNat _)) (zwk_c (zwk_n (zwk_c (zwk_c zwk_e))))
    · refine q_iconst C dX12_guard_25 (n := 26) rfl ?_
      exact q_iret C dX12_guard_26 ⟨rfl, rfl⟩ (by rw [hPo]; exact ⟨0, M12, J13, rfl, rfl, hI14, hK18⟩)
  · refine q_iconst C dX12_guard_13 (n := 14) rfl ?_
    exact q_iret C dX12_guard_14 ⟨rfl, rfl⟩ (by rw [hPo]; exact ⟨(-1), M1, J, rfl, rfl, hI3, hK4⟩)
theorem c_X12_guardAt {w : zWp} {T : zTl} {M : zMm} {J : zJm} {R : zRm'} {G : zGt} {F : zRm'} {a : Nat} (hI : zI G M) (hF : zF F R) (h0 : zModel T F G a) (v1 : Int) (p1 : -2147483648 ≤ v1 ∧ v1 ≤ 2147483647) : zCt w 2 0 0 yX12_guardAt cX12_guardAt 2 (some .int) [.ref (w.2.1 + a), zi v1] (T, M, J, R) (zPi T R G (fun x M2 => (zMd a [] [0] [] M M2))) := by
  refine zCt.of rfl (Nat.le_of_ble_eq_true rfl) ?_
  intro p e s m args below meth c C
  obtain ⟨Po, hPo⟩ : ∃ Po, Po = zPi T R G (fun x M2 => (zMd a [] [0] [] M M2)) := ⟨_, rfl⟩
  rw [← hPo]
  have hK0 : zMd a [] [0] [] M M := zMd.rf
  show zK w p e 2 0 0 s m args below meth c 2 T Po 0 [.ref (w.2.1 + a), zi v1] [] (T, M, J, R)
  refine q_aload_n C dX12_guardAt_0 (n := 1) rfl rfl ?_
  refine q_iconst C dX12_guardAt_1 (n := 2) rfl ?_
  refine q_putI C dX12_guardAt_2 (n := 5) rfl f_X12_1 (zM0 h0) ⟨rfl, rfl⟩ (fun M1 (e2 : M1 = zup M a 0 0) => ?_)
  have hI3 : zI G M1 := hI.put e2 (zM1 h0) rfl (by omega)
  have hK4 := hK0.upS e2 rfl
  refine q_iload_n C dX12_guardAt_5 (n := 6) rfl rfl ?_
  refine q_iconst C dX12_guardAt_6 (n := 7) rfl ?_
  refine q_aload_n C dX12_guardAt_7 (n := 8) rfl rfl ?_
  have g5 := zI.at hI (zM30 h0)
  refine q_getI C dX12_guardAt_8 (n := 11) rfl f_X12_367 (zM0 h0) (v := M a 13) (zup_n e2 (by omega)) ?_
  refine q_iconst C dX12_guardAt_11 (n := 12) rfl ?_
  refine q_isub C dX12_guardAt_12 (n := 13) rfl (v := (M a 13) - 1) rfl ?_
  refine q_callSp C dX12_guardAt_13 (n := 16) rfl m_X12_277 s_yX12_isIn (c_X12_isIn (w := w) (J := J) hI3 hF v1 0 ((M a 13) - 1) (by omega) (by omega) (by omega)) (Nat.le_of_ble_eq_true rfl) rfl rfl (Nat.le_of_ble_eq_true rfl) ⟨Nat.le_refl _, Nat.le_refl _⟩ (fun x9 h10 => ?_)
  obtain ⟨h6, h7, h8⟩ := h10
  refine q_if_eq C 28 dX12_guardAt_16 (n := 19) rfl rfl (by omega) (fun h11 => ?_) (fun h11 => ?_)
  · refine q_iconst C dX12_guardAt_28 (n := 29) rfl ?_
    exact q_iret C dX12_guardAt_29 ⟨rfl, rfl⟩ (by rw [hPo]; exact ⟨(-1), M1, J, rfl, rfl, hI3, hK4⟩)
  · refine q_aload_n C dX12_guardAt_19 (n := 20) rfl rfl ?_
    refine q_getR C dX12_guardAt_20 (n := 23) rfl f_X12_37 (zM0 h0) (hF _ _ _ (zM27 h0)) ?_
    refine q_iload_n C dX12_guardAt_23 (n := 24) rfl rfl ?_
    have g12 := zI.at hI ((zM29 h0) v1)
    refine q_bald C dX12_guardAt_24 (n := 25) rfl (zM28 h0) (by omega) (v := M (a + 8) v1) (zup_p e2 (by omega) _) ?_
    refine q_goto C 29 dX12_guardAt_25 rfl ?_
    exact q_iret C dX12_guardAt_29 ⟨rfl, rfl⟩ (by rw [hPo]; exact ⟨M (a + 8) v1, M1, J, rfl, rfl, hI3, hK4⟩)
theorem c_X12_image {w : zWp} {T : zTl} {M : zMm} {J : zJm} {R : zRm'} {G : zGt} {F : zRm'} {a : Nat} (hI : zI G M) (hF : zF F R) (h0 : zModel T F G a) (v1 : Int) (p1 : zFi M a) (p2 : zFk M a) (p3 : -2147483648 ≤ v1 ∧ v1 ≤ 2147483647) : zCt w 2 0 0 yX12_image cX12_image 3 (some .boolean) [.ref (w.2.1 + a), zi v1] (T, M, J, R) (zPi T R G (fun x M2 => (zMd a [3, 5, 6] [0] [] M M2) ∧ (x = 0 ∨ x = 1) ∧ (zFk M2 a) ∧ (x = 0 ∨ 0 ≤ v1 ∧ v1 ≤ 1) ∧ (x = 1 ∨ v1 < 0 ∨ 1 < v1) ∧ (∀ j : Int, M2 (a + 6) j = M (a + 6) j ∨ j = v1 ∧ x = 1 ∧ M2 (a + 6) j = 1) ∧ (x = 1 → M2 (a + 6) v1 = 1))) := by
  refine zCt.of rfl (Nat.le_of_ble_eq_true rfl) ?_
  intro p e s m args below meth c C
  obtain ⟨Po, hPo⟩ : ∃ Po, Po = zPi T R G (fun x M2 => (zMd a [3, 5, 6] [0] [] M M2) ∧ (x = 0 ∨ x = 1) ∧ (zFk M2 a) ∧ (x = 0 ∨ 0 ≤ v1 ∧ v1 ≤ 1) ∧ (x = 1 ∨ v1 < 0 ∨ 1 < v1) ∧ (∀ j : Int, M2 (a + 6) j = M (a + 6) j ∨ j = v1 ∧ x = 1 ∧ M2 (a + 6) j = 1) ∧ (x = 1 → M2 (a + 6) v1 = 1)) := ⟨_, rfl⟩
  rw [← hPo]
  have hK0 : zMd a [3, 5, 6] [0] [] M M := zMd.rf
  show zK w p e 2 0 0 s m args below meth c 3 T Po 0 [.ref (w.2.1 + a), zi v1, .null] [] (T, M, J, R)
  refine q_aload_n C dX12_image_0 (n := 1) rfl rfl ?_
  refine q_iconst C dX12_image_1 (n := 2) rfl ?_
  refine q_putI C dX12_image_2 (n := 5) rfl f_X12_1 (zM0 h0) ⟨rfl, rfl⟩ (fun M1 (e2 : M1 = zup M a 0 0) => ?_)
  have hI3 : zI G M1 := hI.put e2 (zM1 h0) rfl (by omega)
  have hK4 := hK0.upS e2 rfl
  refine q_iload_n C dX12_image_5 (n := 6) rfl rfl ?_
  refine q_iconst C dX12_image_6 (n := 7) rfl ?_
  refine q_iconst C dX12_image_7 (n := 8) rfl ?_
  refine q_callSp C dX12_image_8 (n := 11) rfl m_X12_277 s_yX12_isIn (c_X12_isIn (w := w) (J := J) hI3 hF v1 0 1 (by omega) (by omega) (by omega)) (Nat.le_of_ble_eq_true rfl) rfl rfl (Nat.le_of_ble_eq_true rfl) ⟨Nat.le_refl _, Nat.le_refl _⟩ (fun x8 h9 => ?_)
  obtain ⟨h5, h6, h7⟩ := h9
  refine q_if_ne C 16 dX12_image_11 (n := 14) rfl rfl (by omega) (fun h10 => ?_) (fun h10 => ?_)
  · refine q_iconst C dX12_image_16 (n := 17) rfl ?_
    refine q_istore_n C [.ref (w.2.1 + a), zi v1, zi 0] dX12_image_17 (n := 18) rfl rfl rfl ?_
    have L_21 : ∀ n22 : Nat, ∀ (u11 : Int) (M13 : zMm) (J14 : zJm), zI G M13 → zMd a [3, 5, 6] [0] [] M M13 → zMd a [3] [] [] M1 M13 → (-2147483648 ≤ u11 ∧ u11 ≤ 2147483647) → (0 ≤ u11 ∧ u11 ≤ 173) → (zImg M13 M a v1 u11) → (173 - u11 + 1 ≤ (n22 : Int)) → zK w p e 2 0 0 s m args below meth c 3 T Po 18 [.ref (w.2.1 + a), zi v1, zi u11] [] (T, M13, J14, R) := by
      intro n22
      induction n22 with
      | zero =>
        intro u11 M13 J14 hI15 hK16 hK17 h18 h19 h20 hm24
        exfalso
        omega
      | succ n22 ih23 =>
        intro u11 M13 J14 hI15 hK16 hK17 h18 h19 h20 hm24
        refine q_iload_n C dX12_image_18 (n := 19) rfl rfl ?_
        refine q_sipush C dX12_image_19 (n := 22) rfl (x := 173) (by decide) ?_
        refine q_icmp_ge C 49 dX12_image_22 (n := 25) rfl rfl (by omega) (fun h25 => ?_) (fun h25 => ?_)
        · refine q_iconst C dX12_image_49 (n := 50) rfl ?_
          refine q_istore_n C [.ref (w.2.1 + a), zi v1, zi 0] dX12_image_50 (n := 51) rfl rfl rfl ?_
          have L_35 : ∀ n36 : Nat, ∀ (u26 : Int) (M28 : zMm) (J29 : zJm), zI G M28 → zMd a [3, 5, 6] [0] [] M M28 → zMd a [5] [] [] M13 M28 → (-2147483648 ≤ u26 ∧ u26 ≤ 2147483647) → (0 ≤ u26 ∧ u26 ≤ 1690) → (1690 - u26 + 1 ≤ (n36 : Int)) → zK w p e 2 0 0 s m args below meth c 3 T Po 51 [.ref (w.2.1 + a), zi v1, zi u26] [] (T, M28, J29, R) := by
            intro n36
            induction n36 with
            | zero =>
              intro u26 M28 J29 hI30 hK31 hK32 h33 h34 hm38
              exfalso
              omega
            | succ n36 ih37 =>
              intro u26 M28 J29 hI30 hK31 hK32 h33 h34 hm38
              refine q_iload_n C dX12_image_51 (n := 52) rfl rfl ?_
              refine q_sipush C dX12_image_52 (n := 55) rfl (x := 1690) (by decide) ?_
              refine q_icmp_ge C 82 dX12_image_55 (n := 58) rfl rfl (by omega) (fun h39 => ?_) (fun h39 => ?_)
              · refine q_aload_n C dX12_image_82 (n := 83) rfl rfl ?_
                refine q_getR C dX12_image_83 (n := 86) rfl f_X12_30 (zM0 h0) (hF _ _ _ (zM19 h0)) ?_
                refine q_iload_n C dX12_image_86 (n := 87) rfl rfl ?_
                refine q_iconst C dX12_image_87 (n := 88) rfl ?_
                refine q_zast C dX12_image_88 (n := 89) rfl (zM20 h0) (by omega) (by omega) (fun M40 e41 => ?_)
                have hI42 : zI G M40 := hI30.put e41 ((zM21 h0) v1) rfl (by omega)
                have hK43 := hK31.upA e41 rfl
                refine q_iconst C dX12_image_89 (n := 90) rfl ?_
                have hp45 : zImg M40 M a v1 u11 := h20.cg (fun j => ((zup_p e41 (by omega) _).trans (hK32.getA rfl rfl rfl)))
                have ge : u11 = 173 := by omega
                exact q_zret C dX12_image_90 ⟨rfl, rfl⟩ (by omega) (by rw [hPo]; exact ⟨1, M40, J29, rfl, rfl, hI42, hK43, by omega, (zImg.fk (by rw [← ge]; exact hp45) hI h0 (by omega) p1 p2), by omega, by omega, (fun j => (Decidable.em (j = v1)).elim (fun hj => Or.inr ⟨hj, by omega, by rw [hj]; exact zup_s e41⟩) (fun hj => Or.inl ((zup_n e41 (fun z => hj z.2)).trans ((hK32.getA rfl rfl rfl).trans ((hK17.getA rfl rfl rfl).trans (zup_p e2 (by omega) _)))))), (fun _ => zup_s e41)⟩)
              · refine q_aload_n C dX12_image_58 (n := 59) rfl rfl ?_
                refine q_getR C dX12_image_59 (n := 62) rfl f_X12_27 (zM0 h0) (hF _ _ _ (zM16 h0)) ?_
                refine q_sipush C dX12_image_62 (n := 65) rfl (x := 1690) (by decide) ?_
                refine q_iload_n C dX12_image_65 (n := 66) rfl rfl ?_
                refine q_imul C dX12_image_66 (n := 67) rfl (v := 1690 * v1) rfl ?_
                refine q_iload_n C dX12_image_67 (n := 68) rfl rfl ?_
                refine q_iadd C dX12_image_68 (n := 69) rfl (v := (1690 * v1) + u26) rfl ?_
                refine q_aload_n C dX12_image_69 (n := 70) rfl rfl ?_
                refine q_getR C dX12_image_70 (n := 73) rfl f_X12_24 (zM0 h0) (hF _ _ _ (zM13 h0)) ?_
                refine q_iload_n C dX12_image_73 (n := 74) rfl rfl ?_
                have g46 := zI.at hI ((zM15 h0) u26)
                refine q_bald C dX12_image_74 (n := 75) rfl (zM14 h0) (by omega) (v := M (a + 4) u26) ((hK32.getA rfl rfl rfl).trans ((hK17.getA rfl rfl rfl).trans (zup_p e2 (by omega) _))) ?_
                refine q_bast C dX12_image_75 (n := 76) rfl (zM17 h0) (by omega) (by omega) (fun M47 e48 => ?_)
                have hI49 : zI G M47 := hI30.put e48 ((zM18 h0) ((1690 * v1) + u26)) rfl (by omega)
                have hK50 := hK31.upA e48 rfl
                have hK51 := hK32.upA e48 rfl
                refine q_iinc C [.ref (w.2.1 + a), zi v1, zi (u26 + 1)] dX12_image_76 (n := 79) rfl rfl rfl rfl ?_
                refine q_goto C 51 dX12_image_79 rfl ?_
                exact zK.weak (ih37 (u26 + 1) M47 J29 hI49 hK50 hK51 (by omega) (by omega) (by omega)) (zwk_c (zwk_c (zwk_c zwk_e)))
          exact zK.weak (L_35 _ 0 M13 J14 hI15 hK16 (zMd.rf : zMd a [5] [] [] M13 M13) (by omega) (by omega) (Int.self_le_toNat _)) (zwk_c (zwk_c (zwk_c zwk_e)))
        · refine q_aload_n C dX12_image_25 (n := 26) rfl rfl ?_
          refine q_getR C dX12_image_26 (n := 29) rfl f_X12_21 (zM0 h0) (hF _ _ _ (zM10 h0)) ?_
          refine q_sipush C dX12_image_29 (n := 32) rfl (x := 173) (by decide) ?_
          refine q_iload_n C dX12_image_32 (n := 33) rfl rfl ?_
          refine q_imul C dX12_image_33 (n := 34) rfl (v := 173 * v1) rfl ?_
          refine q_iload_n C dX12_image_34 (n := 35) rfl rfl ?_
          refine q_iadd C dX12_image_35 (n := 36) rfl (v := (173 * v1) + u11) rfl ?_
          refine q_aload_n C dX12_image_36 (n := 37) rfl rfl ?_
          refine q_getR C dX12_image_37 (n := 40) rfl f_X12_17 (zM0 h0) (hF _ _ _ (zM7 h0)) ?_
          refine q_iload_n C dX12_image_40 (n := 41) rfl rfl ?_
          have g52 := zI.at hI (((zM9 h0) u11).trans (zfG_e u11))
          refine q_iald C dX12_image_41 (n := 42) rfl (zM8 h0) (by omega) (v := M (a + 2) u11) ((hK17.getA rfl rfl rfl).trans (zup_p e2 (by omega) _)) ?_
          refine q_iast C dX12_image_42 (n := 43) rfl (zM11 h0) (by omega)  (fun M53 e54 => ?_)
          have hI55 : zI G M53 := hI15.put e54 (((zM12 h0) ((173 * v1) + u11)).trans (zkG_e (by omega) (by omega))) rfl (by omega)
          have hK56 := hK16.upA e54 rfl
          have hK57 := hK17.upA e54 rfl
          refine q_iinc C [.ref (w.2.1 + a), zi v1, zi (u11 + 1)] dX12_image_43 (n := 46) rfl rfl rfl rfl ?_
          refine q_goto C 18 dX12_image_46 rfl ?_
          exact zK.weak (ih23 (u11 + 1) M53 J14 hI55 hK56 hK57 (by omega) (by omega) (h20.step e54 (by omega)) (by omega)) (zwk_c (zwk_c (zwk_c zwk_e)))
    exact zK.weak (L_21 _ 0 M1 J hI3 hK4 (zMd.rf : zMd a [3] [] [] M1 M1) (by omega) (by omega) (zImg.zero (fun j => (zup_p e2 (by omega) _))) (Int.self_le_toNat _)) (zwk_c (zwk_c (zwk_c zwk_e)))
  · refine q_iconst C dX12_image_14 (n := 15) rfl ?_
    have hp58 : zFk M1 a := p2.cg (fun j => (zup_p e2 (by omega) _))
    exact q_zret C dX12_image_15 ⟨rfl, rfl⟩ (by omega) (by rw [hPo]; exact ⟨0, M1, J, rfl, rfl, hI3, hK4, by omega, hp58, by omega, by omega, (fun j => Or.inl (zup_p e2 (by omega) _)), (fun h => absurd h (by omega))⟩)
theorem c_X12_restore {w : zWp} {T : zTl} {M : zMm} {J : zJm} {R : zRm'} {G : zGt} {F : zRm'} {a : Nat} (hI : zI G M) (hF : zF F R) (h0 : zModel T F G a) (v1 : Int) (p1 : zFi M a) (p2 : zFk M a) (p3 : -2147483648 ≤ v1 ∧ v1 ≤ 2147483647) : zCt w 2 0 0 yX12_restore cX12_restore 3 (some .boolean) [.ref (w.2.1 + a), zi v1] (T, M, J, R) (zPi T R G (fun x M2 => (zMd a [2, 4] [0, 9] [] M M2) ∧ (x = 0 ∨ x = 1) ∧ (zFi M2 a) ∧ (x = 1 ∧ 0 ≤ v1 ∧ v1 < 2 ∧ M (a + 6) v1 = 1 ∨ x = 0 ∧ (v1 < 0 ∨ 2 ≤ v1 ∨ M (a + 6) v1 = 0)))) := by
  refine zCt.of rfl (Nat.le_of_ble_eq_true rfl) ?_
  intro p e s m args below meth c C
  obtain ⟨Po, hPo⟩ : ∃ Po, Po = zPi T R G (fun x M2 => (zMd a [2, 4] [0, 9] [] M M2) ∧ (x = 0 ∨ x = 1) ∧ (zFi M2 a) ∧ (x = 1 ∧ 0 ≤ v1 ∧ v1 < 2 ∧ M (a + 6) v1 = 1 ∨ x = 0 ∧ (v1 < 0 ∨ 2 ≤ v1 ∨ M (a + 6) v1 = 0))) := ⟨_, rfl⟩
  rw [← hPo]
  have hK0 : zMd a [2, 4] [0, 9] [] M M := zMd.rf
  show zK w p e 2 0 0 s m args below meth c 3 T Po 0 [.ref (w.2.1 + a), zi v1, .null] [] (T, M, J, R)
  refine q_aload_n C dX12_restore_0 (n := 1) rfl rfl ?_
  refine q_iconst C dX12_restore_1 (n := 2) rfl ?_
  refine q_putI C dX12_restore_2 (n := 5) rfl f_X12_1 (zM0 h0) ⟨rfl, rfl⟩ (fun M1 (e2 : M1 = zup M a 0 0) => ?_)
  have hI3 : zI G M1 := hI.put e2 (zM1 h0) rfl (by omega)
  have hK4 := hK0.upS e2 rfl
  refine q_iload_n C dX12_restore_5 (n := 6) rfl rfl ?_
  refine q_iconst C dX12_restore_6 (n := 7) rfl ?_
  refine q_iconst C dX12_restore_7 (n := 8) rfl ?_
  refine q_callSp C dX12_restore_8 (n := 11) rfl m_X12_277 s_yX12_isIn (c_X12_isIn (w := w) (J := J) hI3 hF v1 0 1 (by omega) (by omega) (by omega)) (Nat.le_of_ble_eq_true rfl) rfl rfl (Nat.le_of_ble_eq_true rfl) ⟨Nat.le_refl _, Nat.le_refl _⟩ (fun x8 h9 => ?_)
  obtain ⟨h5, h6, h7⟩ := h9
  have J_11 : (v1 < 0 ∨ 1 < v1 ∨ M (a + 6) v1 = 0) → zK w p e 2 0 0 s m args below meth c 3 T Po 23 [.null, .null, .null] [] (T, M1, J, R) := by
    intro h10
    refine q_iconst C dX12_restore_23 (n := 24) rfl ?_
    have hp12 : zFi M1 a := p1.cg (fun j => (zup_p e2 (by omega) _))
    exact q_zret C dX12_restore_24 ⟨rfl, rfl⟩ (by omega) (by rw [hPo]; exact ⟨0, M1, J, rfl, rfl, hI3, hK4, by omega, hp12, by omega⟩)
  refine q_if_eq C 23 dX12_restore_11 (n := 14) rfl rfl (by omega) (fun h13 => ?_) (fun h13 => ?_)
  · exact zK.weak (J_11 (by omega)) (zwk_n (zwk_n (zwk_n zwk_e)))
  · refine q_aload_n C dX12_restore_14 (n := 15) rfl rfl ?_
    refine q_getR C dX12_restore_15 (n := 18) rfl f_X12_30 (zM0 h0) (hF _ _ _ (zM19 h0)) ?_
    refine q_iload_n C dX12_restore_18 (n := 19) rfl rfl ?_
    have g14 := zI.at hI ((zM21 h0) v1)
    refine q_zald C dX12_restore_19 (n := 20) rfl (zM20 h0) (by omega) (v := M (a + 6) v1) (zup_p e2 (by omega) _) ?_
    refine q_if_ne C 25 dX12_restore_20 (n := 23) rfl rfl (by omega) (fun h15 => ?_) (fun h15 => ?_)
    · refine q_iconst C dX12_restore_25 (n := 26) rfl ?_
      refine q_istore_n C [.ref (w.2.1 + a), zi v1, zi 0] dX12_restore_26 (n := 27) rfl rfl rfl ?_
      have L_26 : ∀ n27 : Nat, ∀ (u16 : Int) (M18 : zMm) (J19 : zJm), zI G M18 → zMd a [2, 4] [0, 9] [] M M18 → zMd a [2] [] [] M1 M18 → (-2147483648 ≤ u16 ∧ u16 ≤ 2147483647) → (0 ≤ u16 ∧ u16 ≤ 173) → (zRst M18 M a v1 u16) → (173 - u16 + 1 ≤ (n27 : Int)) → zK w p e 2 0 0 s m args below meth c 3 T Po 27 [.ref (w.2.1 + a), zi v1, zi u16] [] (T, M18, J19, R) := by
        intro n27
        induction n27 with
        | zero =>
          intro u16 M18 J19 hI20 hK21 hK22 h23 h24 h25 hm29
          exfalso
          omega
        | succ n27 ih28 =>
          intro u16 M18 J19 hI20 hK21 hK22 h23 h24 h25 hm29
          refine q_iload_n C dX12_restore_27 (n := 28) rfl rfl ?_
          refine q_sipush C dX12_restore_28 (n := 31) rfl (x := 173) (by decide) ?_
          refine q_icmp_ge C 58 dX12_restore_31 (n := 34) rfl rfl (by omega) (fun h30 => ?_) (fun h30 => ?_)
          · refine q_iconst C dX12_restore_58 (n := 59) rfl ?_
            refine q_istore_n C [.ref (w.2.1 + a), zi v1, zi 0] dX12_restore_59 (n := 60) rfl rfl rfl ?_
            have L_40 : ∀ n41 : Nat, ∀ (u31 : Int) (M33 : zMm) (J34 : zJm), zI G M33 → zMd a [2, 4] [0, 9] [] M M33 → zMd a [4] [] [] M18 M33 → (-2147483648 ≤ u31 ∧ u31 ≤ 2147483647) → (0 ≤ u31 ∧ u31 ≤ 1690) → (1690 - u31 + 1 ≤ (n41 : Int)) → zK w p e 2 0 0 s m args below meth c 3 T Po 60 [.ref (w.2.1 + a), zi v1, zi u31] [] (T, M33, J34, R) := by
              intro n41
              induction n41 with
              | zero =>
                intro u31 M33 J34 hI35 hK36 hK37 h38 h39 hm43
                exfalso
                omega
              | succ n41 ih42 =>
                intro u31 M33 J34 hI35 hK36 hK37 h38 h39 hm43
                refine q_iload_n C dX12_restore_60 (n := 61) rfl rfl ?_
                refine q_sipush C dX12_restore_61 (n := 64) rfl (x := 1690) (by decide) ?_
                refine q_icmp_ge C 91 dX12_restore_64 (n := 67) rfl rfl (by omega) (fun h44 => ?_) (fun h44 => ?_)
                · refine q_aload_n C dX12_restore_91 (n := 92) rfl rfl ?_
                  refine q_iconst C dX12_restore_92 (n := 93) rfl ?_
                  refine q_putZ C dX12_restore_93 (n := 96) rfl f_X12_300 (zM0 h0) ⟨rfl, rfl⟩ (by omega) (fun M45 (e46 : M45 = zup M33 a 9 0) => ?_)
                  have hI47 : zI G M45 := hI35.put e46 (zM22 h0) rfl (by omega)
                  have hK48 := hK36.upS e46 rfl
                  refine q_iconst C dX12_restore_96 (n := 97) rfl ?_
                  have hp50 : zRst M45 M a v1 u16 := h25.cg (fun j => ((zup_p e46 (by omega) _).trans (hK37.getA rfl rfl rfl)))
                  have ge : u16 = 173 := by omega
                  exact q_zret C dX12_restore_97 ⟨rfl, rfl⟩ (by omega) (by rw [hPo]; exact ⟨1, M45, J34, rfl, rfl, hI47, hK48, by omega, (zRst.fi (by rw [← ge]; exact hp50) hI h0 (by omega) p2), by omega⟩)
                · refine q_aload_n C dX12_restore_67 (n := 68) rfl rfl ?_
                  refine q_getR C dX12_restore_68 (n := 71) rfl f_X12_24 (zM0 h0) (hF _ _ _ (zM13 h0)) ?_
                  refine q_iload_n C dX12_restore_71 (n := 72) rfl rfl ?_
                  refine q_aload_n C dX12_restore_72 (n := 73) rfl rfl ?_
                  refine q_getR C dX12_restore_73 (n := 76) rfl f_X12_27 (zM0 h0) (hF _ _ _ (zM16 h0)) ?_
                  refine q_sipush C dX12_restore_76 (n := 79) rfl (x := 1690) (by decide) ?_
                  refine q_iload_n C dX12_restore_79 (n := 80) rfl rfl ?_
                  refine q_imul C dX12_restore_80 (n := 81) rfl (v := 1690 * v1) rfl ?_
                  refine q_iload_n C dX12_restore_81 (n := 82) rfl rfl ?_
                  refine q_iadd C dX12_restore_82 (n := 83) rfl (v := (1690 * v1) + u31) rfl ?_
                  have g51 := zI.at hI ((zM18 h0) ((1690 * v1) + u31))
                  refine q_bald C dX12_restore_83 (n := 84) rfl (zM17 h0) (by omega) (v := M (a + 5) ((1690 * v1) + u31)) ((hK37.getA rfl rfl rfl).trans ((hK22.getA rfl rfl rfl).trans (zup_p e2 (by omega) _))) ?_
                  refine q_bast C dX12_restore_84 (n := 85) rfl (zM14 h0) (by omega) (by omega) (fun M52 e53 => ?_)
                  have hI54 : zI G M52 := hI35.put e53 ((zM15 h0) u31) rfl (by omega)
                  have hK55 := hK36.upA e53 rfl
                  have hK56 := hK37.upA e53 rfl
                  refine q_iinc C [.ref (w.2.1 + a), zi v1, zi (u31 + 1)] dX12_restore_85 (n := 88) rfl rfl rfl rfl ?_
                  refine q_goto C 60 dX12_restore_88 rfl ?_
                  exact zK.weak (ih42 (u31 + 1) M52 J34 hI54 hK55 hK56 (by omega) (by omega) (by omega)) (zwk_c (zwk_c (zwk_c zwk_e)))
            exact zK.weak (L_40 _ 0 M18 J19 hI20 hK21 (zMd.rf : zMd a [4] [] [] M18 M18) (by omega) (by omega) (Int.self_le_toNat _)) (zwk_c (zwk_c (zwk_c zwk_e)))
          · refine q_aload_n C dX12_restore_34 (n := 35) rfl rfl ?_
            refine q_getR C dX12_restore_35 (n := 38) rfl f_X12_17 (zM0 h0) (hF _ _ _ (zM7 h0)) ?_
            refine q_iload_n C dX12_restore_38 (n := 39) rfl rfl ?_
            refine q_aload_n C dX12_restore_39 (n := 40) rfl rfl ?_
            refine q_getR C dX12_restore_40 (n := 43) rfl f_X12_21 (zM0 h0) (hF _ _ _ (zM10 h0)) ?_
            refine q_sipush C dX12_restore_43 (n := 46) rfl (x := 173) (by decide) ?_
            refine q_iload_n C dX12_restore_46 (n := 47) rfl rfl ?_
            refine q_imul C dX12_restore_47 (n := 48) rfl (v := 173 * v1) rfl ?_
            refine q_iload_n C dX12_restore_48 (n := 49) rfl rfl ?_
            refine q_iadd C dX12_restore_49 (n := 50) rfl (v := (173 * v1) + u16) rfl ?_
            have g57 := zI.at hI (((zM12 h0) ((173 * v1) + u16)).trans (zkG_e (by omega) (by omega)))
            refine q_iald C dX12_restore_50 (n := 51) rfl (zM11 h0) (by omega) (v := M (a + 3) ((173 * v1) + u16)) ((hK22.getA rfl rfl rfl).trans (zup_p e2 (by omega) _)) ?_
            refine q_iast C dX12_restore_51 (n := 52) rfl (zM8 h0) (by omega)  (fun M58 e59 => ?_)
            have hI60 : zI G M58 := hI20.put e59 (((zM9 h0) u16).trans (zfG_e u16)) rfl (by omega)
            have hK61 := hK21.upA e59 rfl
            have hK62 := hK22.upA e59 rfl
            refine q_iinc C [.ref (w.2.1 + a), zi v1, zi (u16 + 1)] dX12_restore_52 (n := 55) rfl rfl rfl rfl ?_
            refine q_goto C 27 dX12_restore_55 rfl ?_
            exact zK.weak (ih28 (u16 + 1) M58 J19 hI60 hK61 hK62 (by omega) (by omega) (h25.step e59 (by omega)) (by omega)) (zwk_c (zwk_c (zwk_c zwk_e)))
      exact zK.weak (L_26 _ 0 M1 J hI3 hK4 (zMd.rf : zMd a [2] [] [] M1 M1) (by omega) (by omega) (zRst.zero (fun j => (zup_p e2 (by omega) _))) (Int.self_le_toNat _)) (zwk_c (zwk_c (zwk_c zwk_e)))
    · exact zK.weak (J_11 (by omega)) (zwk_n (zwk_n (zwk_n zwk_e)))
theorem c_X12_switches {w : zWp} {T : zTl} {M : zMm} {J : zJm} {R : zRm'} {G : zGt} {F : zRm'} {a : Nat} (hI : zI G M) (hF : zF F R) (h0 : zModel T F G a) (p1 : zFi M a) : zCt w 2 0 0 yX12_switches cX12_switches 6 (some .int) [.ref (w.2.1 + a)] (T, M, J, R) (zPi T R G (fun x M2 => (zMd a [2, 4, 7] [0, 2, 3, 9] [] M M2) ∧ (zFi M2 a) ∧ (M2 a 2 = 0))) := by
  refine zCt.of rfl (Nat.le_of_ble_eq_true rfl) ?_
  intro p e s m args below meth c C
  obtain ⟨Po, hPo⟩ : ∃ Po, Po = zPi T R G (fun x M2 => (zMd a [2, 4, 7] [0, 2, 3, 9] [] M M2) ∧ (zFi M2 a) ∧ (M2 a 2 = 0)) := ⟨_, rfl⟩
  rw [← hPo]
  have hK0 : zMd a [2, 4, 7] [0, 2, 3, 9] [] M M := zMd.rf
  have gk_length := zI.at hI (zM5 h0)
  show zK w p e 2 0 0 s m args below meth c 6 T Po 0 [.ref (w.2.1 + a), .null, .null, .null, .null, .null] [] (T, M, J, R)
  refine q_aload_n C dX12_switches_0 (n := 1) rfl rfl ?_
  refine q_callVv C dX12_switches_1 (n := 4) rfl m_X12_293 v_yX12_taken (zM0 h0) ⟨by decide, rfl⟩ (c_X12_taken (w := w) (J := J) hI hF h0) (Nat.le_of_ble_eq_true rfl) rfl rfl (Nat.le_of_ble_eq_true rfl) ⟨Nat.le_refl _, Nat.le_refl _⟩ (fun M3 J4  hI5 h6 => ?_)
  obtain ⟨hk7, h1, h2⟩ := h6
  have hK8 := hK0.tr hk7 rfl rfl rfl
  refine q_iconst C dX12_switches_4 (n := 5) rfl ?_
  refine q_istore_n C [.ref (w.2.1 + a), zi 0, .null, .null, .null, .null] dX12_switches_5 (n := 6) rfl rfl rfl ?_
  refine q_iconst C dX12_switches_6 (n := 7) rfl ?_
  refine q_istore_n C [.ref (w.2.1 + a), zi 0, zi 0, .null, .null, .null] dX12_switches_7 (n := 8) rfl rfl rfl ?_
  refine q_aload_n C dX12_switches_8 (n := 9) rfl rfl ?_
  refine q_getR C dX12_switches_9 (n := 12) rfl f_X12_34 (zM0 h0) (hF _ _ _ (zM23 h0)) ?_
  refine q_astore_n C [.ref (w.2.1 + a), zi 0, zi 0, .ref (w.2.1 + (a + 7)), .null, .null] dX12_switches_12 (n := 13) rfl rfl rfl ?_
  have L_22 : ∀ n23 : Nat, ∀ (u9 : Int) (u10 : Int) (M12 : zMm) (J13 : zJm), zI G M12 → zMd a [2, 4, 7] [0, 2, 3, 9] [] M M12 → zMd a [7] [] [] M3 M12 → (-2147483648 ≤ u9 ∧ u9 ≤ 2147483647) → (-2147483648 ≤ u10 ∧ u10 ≤ 2147483647) → (0 ≤ u9 ∧ u9 ≤ 3) → (0 ≤ u10 ∧ u10 ≤ M12 a 3 ∧ u10 ≤ 440) → (zSb M12 a u9) → (441 * (3 - u9) + 442 - u10 ≤ (n23 : Int)) → zK w p e 2 0 0 s m args below meth c 6 T Po 13 [.ref (w.2.1 + a), zi u9, zi u10, .ref (w.2.1 + (a + 7)), .null, .null] [] (T, M12, J13, R) := by
    intro n23
    induction n23 with
    | zero =>
      intro u9 u10 M12 J13 hI14 hK15 hK16 h17 h18 h19 h20 h21 hm25
      exfalso
      omega
    | succ n23 ih24 =>
      intro u9 u10 M12 J13 hI14 hK15 hK16 h17 h18 h19 h20 h21 hm25
      have hz26 : M12 a 3 = M3 a 3 := (hK16.getS rfl rfl)
      refine q_iload_n C dX12_switches_13 (n := 14) rfl rfl ?_
      refine q_aload_n C dX12_switches_14 (n := 15) rfl rfl ?_
      have g27 := zI.at hI5 (zM6 h0)
      refine q_getI C dX12_switches_15 (n := 18) rfl f_X12_274 (zM0 h0) (v := M3 a 3) (hK16.getS rfl rfl) ?_
      refine q_icmp_ge C 205 dX12_switches_18 (n := 21) rfl rfl (by omega) (fun h28 => ?_) (fun h28 => ?_)
      · refine q_aload_n C dX12_switches_205 (n := 206) rfl rfl ?_
        refine q_iconst C dX12_switches_206 (n := 207) rfl ?_
        refine q_putZ C dX12_switches_207 (n := 210) rfl f_X12_300 (zM0 h0) ⟨rfl, rfl⟩ (by omega) (fun M29 (e30 : M29 = zup M12 a 9 0) => ?_)
        have hI31 : zI G M29 := hI14.put e30 (zM22 h0) rfl (by omega)
        have hK32 := hK15.upS e30 rfl
        refine q_aload_n C dX12_switches_210 (n := 211) rfl rfl ?_
        refine q_getR C dX12_switches_211 (n := 214) rfl f_X12_17 (zM0 h0) (hF _ _ _ (zM7 h0)) ?_
        refine q_sipush C dX12_switches_214 (n := 217) rfl (x := 168) (by decide) ?_
        refine q_iload_n C dX12_switches_217 (n := 218) rfl rfl ?_
        refine q_iast C dX12_switches_218 (n := 219) rfl (zM8 h0) (by omega)  (fun M34 e35 => ?_)
        have hp36 : zFi M29 a := p1.cg (fun j => ((zup_p e30 (by omega) _).trans ((hK16.getA rfl rfl rfl).trans (hk7.getA rfl rfl rfl))))
        have hp37 : zFi M34 a := hp36.up e35 hI31 h0 (by omega)
        have hI38 : zI G M34 := hI31.put e35 (((zM9 h0) 168).trans (zfG_168 (by omega))) rfl (by omega)
        have hK39 := hK32.upA e35 rfl
        refine q_aload_n C dX12_switches_219 (n := 220) rfl rfl ?_
        refine q_getR C dX12_switches_220 (n := 223) rfl f_X12_17 (zM0 h0) (hF _ _ _ (zM7 h0)) ?_
        refine q_sipush C dX12_switches_223 (n := 226) rfl (x := 172) (by decide) ?_
        refine q_iconst C dX12_switches_226 (n := 227) rfl ?_
        refine q_iast C dX12_switches_227 (n := 228) rfl (zM8 h0) (by omega)  (fun M40 e41 => ?_)
        have hp42 : zFi M40 a := hp37.up e41 hI38 h0 (by omega)
        have hI43 : zI G M40 := hI38.put e41 (((zM9 h0) 172).trans (zfG_172 (by omega))) rfl (by omega)
        have hK44 := hK39.upA e41 rfl
        refine q_iconst C dX12_switches_228 (n := 229) rfl ?_
        refine q_istore C [.ref (w.2.1 + a), zi u9, zi u10, .ref (w.2.1 + (a + 7)), zi 0, .null] dX12_switches_229 (n := 231) rfl rfl rfl ?_
        have L_55 : ∀ n56 : Nat, ∀ (u45 : Int) (M47 : zMm) (J48 : zJm), zI G M47 → zMd a [2, 4, 7] [0, 2, 3, 9] [] M M47 → zMd a [2, 4] [] [] M40 M47 → (-2147483648 ≤ u45 ∧ u45 ≤ 2147483647) → (0 ≤ u45 ∧ u45 ≤ u9) → (zFi M47 a) → (4 - u45 ≤ (n56 : Int)) → zK w p e 2 0 0 s m args below meth c 6 T Po 231 [.ref (w.2.1 + a), zi u9, .null, .ref (w.2.1 + (a + 7)), zi u45, .null] [] (T, M47, J48, R) := by
          intro n56
          induction n56 with
          | zero =>
            intro u45 M47 J48 hI49 hK50 hK51 h52 h53 h54 hm58
            exfalso
            omega
          | succ n56 ih57 =>
            intro u45 M47 J48 hI49 hK50 hK51 h52 h53 h54 hm58
            refine q_iload C dX12_switches_231 (n := 233) rfl rfl ?_
            refine q_iload_n C dX12_switches_233 (n := 234) rfl rfl ?_
            refine q_icmp_ge C 309 dX12_switches_234 (n := 237) rfl rfl (by omega) (fun h59 => ?_) (fun h59 => ?_)
            · refine q_iload_n C dX12_switches_309 (n := 310) rfl rfl ?_
              exact q_iret C dX12_switches_310 ⟨rfl, rfl⟩ (by rw [hPo]; exact ⟨u9, M47, J48, rfl, rfl, hI49, hK50, h54, by have hz60 : M47 a 2 = M3 a 2 := ((hK51.getS rfl rfl).trans ((zup_p e41 (by omega) _).trans ((zup_p e35 (by omega) _).trans ((zup_n e30 (by omega)).trans (hK16.getS rfl rfl))))); omega⟩)
            · have gs61 := h21 u45 (by omega) (by omega)
              refine q_aload_n C dX12_switches_237 (n := 238) rfl rfl ?_
              refine q_getR C dX12_switches_238 (n := 241) rfl f_X12_17 (zM0 h0) (hF _ _ _ (zM7 h0)) ?_
              refine q_sipush C dX12_switches_241 (n := 244) rfl (x := 169) (by decide) ?_
              refine q_iload C dX12_switches_244 (n := 246) rfl rfl ?_
              refine q_iadd C dX12_switches_246 (n := 247) rfl (v := 169 + u45) rfl ?_
              refine q_aload_n C dX12_switches_247 (n := 248) rfl rfl ?_
              refine q_iconst C dX12_switches_248 (n := 249) rfl ?_
              refine q_iload C dX12_switches_249 (n := 251) rfl rfl ?_
              refine q_iadd C dX12_switches_251 (n := 252) rfl (v := 4 + u45) rfl ?_
              have g62 := zI.at hI14 ((zM25 h0) (4 + u45))
              refine q_iald C dX12_switches_252 (n := 253) rfl (zM24 h0) (by omega) (v := M12 (a + 7) (4 + u45)) ((hK51.getA rfl rfl rfl).trans ((zup_p e41 (by omega) _).trans ((zup_p e35 (by omega) _).trans (zup_p e30 (by omega) _)))) ?_
              refine q_iast C dX12_switches_253 (n := 254) rfl (zM8 h0) (by omega)  (fun M63 e64 => ?_)
              have hp65 : zFi M63 a := h54.up e64 hI49 h0 (by omega)
              have hI66 : zI G M63 := hI49.put e64 (((zM9 h0) (169 + u45)).trans (zfG_169 (by omega))) rfl (by omega)
              have hK67 := hK50.upA e64 rfl
              have hK68 := hK51.upA e64 rfl
              refine q_iconst C dX12_switches_254 (n := 255) rfl ?_
              refine q_istore C [.ref (w.2.1 + a), zi u9, .null, .ref (w.2.1 + (a + 7)), zi u45, zi 0] dX12_switches_255 (n := 257) rfl rfl rfl ?_
              have L_79 : ∀ n80 : Nat, ∀ (u69 : Int) (M71 : zMm) (J72 : zJm), zI G M71 → zMd a [2, 4, 7] [0, 2, 3, 9] [] M M71 → zMd a [2, 4] [] [] M40 M71 → zMd a [4] [] [] M63 M71 → (-2147483648 ≤ u69 ∧ u69 ≤ 2147483647) → (0 ≤ u69 ∧ u69 ≤ 30) → (31 - u69 ≤ (n80 : Int)) → zK w p e 2 0 0 s m args below meth c 6 T Po 257 [.ref (w.2.1 + a), zi u9, .null, .ref (w.2.1 + (a + 7)), zi u45, zi u69] [] (T, M71, J72, R) := by
                intro n80
                induction n80 with
                | zero =>
                  intro u69 M71 J72 hI73 hK74 hK75 hK76 h77 h78 hm82
                  exfalso
                  omega
                | succ n80 ih81 =>
                  intro u69 M71 J72 hI73 hK74 hK75 hK76 h77 h78 hm82
                  refine q_iload C dX12_switches_257 (n := 259) rfl rfl ?_
                  refine q_aload_n C dX12_switches_259 (n := 260) rfl rfl ?_
                  refine q_iconst C dX12_switches_260 (n := 261) rfl ?_
                  refine q_iload C dX12_switches_261 (n := 263) rfl rfl ?_
                  refine q_iadd C dX12_switches_263 (n := 264) rfl (v := 4 + u45) rfl ?_
                  refine q_iald C dX12_switches_264 (n := 265) rfl (zM24 h0) (by omega) (v := M12 (a + 7) (4 + u45)) ((hK76.getA rfl rfl rfl).trans ((zup_p e64 (by omega) _).trans ((hK51.getA rfl rfl rfl).trans ((zup_p e41 (by omega) _).trans ((zup_p e35 (by omega) _).trans (zup_p e30 (by omega) _)))))) ?_
                  refine q_icmp_ge C 303 dX12_switches_265 (n := 268) rfl rfl (by omega) (fun h83 => ?_) (fun h83 => ?_)
                  · refine q_iinc C [.ref (w.2.1 + a), zi u9, .null, .ref (w.2.1 + (a + 7)), zi (u45 + 1), zi u69] dX12_switches_303 (n := 306) rfl rfl rfl rfl ?_
                    refine q_goto C 231 dX12_switches_306 rfl ?_
                    have hp84 : zFi M71 a := hp65.cg (fun j => (hK76.getA rfl rfl rfl))
                    exact zK.weak (ih57 (u45 + 1) M71 J72 hI73 hK74 hK75 (by omega) (by omega) hp84 (by omega)) (zwk_c (zwk_c (zwk_n (zwk_c (zwk_c (zwk_n zwk_e))))))
                  · refine q_aload_n C dX12_switches_268 (n := 269) rfl rfl ?_
                    refine q_getR C dX12_switches_269 (n := 272) rfl f_X12_24 (zM0 h0) (hF _ _ _ (zM13 h0)) ?_
                    refine q_sipush C dX12_switches_272 (n := 275) rfl (x := 1600) (by decide) ?_
                    refine q_bipush C dX12_switches_275 (n := 277) rfl (x := 30) (by decide) ?_
                    refine q_iload C dX12_switches_277 (n := 279) rfl rfl ?_
                    refine q_imul C dX12_switches_279 (n := 280) rfl (v := 30 * u45) rfl ?_
                    refine q_iadd C dX12_switches_280 (n := 281) rfl (v := 1600 + (30 * u45)) rfl ?_
                    refine q_iload C dX12_switches_281 (n := 283) rfl rfl ?_
                    refine q_iadd C dX12_switches_283 (n := 284) rfl (v := (1600 + (30 * u45)) + u69) rfl ?_
                    refine q_aload_n C dX12_switches_284 (n := 285) rfl rfl ?_
                    refine q_getR C dX12_switches_285 (n := 288) rfl f_X12_13 (zM0 h0) (hF _ _ _ (zM2 h0)) ?_
                    refine q_aload_n C dX12_switches_288 (n := 289) rfl rfl ?_
                    refine q_iload C dX12_switches_289 (n := 291) rfl rfl ?_
                    have g85 := zI.at hI14 ((zM25 h0) u45)
                    refine q_iald C dX12_switches_291 (n := 292) rfl (zM24 h0) (by omega) (v := M12 (a + 7) u45) ((hK76.getA rfl rfl rfl).trans ((zup_p e64 (by omega) _).trans ((hK51.getA rfl rfl rfl).trans ((zup_p e41 (by omega) _).trans ((zup_p e35 (by omega) _).trans (zup_p e30 (by omega) _)))))) ?_
                    refine q_iload C dX12_switches_292 (n := 294) rfl rfl ?_
                    refine q_iadd C dX12_switches_294 (n := 295) rfl (v := (M12 (a + 7) u45) + u69) rfl ?_
                    have g86 := zI.at hI ((zM4 h0) ((M12 (a + 7) u45) + u69))
                    refine q_bald C dX12_switches_295 (n := 296) rfl (zM3 h0) (by omega) (v := M (a + 1) ((M12 (a + 7) u45) + u69)) ((hK76.getA rfl rfl rfl).trans ((zup_p e64 (by omega) _).trans ((hK51.getA rfl rfl rfl).trans ((zup_p e41 (by omega) _).trans ((zup_p e35 (by omega) _).trans ((zup_p e30 (by omega) _).trans ((hK16.getA rfl rfl rfl).trans (hk7.getA rfl rfl rfl)))))))) ?_
                    refine q_bast C dX12_switches_296 (n := 297) rfl (zM14 h0) (by omega) (by omega) (fun M87 e88 => ?_)
                    have hI89 : zI G M87 := hI73.put e88 ((zM15 h0) ((1600 + (30 * u45)) + u69)) rfl (by omega)
                    have hK90 := hK74.upA e88 rfl
                    have hK91 := hK75.upA e88 rfl
                    have hK92 := hK76.upA e88 rfl
                    refine q_iinc C [.ref (w.2.1 + a), zi u9, .null, .ref (w.2.1 + (a + 7)), zi u45, zi (u69 + 1)] dX12_switches_297 (n := 300) rfl rfl rfl rfl ?_
                    refine q_goto C 257 dX12_switches_300 rfl ?_
                    exact zK.weak (ih81 (u69 + 1) M87 J72 hI89 hK90 hK91 hK92 (by omega) (by omega) (by omega)) (zwk_c (zwk_c (zwk_n (zwk_c (zwk_c (zwk_c zwk_e))))))
              exact zK.weak (L_79 _ 0 M63 J48 hI66 hK67 hK68 (zMd.rf : zMd a [4] [] [] M63 M63) (by omega) (by omega) (Int.self_le_toNat _)) (zwk_c (zwk_c (zwk_n (zwk_c (zwk_c (zwk_c zwk_e))))))
        exact zK.weak (L_55 _ 0 M40 J13 hI43 hK44 (zMd.rf : zMd a [2, 4] [] [] M40 M40) (by omega) (by omega) hp42 (Int.self_le_toNat _)) (zwk_c (zwk_c (zwk_n (zwk_c (zwk_c (zwk_n zwk_e))))))
      · refine q_aload_n C dX12_switches_21 (n := 22) rfl rfl ?_
        refine q_getR C dX12_switches_22 (n := 25) rfl f_X12_13 (zM0 h0) (hF _ _ _ (zM2 h0)) ?_
        refine q_iload_n C dX12_switches_25 (n := 26) rfl rfl ?_
        have g93 := zI.at hI ((zM4 h0) u10)
        refine q_bald C dX12_switches_26 (n := 27) rfl (zM3 h0) (by omega) (v := M (a + 1) u10) ((hK16.getA rfl rfl rfl).trans (hk7.getA rfl rfl rfl)) ?_
        refine q_bipush C dX12_switches_27 (n := 29) rfl (x := 32) (by decide) ?_
        refine q_icmp_ne C 38 dX12_switches_29 (n := 32) rfl rfl (by omega) (fun h94 => ?_) (fun h94 => ?_)
        · refine q_iload_n C dX12_switches_38 (n := 39) rfl rfl ?_
          refine q_iconst C dX12_switches_39 (n := 40) rfl ?_
          refine q_icmp_eq C 55 dX12_switches_40 (n := 43) rfl rfl (by omega) (fun h95 => ?_) (fun h95 => ?_)
          · refine q_iconst C dX12_switches_55 (n := 56) rfl ?_
            have hp96 : zFi M12 a := p1.cg (fun j => ((hK16.getA rfl rfl rfl).trans (hk7.getA rfl rfl rfl)))
            exact q_iret C dX12_switches_56 ⟨rfl, rfl⟩ (by rw [hPo]; exact ⟨(-1), M12, J13, rfl, rfl, hI14, hK15, hp96, by have hz97 : M12 a 2 = M3 a 2 := (hK16.getS rfl rfl); omega⟩)
          · refine q_aload_n C dX12_switches_43 (n := 44) rfl rfl ?_
            refine q_getR C dX12_switches_44 (n := 47) rfl f_X12_13 (zM0 h0) (hF _ _ _ (zM2 h0)) ?_
            refine q_iload_n C dX12_switches_47 (n := 48) rfl rfl ?_
            refine q_bald C dX12_switches_48 (n := 49) rfl (zM3 h0) (by omega) (v := M (a + 1) u10) ((hK16.getA rfl rfl rfl).trans (hk7.getA rfl rfl rfl)) ?_
            refine q_callSp C dX12_switches_49 (n := 52) rfl m_X12_304 s_yX12_isStart (c_X12_isStart (w := w) (J := J13) hI14 hF (M (a + 1) u10) (by omega)) (Nat.le_of_ble_eq_true rfl) rfl rfl (Nat.le_of_ble_eq_true rfl) ⟨Nat.le_refl _, Nat.le_refl _⟩ (fun x99 h100 => ?_)
            refine q_if_ne C 57 dX12_switches_52 (n := 55) rfl rfl (by omega) (fun h101 => ?_) (fun h101 => ?_)
            · refine q_aload_n C dX12_switches_57 (n := 58) rfl rfl ?_
              refine q_iload_n C dX12_switches_58 (n := 59) rfl rfl ?_
              refine q_iload_n C dX12_switches_59 (n := 60) rfl rfl ?_
              refine q_iast C dX12_switches_60 (n := 61) rfl (zM24 h0) (by omega)  (fun M102 e103 => ?_)
              have hp104 : zSb M102 a u9 := h21.up e103 (by omega)
              have hI105 : zI G M102 := hI14.put e103 ((zM25 h0) u9) rfl (by omega)
              have hK106 := hK15.upA e103 rfl
              have hK107 := hK16.upA e103 rfl
              have L_111 : ∀ n112 : Nat, ∀ (u108 : Int), (-2147483648 ≤ u108 ∧ u108 ≤ 2147483647) → (u10 ≤ u108 ∧ u108 ≤ M102 a 3 ∧ u108 ≤ 440) → (441 - u108 ≤ (n112 : Int)) → zK w p e 2 0 0 s m args below meth c 6 T Po 61 [.ref (w.2.1 + a), zi u9, zi u108, .ref (w.2.1 + (a + 7)), .null, .null] [] (T, M102, J13, R) := by
                intro n112
                induction n112 with
                | zero =>
                  intro u108 h109 h110 hm114
                  exfalso
                  omega
                | succ n112 ih113 =>
                  intro u108 h109 h110 hm114
                  have hz115 : M102 a 3 = M3 a 3 := ((zup_p e103 (by omega) _).trans (hK16.getS rfl rfl))
                  refine q_iload_n C dX12_switches_61 (n := 62) rfl rfl ?_
                  refine q_aload_n C dX12_switches_62 (n := 63) rfl rfl ?_
                  refine q_getI C dX12_switches_63 (n := 66) rfl f_X12_274 (zM0 h0) (v := M3 a 3) ((zup_p e103 (by omega) _).trans (hK16.getS rfl rfl)) ?_
                  have J_117 : (u108 = u108) → zK w p e 2 0 0 s m args below meth c 6 T Po 99 [.ref (w.2.1 + a), zi u9, zi u108, .ref (w.2.1 + (a + 7)), .null, .null] [] (T, M102, J13, R) := by
                    intro h116
                    refine q_aload_n C dX12_switches_99 (n := 100) rfl rfl ?_
                    refine q_iconst C dX12_switches_100 (n := 101) rfl ?_
                    refine q_iload_n C dX12_switches_101 (n := 102) rfl rfl ?_
                    refine q_iadd C dX12_switches_102 (n := 103) rfl (v := 4 + u9) rfl ?_
                    refine q_iload_n C dX12_switches_103 (n := 104) rfl rfl ?_
                    refine q_aload_n C dX12_switches_104 (n := 105) rfl rfl ?_
                    refine q_iload_n C dX12_switches_105 (n := 106) rfl rfl ?_
                    refine q_iald C dX12_switches_106 (n := 107) rfl (zM24 h0) (by omega) (v := u10) (zup_s e103) ?_
                    refine q_isub C dX12_switches_107 (n := 108) rfl (v := u108 - u10) rfl ?_
                    refine q_iast C dX12_switches_108 (n := 109) rfl (zM24 h0) (by omega)  (fun M118 e119 => ?_)
                    have hp120 : zSb M118 a u9 := hp104.up e119 (by omega)
                    have hI121 : zI G M118 := hI105.put e119 ((zM25 h0) (4 + u9)) rfl (by omega)
                    have hK122 := hK106.upA e119 rfl
                    have hK123 := hK107.upA e119 rfl
                    refine q_aload_n C dX12_switches_109 (n := 110) rfl rfl ?_
                    refine q_iconst C dX12_switches_110 (n := 111) rfl ?_
                    refine q_iload_n C dX12_switches_111 (n := 112) rfl rfl ?_
                    refine q_iadd C dX12_switches_112 (n := 113) rfl (v := 4 + u9) rfl ?_
                    refine q_iald C dX12_switches_113 (n := 114) rfl (zM24 h0) (by omega) (v := u108 - u10) (zup_s e119) ?_
                    refine q_bipush C dX12_switches_114 (n := 116) rfl (x := 30) (by decide) ?_
                    refine q_icmp_gt C 138 dX12_switches_116 (n := 119) rfl rfl (by omega) (fun h124 => ?_) (fun h124 => ?_)
                    · refine q_iconst C dX12_switches_138 (n := 139) rfl ?_
                      have hp125 : zFi M118 a := p1.cg (fun j => ((zup_p e119 (by omega) _).trans ((zup_p e103 (by omega) _).trans ((hK16.getA rfl rfl rfl).trans (hk7.getA rfl rfl rfl)))))
                      exact q_iret C dX12_switches_139 ⟨rfl, rfl⟩ (by rw [hPo]; exact ⟨(-1), M118, J13, rfl, rfl, hI121, hK122, hp125, by have hz126 : M118 a 2 = M3 a 2 := ((zup_p e119 (by omega) _).trans ((zup_p e103 (by omega) _).trans (hK16.getS rfl rfl))); omega⟩)
                    · refine q_iload_n C dX12_switches_119 (n := 120) rfl rfl ?_
                      refine q_aload_n C dX12_switches_120 (n := 121) rfl rfl ?_
                      refine q_getI C dX12_switches_121 (n := 124) rfl f_X12_274 (zM0 h0) (v := M3 a 3) ((zup_p e119 (by omega) _).trans ((zup_p e103 (by omega) _).trans (hK16.getS rfl rfl))) ?_
                      have J_127 : zK w p e 2 0 0 s m args below meth c 6 T Po 140 [.ref (w.2.1 + a), zi u9, zi u108, .ref (w.2.1 + (a + 7)), .null, .null] [] (T, M118, J13, R) := by
                        refine q_iconst C dX12_switches_140 (n := 141) rfl ?_
                        refine q_istore C [.ref (w.2.1 + a), zi u9, zi u108, .ref (w.2.1 + (a + 7)), zi 0, .null] dX12_switches_141 (n := 143) rfl rfl rfl ?_
                        have L_131 : ∀ n132 : Nat, ∀ (u128 : Int), (-2147483648 ≤ u128 ∧ u128 ≤ 2147483647) → (0 ≤ u128 ∧ u128 ≤ u9) → (4 - u128 ≤ (n132 : Int)) → zK w p e 2 0 0 s m args below meth c 6 T Po 143 [.ref (w.2.1 + a), zi u9, zi u108, .ref (w.2.1 + (a + 7)), zi u128, .null] [] (T, M118, J13, R) := by
                          intro n132
                          induction n132 with
                          | zero =>
                            intro u128 h129 h130 hm134
                            exfalso
                            omega
                          | succ n132 ih133 =>
                            intro u128 h129 h130 hm134
                            refine q_iload C dX12_switches_143 (n := 145) rfl rfl ?_
                            refine q_iload_n C dX12_switches_145 (n := 146) rfl rfl ?_
                            refine q_icmp_ge C 182 dX12_switches_146 (n := 149) rfl rfl (by omega) (fun h135 => ?_) (fun h135 => ?_)
                            · refine q_aload_n C dX12_switches_182 (n := 183) rfl rfl ?_
                              refine q_aload_n C dX12_switches_183 (n := 184) rfl rfl ?_
                              refine q_iload_n C dX12_switches_184 (n := 185) rfl rfl ?_
                              refine q_iald C dX12_switches_185 (n := 186) rfl (zM24 h0) (by omega) (v := u10) ((zup_n e119 (by omega)).trans (zup_s e103)) ?_
                              refine q_aload_n C dX12_switches_186 (n := 187) rfl rfl ?_
                              refine q_iconst C dX12_switches_187 (n := 188) rfl ?_
                              refine q_iload_n C dX12_switches_188 (n := 189) rfl rfl ?_
                              refine q_iadd C dX12_switches_189 (n := 190) rfl (v := 4 + u9) rfl ?_
                              refine q_iald C dX12_switches_190 (n := 191) rfl (zM24 h0) (by omega) (v := u108 - u10) (zup_s e119) ?_
                              refine q_callVp C dX12_switches_191 (n := 194) rfl m_X12_314 v_yX12_isTapeDefined (zM0 h0) ⟨by decide, rfl⟩ (c_X12_isTapeDefined (w := w) (J := J13) hI121 hF h0 u10 (u108 - u10) (by omega)) (Nat.le_of_ble_eq_true rfl) rfl rfl (Nat.le_of_ble_eq_true rfl) ⟨Nat.le_refl _, Nat.le_refl _⟩ (fun x137 h138 => ?_)
                              refine q_if_eq C 199 dX12_switches_194 (n := 197) rfl rfl (by omega) (fun h139 => ?_) (fun h139 => ?_)
                              · have hp140 : zSb M118 a (u9 + 1) := hp120.add (by have hz1 : M118 (a + 7) u9 = u10 := ((zup_n e119 (by omega)).trans (zup_s e103)); have hz2 : M118 (a + 7) (4 + u9) = u108 - u10 := (zup_s e119); omega)
                                refine q_iinc C [.ref (w.2.1 + a), zi (u9 + 1), zi u108, .ref (w.2.1 + (a + 7)), zi u128, .null] dX12_switches_199 (n := 202) rfl rfl rfl rfl ?_
                                refine q_goto C 13 dX12_switches_202 rfl ?_
                                exact zK.weak (ih24 (u9 + 1) u108 M118 J13 hI121 hK122 hK123 (by omega) (by omega) (by omega) (by have hz141 : M118 a 3 = M3 a 3 := ((zup_p e119 (by omega) _).trans ((zup_p e103 (by omega) _).trans (hK16.getS rfl rfl))); omega) hp140 (by omega)) (zwk_c (zwk_c (zwk_c (zwk_c (zwk_n (zwk_n zwk_e))))))
                              · refine q_iconst C dX12_switches_197 (n := 198) rfl ?_
                                have hp142 : zFi M118 a := p1.cg (fun j => ((zup_p e119 (by omega) _).trans ((zup_p e103 (by omega) _).trans ((hK16.getA rfl rfl rfl).trans (hk7.getA rfl rfl rfl)))))
                                exact q_iret C dX12_switches_198 ⟨rfl, rfl⟩ (by rw [hPo]; exact ⟨(-1), M118, J13, rfl, rfl, hI121, hK122, hp142, by have hz143 : M118 a 2 = M3 a 2 := ((zup_p e119 (by omega) _).trans ((zup_p e103 (by omega) _).trans (hK16.getS rfl rfl))); omega⟩)
                            · have gs144 := hp120 u128 (by omega) (by omega)
                              refine q_aload_n C dX12_switches_149 (n := 150) rfl rfl ?_
                              refine q_aload_n C dX12_switches_150 (n := 151) rfl rfl ?_
                              refine q_iload C dX12_switches_151 (n := 153) rfl rfl ?_
                              have g145 := zI.at hI121 ((zM25 h0) u128)
                              refine q_iald C dX12_switches_153 (n := 154) rfl (zM24 h0) (by omega) (v := M118 (a + 7) u128) rfl ?_
                              refine q_aload_n C dX12_switches_154 (n := 155) rfl rfl ?_
                              refine q_iconst C dX12_switches_155 (n := 156) rfl ?_
                              refine q_iload C dX12_switches_156 (n := 158) rfl rfl ?_
                              refine q_iadd C dX12_switches_158 (n := 159) rfl (v := 4 + u128) rfl ?_
                              have g146 := zI.at hI121 ((zM25 h0) (4 + u128))
                              refine q_iald C dX12_switches_159 (n := 160) rfl (zM24 h0) (by omega) (v := M118 (a + 7) (4 + u128)) rfl ?_
                              refine q_aload_n C dX12_switches_160 (n := 161) rfl rfl ?_
                              refine q_iload_n C dX12_switches_161 (n := 162) rfl rfl ?_
                              refine q_iald C dX12_switches_162 (n := 163) rfl (zM24 h0) (by omega) (v := u10) ((zup_n e119 (by omega)).trans (zup_s e103)) ?_
                              refine q_aload_n C dX12_switches_163 (n := 164) rfl rfl ?_
                              refine q_iconst C dX12_switches_164 (n := 165) rfl ?_
                              refine q_iload_n C dX12_switches_165 (n := 166) rfl rfl ?_
                              refine q_iadd C dX12_switches_166 (n := 167) rfl (v := 4 + u9) rfl ?_
                              refine q_iald C dX12_switches_167 (n := 168) rfl (zM24 h0) (by omega) (v := u108 - u10) (zup_s e119) ?_
                              refine q_callVp C dX12_switches_168 (n := 171) rfl m_X12_310 v_yX12_areTape (zM0 h0) ⟨by decide, rfl⟩ (c_X12_areTape (w := w) (J := J13) hI121 hF h0 (M118 (a + 7) u128) (M118 (a + 7) (4 + u128)) u10 (u108 - u10) (by omega)) (Nat.le_of_ble_eq_true rfl) rfl rfl (Nat.le_of_ble_eq_true rfl) ⟨Nat.le_refl _, Nat.le_refl _⟩ (fun x148 h149 => ?_)
                              refine q_if_eq C 176 dX12_switches_171 (n := 174) rfl rfl (by omega) (fun h150 => ?_) (fun h150 => ?_)
                              · refine q_iinc C [.ref (w.2.1 + a), zi u9, zi u108, .ref (w.2.1 + (a + 7)), zi (u128 + 1), .null] dX12_switches_176 (n := 179) rfl rfl rfl rfl ?_
                                refine q_goto C 143 dX12_switches_179 rfl ?_
                                exact zK.weak (ih133 (u128 + 1) (by omega) (by omega) (by omega)) (zwk_c (zwk_c (zwk_c (zwk_c (zwk_c (zwk_n zwk_e))))))
                              · refine q_iconst C dX12_switches_174 (n := 175) rfl ?_
                                have hp151 : zFi M118 a := p1.cg (fun j => ((zup_p e119 (by omega) _).trans ((zup_p e103 (by omega) _).trans ((hK16.getA rfl rfl rfl).trans (hk7.getA rfl rfl rfl)))))
                                exact q_iret C dX12_switches_175 ⟨rfl, rfl⟩ (by rw [hPo]; exact ⟨(-1), M118, J13, rfl, rfl, hI121, hK122, hp151, by have hz152 : M118 a 2 = M3 a 2 := ((zup_p e119 (by omega) _).trans ((zup_p e103 (by omega) _).trans (hK16.getS rfl rfl))); omega⟩)
                        exact zK.weak (L_131 _ 0 (by omega) (by omega) (Int.self_le_toNat _)) (zwk_c (zwk_c (zwk_c (zwk_c (zwk_c (zwk_n zwk_e))))))
                      refine q_icmp_ge C 140 dX12_switches_124 (n := 127) rfl rfl (by omega) (fun h153 => ?_) (fun h153 => ?_)
                      · exact zK.weak (J_127) (zwk_c (zwk_c (zwk_c (zwk_c (zwk_n (zwk_n zwk_e))))))
                      · refine q_aload_n C dX12_switches_127 (n := 128) rfl rfl ?_
                        refine q_getR C dX12_switches_128 (n := 131) rfl f_X12_13 (zM0 h0) (hF _ _ _ (zM2 h0)) ?_
                        refine q_iload_n C dX12_switches_131 (n := 132) rfl rfl ?_
                        have g154 := zI.at hI ((zM4 h0) u108)
                        refine q_bald C dX12_switches_132 (n := 133) rfl (zM3 h0) (by omega) (v := M (a + 1) u108) ((zup_p e119 (by omega) _).trans ((zup_p e103 (by omega) _).trans ((hK16.getA rfl rfl rfl).trans (hk7.getA rfl rfl rfl)))) ?_
                        refine q_bipush C dX12_switches_133 (n := 135) rfl (x := 32) (by decide) ?_
                        refine q_icmp_eq C 140 dX12_switches_135 (n := 138) rfl rfl (by omega) (fun h155 => ?_) (fun h155 => ?_)
                        · exact zK.weak (J_127) (zwk_c (zwk_c (zwk_c (zwk_c (zwk_n (zwk_n zwk_e))))))
                        · refine q_iconst C dX12_switches_138 (n := 139) rfl ?_
                          have hp156 : zFi M118 a := p1.cg (fun j => ((zup_p e119 (by omega) _).trans ((zup_p e103 (by omega) _).trans ((hK16.getA rfl rfl rfl).trans (hk7.getA rfl rfl rfl)))))
                          exact q_iret C dX12_switches_139 ⟨rfl, rfl⟩ (by rw [hPo]; exact ⟨(-1), M118, J13, rfl, rfl, hI121, hK122, hp156, by have hz157 : M118 a 2 = M3 a 2 := ((zup_p e119 (by omega) _).trans ((zup_p e103 (by omega) _).trans (hK16.getS rfl rfl))); omega⟩)
                  refine q_icmp_ge C 99 dX12_switches_66 (n := 69) rfl rfl (by omega) (fun h158 => ?_) (fun h158 => ?_)
                  · exact zK.weak (J_117 (by omega)) (zwk_c (zwk_c (zwk_c (zwk_c (zwk_n (zwk_n zwk_e))))))
                  · refine q_aload_n C dX12_switches_69 (n := 70) rfl rfl ?_
                    refine q_getR C dX12_switches_70 (n := 73) rfl f_X12_13 (zM0 h0) (hF _ _ _ (zM2 h0)) ?_
                    refine q_iload_n C dX12_switches_73 (n := 74) rfl rfl ?_
                    have g159 := zI.at hI ((zM4 h0) u108)
                    refine q_bald C dX12_switches_74 (n := 75) rfl (zM3 h0) (by omega) (v := M (a + 1) u108) ((zup_p e103 (by omega) _).trans ((hK16.getA rfl rfl rfl).trans (hk7.getA rfl rfl rfl))) ?_
                    refine q_callSp C dX12_switches_75 (n := 78) rfl m_X12_304 s_yX12_isStart (c_X12_isStart (w := w) (J := J13) hI105 hF (M (a + 1) u108) (by omega)) (Nat.le_of_ble_eq_true rfl) rfl rfl (Nat.le_of_ble_eq_true rfl) ⟨Nat.le_refl _, Nat.le_refl _⟩ (fun x161 h162 => ?_)
                    have J_163 : zK w p e 2 0 0 s m args below meth c 6 T Po 93 [.ref (w.2.1 + a), zi u9, zi u108, .ref (w.2.1 + (a + 7)), .null, .null] [] (T, M102, J13, R) := by
                      refine q_iinc C [.ref (w.2.1 + a), zi u9, zi (u108 + 1), .ref (w.2.1 + (a + 7)), .null, .null] dX12_switches_93 (n := 96) rfl rfl rfl rfl ?_
                      refine q_goto C 61 dX12_switches_96 rfl ?_
                      exact zK.weak (ih113 (u108 + 1) (by omega) (by have hz164 : M102 a 3 = M3 a 3 := ((zup_p e103 (by omega) _).trans (hK16.getS rfl rfl)); omega) (by omega)) (zwk_c (zwk_c (zwk_c (zwk_c (zwk_n (zwk_n zwk_e))))))
                    refine q_if_ne C 93 dX12_switches_78 (n := 81) rfl rfl (by omega) (fun h165 => ?_) (fun h165 => ?_)
                    · exact zK.weak (J_163) (zwk_c (zwk_c (zwk_c (zwk_c (zwk_n (zwk_n zwk_e))))))
                    · refine q_aload_n C dX12_switches_81 (n := 82) rfl rfl ?_
                      refine q_getR C dX12_switches_82 (n := 85) rfl f_X12_13 (zM0 h0) (hF _ _ _ (zM2 h0)) ?_
                      refine q_iload_n C dX12_switches_85 (n := 86) rfl rfl ?_
                      refine q_bald C dX12_switches_86 (n := 87) rfl (zM3 h0) (by omega) (v := M (a + 1) u108) ((zup_p e103 (by omega) _).trans ((hK16.getA rfl rfl rfl).trans (hk7.getA rfl rfl rfl))) ?_
                      refine q_callSp C dX12_switches_87 (n := 90) rfl m_X12_307 s_yX12_isDigit (c_X12_isDigit (w := w) (J := J13) hI105 hF (M (a + 1) u108) (by omega)) (Nat.le_of_ble_eq_true rfl) rfl rfl (Nat.le_of_ble_eq_true rfl) ⟨Nat.le_refl _, Nat.le_refl _⟩ (fun x168 h169 => ?_)
                      obtain ⟨h166, h167⟩ := h169
                      refine q_if_eq C 99 dX12_switches_90 (n := 93) rfl rfl (by omega) (fun h170 => ?_) (fun h170 => ?_)
                      · exact zK.weak (J_117 (by omega)) (zwk_c (zwk_c (zwk_c (zwk_c (zwk_n (zwk_n zwk_e))))))
                      · exact zK.weak (J_163) (zwk_c (zwk_c (zwk_c (zwk_c (zwk_n (zwk_n zwk_e))))))
              exact zK.weak (L_111 _ u10 (by omega) (by have hz171 : M102 a 3 = M3 a 3 := ((zup_p e103 (by omega) _).trans (hK16.getS rfl rfl)); omega) (Int.self_le_toNat _)) (zwk_c (zwk_c (zwk_c (zwk_c (zwk_n (zwk_n zwk_e))))))
            · refine q_iconst C dX12_switches_55 (n := 56) rfl ?_
              have hp172 : zFi M12 a := p1.cg (fun j => ((hK16.getA rfl rfl rfl).trans (hk7.getA rfl rfl rfl)))
              exact q_iret C dX12_switches_56 ⟨rfl, rfl⟩ (by rw [hPo]; exact ⟨(-1), M12, J13, rfl, rfl, hI14, hK15, hp172, by have hz173 : M12 a 2 = M3 a 2 := (hK16.getS rfl rfl); omega⟩)
        · refine q_iinc C [.ref (w.2.1 + a), zi u9, zi (u10 + 1), .ref (w.2.1 + (a + 7)), .null, .null] dX12_switches_32 (n := 35) rfl rfl rfl rfl ?_
          refine q_goto C 13 dX12_switches_35 rfl ?_
          exact zK.weak (ih24 u9 (u10 + 1) M12 J13 hI14 hK15 hK16 (by omega) (by omega) (by omega) (by have hz174 : M12 a 3 = M3 a 3 := (hK16.getS rfl rfl); omega) h21 (by omega)) (zwk_c (zwk_c (zwk_c (zwk_c (zwk_n (zwk_n zwk_e))))))
  exact zK.weak (L_22 _ 0 0 M3 J4 hI5 hK8 (zMd.rf : zMd a [7] [] [] M3 M3) (by omega) (by omega) (by omega) (by omega) (fun k k0 k1 => by omega) (Int.self_le_toNat _)) (zwk_c (zwk_c (zwk_c (zwk_c (zwk_n (zwk_n zwk_e))))))
