def zFl (M : zMm) (a : Nat) (k l s : Int) : Prop := (∀ q, 0 ≤ q → q ≤ 3 → q ≠ k → zSum (M (a + 2)) (8 + 40 * q) (M (a + 2) (4 + q)).toNat ≤ 400) ∧ zSum (M (a + 2)) (8 + 40 * k) l.toNat = s
theorem zFl.cg {M M2 : zMm} {a : Nat} {k l s : Int} (h : zFl M a k l s) (e : ∀ j, M2 (a + 2) j = M (a + 2) j) : zFl M2 a k l s := by
  have e2 : M2 (a + 2) = M (a + 2) := funext e
  unfold zFl
  rw [e2]
  exact h
theorem zFl.c {M : zMm} {a : Nat} {k l s l2 s2 : Int} (h : zFl M a k l s) (hl : l = l2) (hs : s = s2) : zFl M a k l2 s2 := by
  subst hl hs
  exact h
theorem zFl_init {T : zTl} {F : zRm'} {G : zGt} {M Mx M1 M2 : zMm} {a : Nat} {k i x n : Int} (e0 : ∀ j, Mx (a + 2) j = M (a + 2) j) (e1 : M1 = zup Mx (a + 2) i x) (e2 : M2 = zup M1 (a + 2) (4 + k) n) (f : zFi M a) (hI : zI G M) (h0 : zModel T F G a) (hk : 0 ≤ k ∧ k ≤ 3) (hi : i = k) : zFl M2 a k 0 0 := ⟨fun q q0 q3 z => by
  have hq := zI.at hI ((zM9 h0 (4 + q)).trans (zfG_4 (by omega)))
  have c : ∀ j, 4 ≤ j → j ≠ 4 + k → M2 (a + 2) j = M (a + 2) j := fun j j1 j2 => by
    rw [zup_n e2 (by omega), zup_n e1 (by omega), e0]
  rw [c (4 + q) (by omega) (by omega), zSum_cg (g := M2 (a + 2)) (h := M (a + 2))]
  · exact f q q0 q3
  · intro i hi
    exact c _ (by omega) (by omega), rfl⟩
theorem zFl.ot {T : zTl} {F : zRm'} {G : zGt} {M M2 : zMm} {a : Nat} {k l s j x : Int} (h : zFl M a k l s) (e : M2 = zup M (a + 2) (8 + 40 * k + j) x) (hI : zI G M) (h0 : zModel T F G a) (hk : 0 ≤ k ∧ k ≤ 3) (hj : 0 ≤ j ∧ j ≤ 39) (q : Int) (q0 : 0 ≤ q) (q3 : q ≤ 3) (z : q ≠ k) : zSum (M2 (a + 2)) (8 + 40 * q) (M2 (a + 2) (4 + q)).toNat ≤ 400 := by
  have hq := zI.at hI ((zM9 h0 (4 + q)).trans (zfG_4 (by omega)))
  rw [zup_n e (by omega), zSum_cg (g := M2 (a + 2)) (h := M (a + 2))]
  · exact h.1 q q0 q3 z
  · intro i hi
    exact zup_n e (by omega)
theorem zFl.clr {T : zTl} {F : zRm'} {G : zGt} {M M2 : zMm} {a : Nat} {k l : Int} (h : zFl M a k l 0) (e : M2 = zup M (a + 2) (8 + 40 * k + l) 0) (hI : zI G M) (h0 : zModel T F G a) (hk : 0 ≤ k ∧ k ≤ 3) (hj : 0 ≤ l ∧ l ≤ 39) : zFl M2 a k (l + 1) 0 := ⟨h.ot e hI h0 hk hj, by
  rw [zSum_s hj.1, zup_s e, zSum_cg (g := M2 (a + 2)) (h := M (a + 2)) l.toNat (fun i hi => zup_n e (by omega)), h.2]
  omega⟩
theorem zFl.inc {T : zTl} {F : zRm'} {G : zGt} {M M2 : zMm} {a : Nat} {k j s x : Int} (h : zFl M a k 40 s) (e : M2 = zup M (a + 2) (8 + 40 * k + j) x) (hx : x = M (a + 2) (8 + 40 * k + j) + 1) (hI : zI G M) (h0 : zModel T F G a) (hk : 0 ≤ k ∧ k ≤ 3) (hj : 0 ≤ j ∧ j ≤ 39) : zFl M2 a k 40 (s + 1) := ⟨h.ot e hI h0 hk hj, by
  have hu := zSum_up (g := M (a + 2)) (h := M2 (a + 2)) (b := 8 + 40 * k) (l := j.toNat) (m := 40) (fun i i0 i1 => zup_n e (by omega)) 40 (Nat.le_refl _) (by omega)
  rw [show ((j.toNat : Nat) : Int) = j by omega, zup_s e, hx] at hu
  have h2 : zSum (M (a + 2)) (8 + 40 * k) 40 = s := h.2
  show zSum (M2 (a + 2)) (8 + 40 * k) 40 = s + 1
  omega⟩
theorem zFl.le {T : zTl} {F : zRm'} {G : zGt} {M : zMm} {a : Nat} {k j s : Int} (h : zFl M a k 40 s) (hI : zI G M) (h0 : zModel T F G a) (hk : 0 ≤ k ∧ k ≤ 3) (hj : 0 ≤ j ∧ j ≤ 39) : 0 ≤ M (a + 2) (8 + 40 * k + j) ∧ M (a + 2) (8 + 40 * k + j) ≤ s := by
  have hp : ∀ j : Nat, j < 40 → 0 ≤ M (a + 2) (8 + 40 * k + j) := fun j hj => (zI.at hI ((zM9 h0 (8 + 40 * k + j)).trans (zfG_8 (by omega)))).1
  have z0 := zSum_mo (g := M (a + 2)) (b := 8 + 40 * k) 0 j.toNat (fun j hj => hp j (by omega))
  rw [Nat.zero_add] at z0
  have z2 := zSum_mo (g := M (a + 2)) (b := 8 + 40 * k) (j + 1).toNat (40 - (j + 1).toNat) (fun j hj => hp j (by omega))
  rw [show (j + 1).toNat + (40 - (j + 1).toNat) = 40 by omega, zSum_s hj.1] at z2
  have h2 : zSum (M (a + 2)) (8 + 40 * k) 40 = s := h.2
  have h3 := hp j.toNat (by omega)
  rw [show ((j.toNat : Nat) : Int) = j by omega] at h3
  have z3 : 0 ≤ zSum (M (a + 2)) (8 + 40 * k) j.toNat := z0
  omega
theorem zFl.fi {T : zTl} {F : zRm'} {G : zGt} {M : zMm} {a : Nat} {k s : Int} (h : zFl M a k 40 s) (hs : s ≤ 400) (hI : zI G M) (h0 : zModel T F G a) (hk : 0 ≤ k ∧ k ≤ 3) : zFi M a := fun q q0 q3 => by
  by_cases z : q = k
  · subst z
    have hn := zI.at hI ((zM9 h0 (4 + q)).trans (zfG_4 (by omega)))
    have hp : ∀ j : Nat, j < 40 → 0 ≤ M (a + 2) (8 + 40 * q + j) := fun j hj => (zI.at hI ((zM9 h0 (8 + 40 * q + j)).trans (zfG_8 (by omega)))).1
    have z2 := zSum_mo (g := M (a + 2)) (b := 8 + 40 * q) (M (a + 2) (4 + q)).toNat (40 - (M (a + 2) (4 + q)).toNat) (fun j hj => hp j (by omega))
    rw [show (M (a + 2) (4 + q)).toNat + (40 - (M (a + 2) (4 + q)).toNat) = 40 by omega] at z2
    have h2 : zSum (M (a + 2)) (8 + 40 * q) 40 = s := h.2
    omega
  · exact h.1 q q0 q3 z
theorem c_X12_file {w : zWp} {T : zTl} {M : zMm} {J : zJm} {R : zRm'} {G : zGt} {F : zRm'} {a : Nat} (hI : zI G M) (hF : zF F R) (h0 : zModel T F G a) (v1 : Int) (p1 : zFi M a) (p2 : -2147483648 ≤ v1 ∧ v1 ≤ 2147483647) : zCt w 3 0 0 yX12_file cX12_file 7 (some .int) [.ref (w.2.1 + a), zi v1] (T, M, J, R) (zPi T R G (fun x M2 => (zMd a [2, 4] [0, 2, 3, 9] [] M M2) ∧ (zFi M2 a) ∧ (M2 a 2 = 0) ∧ (zFA (M (a + 1)) (M a 2) v1 x))) := by
  refine zCt.of rfl (Nat.le_of_ble_eq_true rfl) ?_
  intro p e s m args below meth c C
  obtain ⟨Po, hPo⟩ : ∃ Po, Po = zPi T R G (fun x M2 => (zMd a [2, 4] [0, 2, 3, 9] [] M M2) ∧ (zFi M2 a) ∧ (M2 a 2 = 0) ∧ (zFA (M (a + 1)) (M a 2) v1 x)) := ⟨_, rfl⟩
  rw [← hPo]
  have hK0 : zMd a [2, 4] [0, 2, 3, 9] [] M M := zMd.rf
  have gk_length := zI.at hI (zM5 h0)
  have gk_size := zI.at hI (zM6 h0)
  show zK w p e 3 0 0 s m args below meth c 7 T Po 0 [.ref (w.2.1 + a), zi v1, .null, .null, .null, .null, .null] [] (T, M, J, R)
  refine q_aload_n C dX12_file_0 (n := 1) rfl rfl ?_
  refine q_callVv C dX12_file_1 (n := 4) rfl m_X12_293 v_yX12_taken (zM0 h0) ⟨by decide, rfl⟩ (c_X12_taken (w := w) (J := J) hI hF h0) (Nat.le_of_ble_eq_true rfl) rfl rfl (Nat.le_of_ble_eq_true rfl) ⟨Nat.le_refl _, Nat.le_refl _⟩ (fun M3 J4  hI5 h6 => ?_)
  obtain ⟨hk7, h1, h2⟩ := h6
  have hK8 := hK0.tr hk7 rfl rfl rfl
  refine q_iload_n C dX12_file_4 (n := 5) rfl rfl ?_
  refine q_iconst C dX12_file_5 (n := 6) rfl ?_
  refine q_iconst C dX12_file_6 (n := 7) rfl ?_
  refine q_callSp C dX12_file_7 (n := 10) rfl m_X12_277 s_yX12_isIn (c_X12_isIn (w := w) (J := J4) hI5 hF v1 0 3 (by omega) (by omega) (by omega)) (Nat.le_of_ble_eq_true rfl) rfl rfl (Nat.le_of_ble_eq_true rfl) ⟨Nat.le_refl _, Nat.le_refl _⟩ (fun x12 h13 => ?_)
  obtain ⟨h9, h10, h11⟩ := h13
  refine q_if_ne C 16 dX12_file_10 (n := 13) rfl rfl (by omega) (fun h14 => ?_) (fun h14 => ?_)
  · refine q_aload_n C dX12_file_16 (n := 17) rfl rfl ?_
    have g15 := zI.at hI5 (zM6 h0)
    refine q_getI C dX12_file_17 (n := 20) rfl f_X12_274 (zM0 h0) (v := M3 a 3) rfl ?_
    refine q_sipush C dX12_file_20 (n := 23) rfl (x := 400) (by decide) ?_
    refine q_icmp_le C 29 dX12_file_23 (n := 26) rfl rfl (by omega) (fun h16 => ?_) (fun h16 => ?_)
    · refine q_aload_n C dX12_file_29 (n := 30) rfl rfl ?_
      refine q_iconst C dX12_file_30 (n := 31) rfl ?_
      refine q_callVp C dX12_file_31 (n := 34) rfl m_X12_296 v_yX12_badByte (zM0 h0) ⟨by decide, rfl⟩ (c_X12_badByte (w := w) (J := J4) hI5 hF h0 1 (by omega)) (Nat.le_of_ble_eq_true rfl) rfl rfl (Nat.le_of_ble_eq_true rfl) ⟨Nat.le_refl _, Nat.le_refl _⟩ (fun x19 h20 => ?_)
      obtain ⟨h17, h18⟩ := h20
      refine q_istore_n C [.ref (w.2.1 + a), zi v1, zi x19, .null, .null, .null, .null] dX12_file_34 (n := 35) rfl rfl rfl ?_
      refine q_iload_n C dX12_file_35 (n := 36) rfl rfl ?_
      refine q_if_lt C 45 dX12_file_36 (n := 39) rfl rfl (by omega) (fun h21 => ?_) (fun h21 => ?_)
      · have gz0 := zTen_0 (g := M (a + 1))
        refine q_iconst C dX12_file_45 (n := 46) rfl ?_
        refine q_istore_n C [.ref (w.2.1 + a), zi v1, zi x19, zi 0, .null, .null, .null] dX12_file_46 (n := 47) rfl rfl rfl ?_
        refine q_iconst C dX12_file_47 (n := 48) rfl ?_
        refine q_istore C [.ref (w.2.1 + a), zi v1, zi x19, zi 0, zi 0, .null, .null] dX12_file_48 (n := 50) rfl rfl rfl ?_
        have L_29 : ∀ n30 : Nat, ∀ (u22 : Int) (u23 : Int), (-2147483648 ≤ u22 ∧ u22 ≤ 2147483647) → (-2147483648 ≤ u23 ∧ u23 ≤ 2147483647) → (0 ≤ u23 ∧ u23 ≤ M a 2) → (u23 < M a 2 ∧ u22 = zTen (M (a + 1)) (u23 : Int).toNat ∨ u23 = M a 2 ∧ (u23 = 0 ∧ u22 = 0 ∨ 1 ≤ u23 ∧ u22 = zTen (M (a + 1)) (M a 2 - 1).toNat + 1)) → (0 ≤ u22 ∧ u22 ≤ u23) → (441 - u23 ≤ (n30 : Int)) → zK w p e 3 0 0 s m args below meth c 7 T Po 50 [.ref (w.2.1 + a), zi v1, .null, zi u22, zi u23, .null, .null] [] (T, M3, J4, R) := by
          intro n30
          induction n30 with
          | zero =>
            intro u22 u23 h24 h25 h26 h27 h28 hm32
            exfalso
            omega
          | succ n30 ih31 =>
            intro u22 u23 h24 h25 h26 h27 h28 hm32
            refine q_iload C dX12_file_50 (n := 52) rfl rfl ?_
            refine q_aload_n C dX12_file_52 (n := 53) rfl rfl ?_
            refine q_getI C dX12_file_53 (n := 56) rfl f_X12_274 (zM0 h0) (v := M3 a 3) rfl ?_
            refine q_icmp_ge C 96 dX12_file_56 (n := 59) rfl rfl (by omega) (fun h33 => ?_) (fun h33 => ?_)
            · refine q_iload_n C dX12_file_96 (n := 97) rfl rfl ?_
              refine q_bipush C dX12_file_97 (n := 99) rfl (x := 40) (by decide) ?_
              refine q_icmp_le C 105 dX12_file_99 (n := 102) rfl rfl (by omega) (fun h34 => ?_) (fun h34 => ?_)
              · refine q_aload_n C dX12_file_105 (n := 106) rfl rfl ?_
                refine q_iconst C dX12_file_106 (n := 107) rfl ?_
                refine q_putZ C dX12_file_107 (n := 110) rfl f_X12_300 (zM0 h0) ⟨rfl, rfl⟩ (by omega) (fun M35 (e36 : M35 = zup M3 a 9 0) => ?_)
                have hI37 : zI G M35 := hI5.put e36 (zM22 h0) rfl (by omega)
                have hK38 := hK8.upS e36 rfl
                refine q_aload_n C dX12_file_110 (n := 111) rfl rfl ?_
                refine q_getR C dX12_file_111 (n := 114) rfl f_X12_17 (zM0 h0) (hF _ _ _ (zM7 h0)) ?_
                refine q_iconst C dX12_file_114 (n := 115) rfl ?_
                refine q_iload_n C dX12_file_115 (n := 116) rfl rfl ?_
                refine q_iadd C dX12_file_116 (n := 117) rfl (v := 0 + v1) rfl ?_
                refine q_iconst C dX12_file_117 (n := 118) rfl ?_
                refine q_iast C dX12_file_118 (n := 119) rfl (zM8 h0) (by omega)  (fun M39 e40 => ?_)
                have hp41 : zFi M35 a := p1.cg (fun j => ((zup_p e36 (by omega) _).trans (hk7.getA rfl rfl rfl)))
                have hI42 : zI G M39 := hI37.put e40 (((zM9 h0) (0 + v1)).trans (zfG_0 (by omega))) rfl (by omega)
                have hK43 := hK38.upA e40 rfl
                refine q_aload_n C dX12_file_119 (n := 120) rfl rfl ?_
                refine q_getR C dX12_file_120 (n := 123) rfl f_X12_17 (zM0 h0) (hF _ _ _ (zM7 h0)) ?_
                refine q_iconst C dX12_file_123 (n := 124) rfl ?_
                refine q_iload_n C dX12_file_124 (n := 125) rfl rfl ?_
                refine q_iadd C dX12_file_125 (n := 126) rfl (v := 4 + v1) rfl ?_
                refine q_iload_n C dX12_file_126 (n := 127) rfl rfl ?_
                refine q_iast C dX12_file_127 (n := 128) rfl (zM8 h0) (by omega)  (fun M44 e45 => ?_)
                have hI46 : zI G M44 := hI42.put e45 (((zM9 h0) (4 + v1)).trans (zfG_4 (by omega))) rfl (by omega)
                have hK47 := hK43.upA e45 rfl
                refine q_iconst C dX12_file_128 (n := 129) rfl ?_
                refine q_istore C [.ref (w.2.1 + a), zi v1, .null, zi u22, zi 0, .null, .null] dX12_file_129 (n := 131) rfl rfl rfl ?_
                have L_58 : ∀ n59 : Nat, ∀ (u48 : Int) (M50 : zMm) (J51 : zJm), zI G M50 → zMd a [2, 4] [0, 2, 3, 9] [] M M50 → zMd a [2] [] [] M44 M50 → (-2147483648 ≤ u48 ∧ u48 ≤ 2147483647) → (0 ≤ u48 ∧ u48 ≤ 40) → (zFl M50 a v1 u48 0) → (41 - u48 ≤ (n59 : Int)) → zK w p e 3 0 0 s m args below meth c 7 T Po 131 [.ref (w.2.1 + a), zi v1, .null, zi u22, zi u48, .null, .null] [] (T, M50, J51, R) := by
                  intro n59
                  induction n59 with
                  | zero =>
                    intro u48 M50 J51 hI52 hK53 hK54 h55 h56 h57 hm61
                    exfalso
                    omega
                  | succ n59 ih60 =>
                    intro u48 M50 J51 hI52 hK53 hK54 h55 h56 h57 hm61
                    refine q_iload C dX12_file_131 (n := 133) rfl rfl ?_
                    refine q_bipush C dX12_file_133 (n := 135) rfl (x := 40) (by decide) ?_
                    refine q_icmp_ge C 160 dX12_file_135 (n := 138) rfl rfl (by omega) (fun h62 => ?_) (fun h62 => ?_)
                    · refine q_sipush C dX12_file_160 (n := 163) rfl (x := 400) (by decide) ?_
                      refine q_iload_n C dX12_file_163 (n := 164) rfl rfl ?_
                      refine q_imul C dX12_file_164 (n := 165) rfl (v := 400 * v1) rfl ?_
                      refine q_istore C [.ref (w.2.1 + a), zi v1, .null, zi u22, zi (400 * v1), .null, .null] dX12_file_165 (n := 167) rfl rfl rfl ?_
                      refine q_iconst C dX12_file_167 (n := 168) rfl ?_
                      refine q_istore C [.ref (w.2.1 + a), zi v1, .null, zi u22, zi (400 * v1), zi 0, .null] dX12_file_168 (n := 170) rfl rfl rfl ?_
                      refine q_iconst C dX12_file_170 (n := 171) rfl ?_
                      refine q_istore C [.ref (w.2.1 + a), zi v1, .null, zi u22, zi (400 * v1), zi 0, zi 0] dX12_file_171 (n := 173) rfl rfl rfl ?_
                      have L_80 : ∀ n81 : Nat, ∀ (u63 : Int) (u64 : Int) (u65 : Int) (M67 : zMm) (J68 : zJm), zI G M67 → zMd a [2, 4] [0, 2, 3, 9] [] M M67 → zMd a [2, 4] [] [] M50 M67 → (-2147483648 ≤ u63 ∧ u63 ≤ 2147483647) → (-2147483648 ≤ u64 ∧ u64 ≤ 2147483647) → (-2147483648 ≤ u65 ∧ u65 ≤ 2147483647) → (0 ≤ u65 ∧ u65 ≤ M a 2) → (u64 = zTen (M (a + 1)) (u65 : Int).toNat) → (0 ≤ u64 ∧ u64 ≤ u65) → (400 * v1 ≤ u63 ∧ u63 ≤ 400 * v1 + u65) → (zFl M67 a v1 40 (u63 - 400 * v1)) → (441 - u65 ≤ (n81 : Int)) → zK w p e 3 0 0 s m args below meth c 7 T Po 173 [.ref (w.2.1 + a), zi v1, .null, zi u22, zi u63, zi u64, zi u65] [] (T, M67, J68, R) := by
                        intro n81
                        induction n81 with
                        | zero =>
                          intro u63 u64 u65 M67 J68 hI69 hK70 hK71 h72 h73 h74 h75 h76 h77 h78 h79 hm83
                          exfalso
                          omega
                        | succ n81 ih82 =>
                          intro u63 u64 u65 M67 J68 hI69 hK70 hK71 h72 h73 h74 h75 h76 h77 h78 h79 hm83
                          refine q_iload C dX12_file_173 (n := 175) rfl rfl ?_
                          refine q_aload_n C dX12_file_175 (n := 176) rfl rfl ?_
                          refine q_getI C dX12_file_176 (n := 179) rfl f_X12_274 (zM0 h0) (v := M3 a 3) ((hK71.getS rfl rfl).trans ((hK54.getS rfl rfl).trans ((zup_p e45 (by omega) _).trans ((zup_p e40 (by omega) _).trans (zup_n e36 (by omega)))))) ?_
                          refine q_icmp_ge C 242 dX12_file_179 (n := 182) rfl rfl (by omega) (fun h84 => ?_) (fun h84 => ?_)
                          · have hp85 : zFi M67 a := zFl.fi h79 (by omega) hI69 h0 (by omega)
                            refine q_iload_n C dX12_file_242 (n := 243) rfl rfl ?_
                            exact q_iret C dX12_file_243 ⟨rfl, rfl⟩ (by rw [hPo]; exact ⟨u22, M67, J68, rfl, rfl, hI69, hK70, hp85, by have hz86 : M67 a 2 = M3 a 2 := ((hK71.getS rfl rfl).trans ((hK54.getS rfl rfl).trans ((zup_p e45 (by omega) _).trans ((zup_p e40 (by omega) _).trans (zup_n e36 (by omega)))))); omega, (zFA.d (by omega) (by omega) (zWb.cg h18 (fun j => (hk7.getA rfl rfl rfl)) (by omega) (by omega)) (by omega) (show zLi (M (a + 1)) (M a 2) u22 from (by unfold zLi; omega)) (Or.inr ⟨by omega, rfl⟩))⟩)
                          · have gs2 := zTen_s (g := M (a + 1)) (i := u65) (by omega)
                            have gm2 := zTen_le (g := M (a + 1)) (i := u65) (j := M a 2 - 1) (by omega)
                            refine q_aload_n C dX12_file_182 (n := 183) rfl rfl ?_
                            refine q_getR C dX12_file_183 (n := 186) rfl f_X12_13 (zM0 h0) (hF _ _ _ (zM2 h0)) ?_
                            refine q_iload C dX12_file_186 (n := 188) rfl rfl ?_
                            have g87 := zI.at hI ((zM4 h0) u65)
                            refine q_bald C dX12_file_188 (n := 189) rfl (zM3 h0) (by omega) (v := M (a + 1) u65) ((hK71.getA rfl rfl rfl).trans ((hK54.getA rfl rfl rfl).trans ((zup_p e45 (by omega) _).trans ((zup_p e40 (by omega) _).trans ((zup_p e36 (by omega) _).trans (hk7.getA rfl rfl rfl)))))) ?_
                            have gt88 : M67 (a + 1) u65 = M (a + 1) u65 := ((hK71.getA rfl rfl rfl).trans ((hK54.getA rfl rfl rfl).trans ((zup_p e45 (by omega) _).trans ((zup_p e40 (by omega) _).trans ((zup_p e36 (by omega) _).trans (hk7.getA rfl rfl rfl))))))
                            refine q_bipush C dX12_file_189 (n := 191) rfl (x := 10) (by decide) ?_
                            refine q_icmp_ne C 200 dX12_file_191 (n := 194) rfl rfl (by omega) (fun h89 => ?_) (fun h89 => ?_)
                            · refine q_aload_n C dX12_file_200 (n := 201) rfl rfl ?_
                              refine q_getR C dX12_file_201 (n := 204) rfl f_X12_24 (zM0 h0) (hF _ _ _ (zM13 h0)) ?_
                              refine q_iload C dX12_file_204 (n := 206) rfl rfl ?_
                              refine q_aload_n C dX12_file_206 (n := 207) rfl rfl ?_
                              refine q_getR C dX12_file_207 (n := 210) rfl f_X12_13 (zM0 h0) (hF _ _ _ (zM2 h0)) ?_
                              refine q_iload C dX12_file_210 (n := 212) rfl rfl ?_
                              refine q_bald C dX12_file_212 (n := 213) rfl (zM3 h0) (by omega) (v := M (a + 1) u65) ((hK71.getA rfl rfl rfl).trans ((hK54.getA rfl rfl rfl).trans ((zup_p e45 (by omega) _).trans ((zup_p e40 (by omega) _).trans ((zup_p e36 (by omega) _).trans (hk7.getA rfl rfl rfl)))))) ?_
                              refine q_bast C dX12_file_213 (n := 214) rfl (zM14 h0) (by omega) (by omega) (fun M90 e91 => ?_)
                              have hI92 : zI G M90 := hI69.put e91 ((zM15 h0) u63) rfl (by omega)
                              have hK93 := hK70.upA e91 rfl
                              have hK94 := hK71.upA e91 rfl
                              refine q_iinc C [.ref (w.2.1 + a), zi v1, .null, zi u22, zi (u63 + 1), zi u64, zi u65] dX12_file_214 (n := 217) rfl rfl rfl rfl ?_
                              have gfe : M90 (a + 2) (8 + 40 * v1 + u64) = M67 (a + 2) (8 + 40 * v1 + u64) := (zup_p e91 (by omega) _)
                              have hp95 : zFl M90 a v1 40 (u63 - 400 * v1) := h79.cg (fun j => (zup_p e91 (by omega) _))
                              have gfl := zFl.le (j := u64) hp95 hI92 h0 (by omega) (by omega)
                              refine q_aload_n C dX12_file_217 (n := 218) rfl rfl ?_
                              refine q_getR C dX12_file_218 (n := 221) rfl f_X12_17 (zM0 h0) (hF _ _ _ (zM7 h0)) ?_
                              refine q_bipush C dX12_file_221 (n := 223) rfl (x := 8) (by decide) ?_
                              refine q_bipush C dX12_file_223 (n := 225) rfl (x := 40) (by decide) ?_
                              refine q_iload_n C dX12_file_225 (n := 226) rfl rfl ?_
                              refine q_imul C dX12_file_226 (n := 227) rfl (v := 40 * v1) rfl ?_
                              refine q_iadd C dX12_file_227 (n := 228) rfl (v := 8 + (40 * v1)) rfl ?_
                              refine q_iload C dX12_file_228 (n := 230) rfl rfl ?_
                              refine q_iadd C dX12_file_230 (n := 231) rfl (v := (8 + (40 * v1)) + u64) rfl ?_
                              refine q_dup2 C dX12_file_231 (n := 232) rfl ⟨rfl, rfl⟩ ?_
                              have g96 := zI.at hI69 (((zM9 h0) ((8 + (40 * v1)) + u64)).trans (zfG_8 (by omega)))
                              refine q_iald C dX12_file_232 (n := 233) rfl (zM8 h0) (by omega) (v := M67 (a + 2) ((8 + (40 * v1)) + u64)) (zup_p e91 (by omega) _) ?_
                              refine q_iconst C dX12_file_233 (n := 234) rfl ?_
                              refine q_iadd C dX12_file_234 (n := 235) rfl (v := (M67 (a + 2) ((8 + (40 * v1)) + u64)) + 1) rfl ?_
                              refine q_iast C dX12_file_235 (n := 236) rfl (zM8 h0) (by omega)  (fun M97 e98 => ?_)
                              have hI99 : zI G M97 := hI92.put e98 (((zM9 h0) ((8 + (40 * v1)) + u64)).trans (zfG_8 (by omega))) rfl (by omega)
                              have hK100 := hK93.upA e98 rfl
                              have hK101 := hK94.upA e98 rfl
                              refine q_iinc C [.ref (w.2.1 + a), zi v1, .null, zi u22, zi (u63 + 1), zi u64, zi (u65 + 1)] dX12_file_236 (n := 239) rfl rfl rfl rfl ?_
                              refine q_goto C 173 dX12_file_239 rfl ?_
                              exact zK.weak (ih82 (u63 + 1) u64 (u65 + 1) M97 J68 hI99 hK100 hK101 (by omega) (by omega) (by omega) (by omega) (by omega) (by omega) (by omega) (zFl.c (zFl.inc hp95 e98 (by omega) hI92 h0 (by omega) (by omega)) (by omega) (by omega)) (by omega)) (zwk_c (zwk_c (zwk_n (zwk_c (zwk_c (zwk_c (zwk_c zwk_e)))))))
                            · refine q_iinc C [.ref (w.2.1 + a), zi v1, .null, zi u22, zi u63, zi (u64 + 1), zi u65] dX12_file_194 (n := 197) rfl rfl rfl rfl ?_
                              refine q_goto C 236 dX12_file_197 rfl ?_
                              refine q_iinc C [.ref (w.2.1 + a), zi v1, .null, zi u22, zi u63, zi (u64 + 1), zi (u65 + 1)] dX12_file_236 (n := 239) rfl rfl rfl rfl ?_
                              refine q_goto C 173 dX12_file_239 rfl ?_
                              exact zK.weak (ih82 u63 (u64 + 1) (u65 + 1) M67 J68 hI69 hK70 hK71 (by omega) (by omega) (by omega) (by omega) (by omega) (by omega) (by omega) (zFl.c h79 (by omega) (by omega)) (by omega)) (zwk_c (zwk_c (zwk_n (zwk_c (zwk_c (zwk_c (zwk_c zwk_e)))))))
                      exact zK.weak (L_80 _ (400 * v1) 0 0 M50 J51 hI52 hK53 (zMd.rf : zMd a [2, 4] [] [] M50 M50) (by omega) (by omega) (by omega) (by omega) (by omega) (by omega) (by omega) (zFl.c h57 (by omega) (by omega)) (Int.self_le_toNat _)) (zwk_c (zwk_c (zwk_n (zwk_c (zwk_c (zwk_c (zwk_c zwk_e)))))))
                    · refine q_aload_n C dX12_file_138 (n := 139) rfl rfl ?_
                      refine q_getR C dX12_file_139 (n := 142) rfl f_X12_17 (zM0 h0) (hF _ _ _ (zM7 h0)) ?_
                      refine q_bipush C dX12_file_142 (n := 144) rfl (x := 8) (by decide) ?_
                      refine q_bipush C dX12_file_144 (n := 146) rfl (x := 40) (by decide) ?_
                      refine q_iload_n C dX12_file_146 (n := 147) rfl rfl ?_
                      refine q_imul C dX12_file_147 (n := 148) rfl (v := 40 * v1) rfl ?_
                      refine q_iadd C dX12_file_148 (n := 149) rfl (v := 8 + (40 * v1)) rfl ?_
                      refine q_iload C dX12_file_149 (n := 151) rfl rfl ?_
                      refine q_iadd C dX12_file_151 (n := 152) rfl (v := (8 + (40 * v1)) + u48) rfl ?_
                      refine q_iconst C dX12_file_152 (n := 153) rfl ?_
                      refine q_iast C dX12_file_153 (n := 154) rfl (zM8 h0) (by omega)  (fun M102 e103 => ?_)
                      have hI104 : zI G M102 := hI52.put e103 (((zM9 h0) ((8 + (40 * v1)) + u48)).trans (zfG_8 (by omega))) rfl (by omega)
                      have hK105 := hK53.upA e103 rfl
                      have hK106 := hK54.upA e103 rfl
                      refine q_iinc C [.ref (w.2.1 + a), zi v1, .null, zi u22, zi (u48 + 1), .null, .null] dX12_file_154 (n := 157) rfl rfl rfl rfl ?_
                      refine q_goto C 131 dX12_file_157 rfl ?_
                      exact zK.weak (ih60 (u48 + 1) M102 J51 hI104 hK105 hK106 (by omega) (by omega) (zFl.c (zFl.clr h57 e103 hI52 h0 (by omega) (by omega)) (by omega) (by omega)) (by omega)) (zwk_c (zwk_c (zwk_n (zwk_c (zwk_c (zwk_n (zwk_n zwk_e)))))))
                exact zK.weak (L_58 _ 0 M44 J4 hI46 hK47 (zMd.rf : zMd a [2] [] [] M44 M44) (by omega) (by omega) (zFl.c (zFl_init (M := M) (k := v1) (fun j => ((zup_p e36 (by omega) _).trans (hk7.getA rfl rfl rfl))) e40 e45 p1 hI h0 (by omega) (by omega)) (by omega) (by omega)) (Int.self_le_toNat _)) (zwk_c (zwk_c (zwk_n (zwk_c (zwk_c (zwk_n (zwk_n zwk_e)))))))
              · refine q_bipush C dX12_file_102 (n := 104) rfl (x := (-3)) (by decide) ?_
                have hp107 : zFi M3 a := p1.cg (fun j => (hk7.getA rfl rfl rfl))
                exact q_iret C dX12_file_104 ⟨rfl, rfl⟩ (by rw [hPo]; exact ⟨(-3), M3, J4, rfl, rfl, hI5, hK8, hp107, by omega, (zFA.d (by omega) (by omega) (zWb.cg h18 (fun j => (hk7.getA rfl rfl rfl)) (by omega) (by omega)) (by omega) (show zLi (M (a + 1)) (M a 2) u22 from (by unfold zLi; omega)) (Or.inl ⟨by omega, rfl⟩))⟩)
            · have gs := zTen_s (g := M (a + 1)) (i := u23) (by omega)
              have gq : ¬ (u23 : Int) = M a 2 - 1 ∨ zTen (M (a + 1)) (u23 : Int).toNat = zTen (M (a + 1)) (M a 2 - 1).toNat := (Decidable.em ((u23 : Int) = M a 2 - 1)).symm.imp id (fun h => by rw [h])
              refine q_iload_n C dX12_file_59 (n := 60) rfl rfl ?_
              refine q_aload_n C dX12_file_60 (n := 61) rfl rfl ?_
              refine q_getR C dX12_file_61 (n := 64) rfl f_X12_13 (zM0 h0) (hF _ _ _ (zM2 h0)) ?_
              refine q_iload C dX12_file_64 (n := 66) rfl rfl ?_
              have g108 := zI.at hI ((zM4 h0) u23)
              refine q_bald C dX12_file_66 (n := 67) rfl (zM3 h0) (by omega) (v := M (a + 1) u23) (hk7.getA rfl rfl rfl) ?_
              have gt109 : M3 (a + 1) u23 = M (a + 1) u23 := (hk7.getA rfl rfl rfl)
              refine q_bipush C dX12_file_67 (n := 69) rfl (x := 10) (by decide) ?_
              refine q_icmp_eq C 83 dX12_file_69 (n := 72) rfl rfl (by omega) (fun h110 => ?_) (fun h110 => ?_)
              · refine q_iconst C dX12_file_83 (n := 84) rfl ?_
                refine q_goto C 88 dX12_file_84 rfl ?_
                refine q_iadd C dX12_file_88 (n := 89) rfl (v := u22 + 1) rfl ?_
                refine q_istore_n C [.ref (w.2.1 + a), zi v1, .null, zi (u22 + 1), zi u23, .null, .null] dX12_file_89 (n := 90) rfl rfl rfl ?_
                refine q_iinc C [.ref (w.2.1 + a), zi v1, .null, zi (u22 + 1), zi (u23 + 1), .null, .null] dX12_file_90 (n := 93) rfl rfl rfl rfl ?_
                refine q_goto C 50 dX12_file_93 rfl ?_
                exact zK.weak (ih31 (u22 + 1) (u23 + 1) (by omega) (by omega) (by omega) (by omega) (by omega) (by omega)) (zwk_c (zwk_c (zwk_n (zwk_c (zwk_c (zwk_n (zwk_n zwk_e)))))))
              · refine q_iload C dX12_file_72 (n := 74) rfl rfl ?_
                refine q_aload_n C dX12_file_74 (n := 75) rfl rfl ?_
                refine q_getI C dX12_file_75 (n := 78) rfl f_X12_274 (zM0 h0) (v := M3 a 3) rfl ?_
                refine q_iconst C dX12_file_78 (n := 79) rfl ?_
                refine q_isub C dX12_file_79 (n := 80) rfl (v := (M3 a 3) - 1) rfl ?_
                refine q_icmp_ne C 87 dX12_file_80 (n := 83) rfl rfl (by omega) (fun h111 => ?_) (fun h111 => ?_)
                · refine q_iconst C dX12_file_87 (n := 88) rfl ?_
                  refine q_iadd C dX12_file_88 (n := 89) rfl (v := u22 + 0) rfl ?_
                  refine q_istore_n C [.ref (w.2.1 + a), zi v1, .null, zi (u22 + 0), zi u23, .null, .null] dX12_file_89 (n := 90) rfl rfl rfl ?_
                  refine q_iinc C [.ref (w.2.1 + a), zi v1, .null, zi (u22 + 0), zi (u23 + 1), .null, .null] dX12_file_90 (n := 93) rfl rfl rfl rfl ?_
                  refine q_goto C 50 dX12_file_93 rfl ?_
                  exact zK.weak (ih31 (u22 + 0) (u23 + 1) (by omega) (by omega) (by omega) (by omega) (by omega) (by omega)) (zwk_c (zwk_c (zwk_n (zwk_c (zwk_c (zwk_n (zwk_n zwk_e)))))))
                · refine q_iconst C dX12_file_83 (n := 84) rfl ?_
                  refine q_goto C 88 dX12_file_84 rfl ?_
                  refine q_iadd C dX12_file_88 (n := 89) rfl (v := u22 + 1) rfl ?_
                  refine q_istore_n C [.ref (w.2.1 + a), zi v1, .null, zi (u22 + 1), zi u23, .null, .null] dX12_file_89 (n := 90) rfl rfl rfl ?_
                  refine q_iinc C [.ref (w.2.1 + a), zi v1, .null, zi (u22 + 1), zi (u23 + 1), .null, .null] dX12_file_90 (n := 93) rfl rfl rfl rfl ?_
                  refine q_goto C 50 dX12_file_93 rfl ?_
                  exact zK.weak (ih31 (u22 + 1) (u23 + 1) (by omega) (by omega) (by omega) (by omega) (by omega) (by omega)) (zwk_c (zwk_c (zwk_n (zwk_c (zwk_c (zwk_n (zwk_n zwk_e)))))))
        exact zK.weak (L_29 _ 0 0 (by omega) (by omega) (by omega) (by omega) (by omega) (Int.self_le_toNat _)) (zwk_c (zwk_c (zwk_n (zwk_c (zwk_c (zwk_n (zwk_n zwk_e)))))))
      · refine q_sipush C dX12_file_39 (n := 42) rfl (x := (-1000)) (by decide) ?_
        refine q_iload_n C dX12_file_42 (n := 43) rfl rfl ?_
        refine q_isub C dX12_file_43 (n := 44) rfl (v := (-1000) - x19) rfl ?_
        have hp112 : zFi M3 a := p1.cg (fun j => (hk7.getA rfl rfl rfl))
        exact q_iret C dX12_file_44 ⟨rfl, rfl⟩ (by rw [hPo]; exact ⟨(-1000) - x19, M3, J4, rfl, rfl, hI5, hK8, hp112, by omega, (zFA.c (by omega) (by omega) (zWb.cg h18 (fun j => (hk7.getA rfl rfl rfl)) (by omega) (by omega)) ⟨by omega, by omega⟩)⟩)
    · refine q_bipush C dX12_file_26 (n := 28) rfl (x := (-3)) (by decide) ?_
      have hp113 : zFi M3 a := p1.cg (fun j => (hk7.getA rfl rfl rfl))
      exact q_iret C dX12_file_28 ⟨rfl, rfl⟩ (by rw [hPo]; exact ⟨(-3), M3, J4, rfl, rfl, hI5, hK8, hp113, by omega, (Or.inr ⟨by omega, Or.inl ⟨by omega, rfl⟩⟩)⟩)
  · refine q_bipush C dX12_file_13 (n := 15) rfl (x := (-2)) (by decide) ?_
    have hp114 : zFi M3 a := p1.cg (fun j => (hk7.getA rfl rfl rfl))
    exact q_iret C dX12_file_15 ⟨rfl, rfl⟩ (by rw [hPo]; exact ⟨(-2), M3, J4, rfl, rfl, hI5, hK8, hp114, by omega, (Or.inl ⟨by omega, rfl⟩)⟩)
