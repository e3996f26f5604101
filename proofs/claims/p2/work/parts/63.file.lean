def zTen (g : Int → Int) : Nat → Int
  | 0 => 0
  | n + 1 => zTen g n + if g n = 10 then 1 else 0
theorem zTen_0 {g : Int → Int} : zTen g (0 : Int).toNat = 0 := rfl
theorem zTen_s {g : Int → Int} {i : Int} (h : 0 ≤ i) : g i = 10 ∧ zTen g (i + 1).toNat = zTen g i.toNat + 1 ∨ g i ≠ 10 ∧ zTen g (i + 1).toNat = zTen g i.toNat := by
  have e : (i + 1).toNat = i.toNat + 1 := by omega
  have e2 : zTen g (i.toNat + 1) = zTen g i.toNat + if g ((i.toNat : Nat) : Int) = 10 then 1 else 0 := rfl
  rw [e, e2, show ((i.toNat : Nat) : Int) = i by omega]
  by_cases q : g i = 10
  · exact Or.inl ⟨q, by rw [if_pos q]⟩
  · exact Or.inr ⟨q, by rw [if_neg q, Int.add_zero]⟩
theorem zTen_mo {g : Int → Int} : ∀ (n m : Nat), zTen g n ≤ zTen g (n + m)
  | _, 0 => Int.le_refl _
  | n, m + 1 => by
    have h1 := zTen_mo (g := g) n m
    have e : zTen g (n + (m + 1)) = zTen g (n + m) + if g ((n + m : Nat) : Int) = 10 then 1 else 0 := rfl
    rw [e]
    split <;> omega
theorem zTen_le {g : Int → Int} {i j : Int} (h : 0 ≤ i ∧ i ≤ j) : 0 ≤ zTen g i.toNat ∧ zTen g i.toNat ≤ zTen g j.toNat := by
  have h1 := zTen_mo (g := g) 0 i.toNat
  rw [Nat.zero_add] at h1
  have h2 := zTen_mo (g := g) i.toNat (j.toNat - i.toNat)
  rw [show i.toNat + (j.toNat - i.toNat) = j.toNat by omega] at h2
  exact ⟨h1, h2⟩
def zFl (M : zMm) (a : Nat) (k l s : Int) : Prop := (∀ q, 0 ≤ q → q ≤ 3 → q ≠ k → zSum (M (a + 2)) (8 + 40 * q) (M (a + 2) (4 + q)).toNat ≤ 400) ∧ zSum (M (a + 2)) (8 + 40 * k) l.toNat = s
theorem zFl.cg {M M2 : zMm} {a : Nat} {k l s : Int} (h : zFl M a k l s) (e : ∀ j, M2 (a + 2) j = M (a + 2) j) : zFl M2 a k l s := by
  have e2 : M2 (a + 2) = M (a + 2) := funext e
  unfold zFl
  rw [e2]
  exact h
theorem zFl.c {M : zMm} {a : Nat} {k l s l2 s2 : Int} (h : zFl M a k l s) (hl : l = l2) (hs : s = s2) : zFl M a k l2 s2 := by
  subst hl hs
  exact h
theorem zFl_init {T : zTl} {F : zRm'} {G : zGt} {M Mx M1 M2 : zMm} {a : Nat} {k i x n : Int} (e0 : ∀ j, Mx (a + 2) j = M (a + 2) j) (e1 : M1 = zup Mx (a + 2) i x) (e2 : M2 = zup M1 (a + 2) (4 + k) n) (f : zFi M a) (hI : zI G M) (h0 : zModel T F G a) (hk : 0 ≤ k ∧ k ≤ 3) (hi : i = k) : zFl M2 a k 0 0 := ⟨fun q q0 q3 z => by
  have hq := zI.at hI ((zM9 h0 (4 + q)).trans (zfG_4 (by omega)))
  have c : ∀ j, 4 ≤ j → j ≠ 4 + k → M2 (a + 2) j = M (a + 2) j := fun j j1 j2 => by
    rw [zup_n e2 (by omega), zup_n e1 (by omega), e0]
  rw [c (4 + q) (by omega) (by omega), zSum_cg (g := M2 (a + 2)) (h := M (a + 2))]
  · exact f q q0 q3
  · intro i hi
    exact c _ (by omega) (by omega), rfl⟩
theorem zFl.ot {T : zTl} {F : zRm'} {G : zGt} {M M2 : zMm} {a : Nat} {k l s j x : Int} (h : zFl M a k l s) (e : M2 = zup M (a + 2) (8 + 40 * k + j) x) (hI : zI G M) (h0 : zModel T F G a) (hk : 0 ≤ k ∧ k ≤ 3) (hj : 0 ≤ j ∧ j ≤ 39) (q : Int) (q0 : 0 ≤ q) (q3 : q ≤ 3) (z : q ≠ k) : zSum (M2 (a + 2)) (8 + 40 * q) (M2 (a + 2) (4 + q)).toNat ≤ 400 := by
  have hq := zI.at hI ((zM9 h0 (4 + q)).trans (zfG_4 (by omega)))
  rw [zup_n e (by omega), zSum_cg (g := M2 (a + 2)) (h := M (a + 2))]
  · exact h.1 q q0 q3 z
  · intro i hi
    exact zup_n e (by omega)
theorem zFl.clr {T : zTl} {F : zRm'} {G : zGt} {M M2 : zMm} {a : Nat} {k l : Int} (h : zFl M a k l 0) (e : M2 = zup M (a + 2) (8 + 40 * k + l) 0) (hI : zI G M) (h0 : zModel T F G a) (hk : 0 ≤ k ∧ k ≤ 3) (hj : 0 ≤ l ∧ l ≤ 39) : zFl M2 a k (l + 1) 0 := ⟨h.ot e hI h0 hk hj, by
  rw [zSum_s hj.1, zup_s e, zSum_cg (g := M2 (a + 2)) (h := M (a + 2)) l.toNat (fun i hi => zup_n e (by omega)), h.2]
  omega⟩
theorem zFl.inc {T : zTl} {F : zRm'} {G : zGt} {M M2 : zMm} {a : Nat} {k j s x : Int} (h : zFl M a k 40 s) (e : M2 = zup M (a + 2) (8 + 40 * k + j) x) (hx : x = M (a + 2) (8 + 40 * k + j) + 1) (hI : zI G M) (h0 : zModel T F G a) (hk : 0 ≤ k ∧ k ≤ 3) (hj : 0 ≤ j ∧ j ≤ 39) : zFl M2 a k 40 (s + 1) := ⟨h.ot e hI h0 hk hj, by
  have hu := zSum_up (g := M (a + 2)) (h := M2 (a + 2)) (b := 8 + 40 * k) (l := j.toNat) (m := 40) (fun i i0 i1 => zup_n e (by omega)) 40 (Nat.le_refl _) (by omega)
  rw [show ((j.toNat : Nat) : Int) = j by omega, zup_s e, hx] at hu
  have h2 : zSum (M (a + 2)) (8 + 40 * k) 40 = s := h.2
  show zSum (M2 (a + 2)) (8 + 40 * k) 40 = s + 1
  omega⟩
theorem zFl.le {T : zTl} {F : zRm'} {G : zGt} {M : zMm} {a : Nat} {k j s : Int} (h : zFl M a k 40 s) (hI : zI G M) (h0 : zModel T F G a) (hk : 0 ≤ k ∧ k ≤ 3) (hj : 0 ≤ j ∧ j ≤ 39) : 0 ≤ M (a + 2) (8 + 40 * k + j) ∧ M (a + 2) (8 + 40 * k + j) ≤ s := by
  have hp : ∀ j : Nat, j < 40 → 0 ≤ M (a + 2) (8 + 40 * k + j) := fun j hj => (zI.at hI ((zM9 h0 (8 + 40 * k + j)).trans (zfG_8 (by omega)))).1
  have z0 := zSum_mo (g := M (a + 2)) (b := 8 + 40 * k) 0 j.toNat (fun j hj => hp j (by omega))
  rw [Nat.zero_add] at z0
  have z2 := zSum_mo (g := M (a + 2)) (b := 8 + 40 * k) (j + 1).toNat (40 - (j + 1).toNat) (fun j hj => hp j (by omega))
  rw [show (j + 1).toNat + (40 - (j + 1).toNat) = 40 by omega, zSum_s hj.1] at z2
  have h2 : zSum (M (a + 2)) (8 + 40 * k) 40 = s := h.2
  have h3 := hp j.toNat (by omega)
  rw [show ((j.toNat : Nat) : Int) = j by omega] at h3
  have z3 : 0 ≤ zSum (M (a + 2)) (8 + 40 * k) j.toNat := z0
  omega
theorem zFl.fi {T : zTl} {F : zRm'} {G : zGt} {M : zMm} {a : Nat} {k s : Int} (h : zFl M a k 40 s) (hs : s ≤ 400) (hI : zI G M) (h0 : zModel T F G a) (hk : 0 ≤ k ∧ k ≤ 3) : zFi M a := fun q q0 q3 => by
  by_cases z : q = k
  · subst z
    have hn := zI.at hI ((zM9 h0 (4 + q)).trans (zfG_4 (by omega)))
    have hp : ∀ j : Nat, j < 40 → 0 ≤ M (a + 2) (8 + 40 * q + j) := fun j hj => (zI.at hI ((zM9 h0 (8 + 40 * q + j)).trans (zfG_8 (by omega)))).1
    have z2 := zSum_mo (g := M (a + 2)) (b := 8 + 40 * q) (M (a + 2) (4 + q)).toNat (40 - (M (a + 2) (4 + q)).toNat) (fun j hj => hp j (by omega))
    rw [show (M (a + 2) (4 + q)).toNat + (40 - (M (a + 2) (4 + q)).toNat) = 40 by omega] at z2
    have h2 : zSum (M (a + 2)) (8 + 40 * q) 40 = s := h.2
    omega
  · exact h.1 q q0 q3 z
theorem c_X12_file {w : zWp} {T : zTl} {M : zMm} {J : zJm} {R : zRm'} {G : zGt} {F : zRm'} {a : Nat} (hI : zI G M) (hF : zF F R) (h0 : zModel T F G a) (v1 : Int) (p1 : zFi M a) (p2 : -2147483648 ≤ v1 ∧ v1 ≤ 2147483647) : zCt w 3 0 0 yX12_file cX12_file 7 (some .int) [.ref (w.2.1 + a), zi v1] (T, M, J, R) (zPi T R G (fun x M2 => (zMd a [2, 4] [0, 2, 3, 9] [] M M2) ∧ (zFi M2 a) ∧ (M2 a 2 = 0))) := by
  refine zCt.of rfl (Nat.le_of_ble_eq_true rfl) ?_
  intro p e s m args below meth c C
  obtain ⟨Po, hPo⟩ : ∃ Po, Po = zPi T R G (fun x M2 => (zMd a [2, 4] [0, 2, 3, 9] [] M M2) ∧ (zFi M2 a) ∧ (M2 a 2 = 0)) := ⟨_, rfl⟩
  rw [← hPo]
  have hK0 : zMd a [2, 4] [0, 2, 3, 9] [] M M := zMd.rf
  have gk_length := zI.at hI (zM5 h0)
  have gk_size := zI.at hI (zM6 h0)
  show zK w p e 3 0 0 s m args below meth c 7 T Po 0 [.ref (w.2.1 + a), zi v1, .null, .null, .null, .null, .null] [] (T, M, J, R)
  refine q_aload_n C dX12_file_0 (n := 1) rfl rfl ?_
  refine q_callVv C dX12_file_1 (n := 4) rfl m_X12_293 v_yX12_taken (zM0 h0) ⟨by decide, rfl⟩ (c_X12_taken (w := w) (J := J) hI hF h0) (Nat.le_of_ble_eq_true rfl) rfl rfl (Nat.le_of_ble_eq_true rfl) ⟨Nat.le_refl _, Nat.le_refl _⟩ (fun M3 J4  hI5 h6 => ?_)
  obtain ⟨hk7, h1, h2⟩ := h6
  have hK8 := hK0.tr hk7 rfl rfl rfl
  refine q_iload_n C dX12_file_4 (n := 5) rfl rfl ?_
  refine q_iconst C dX12_file_5 (n := 6) rfl ?_
  refine q_iconst C dX12_file_6 (n := 7) rfl ?_
  refine q_callSp C dX12_file_7 (n := 10) rfl m_X12_277 s_yX12_isIn (c_X12_isIn (w := w) (J := J4) hI5 hF v1 0 3 (by omega) (by omega) (by omega)) (Nat.le_of_ble_eq_true rfl) rfl rfl (Nat.le_of_ble_eq_true rfl) ⟨Nat.le_refl _, Nat.le_refl _⟩ (fun x12 h13 => ?_)
  obtain ⟨h9, h10, h11⟩ := h13
  refine q_if_ne C 16 dX12_file_10 (n := 13) rfl rfl (by omega) (fun h14 => ?_) (fun h14 => ?_)
  · refine q_aload_n C dX12_file_16 (n := 17) rfl rfl ?_
    have g15 := zI.at hI5 (zM6 h0)
    refine q_getI C dX12_file_17 (n := 20) rfl f_X12_274 (zM0 h0) (v := M3 a 3) rfl ?_
    refine q_sipush C dX12_file_20 (n := 23) rfl (x := 400) (by decide) ?_
    refine q_icmp_le C 29 dX12_file_23 (n := 26) rfl rfl (by omega) (fun h16 => ?_) (fun h16 => ?_)
    · refine q_aload_n C dX12_file_29 (n := 30) rfl rfl ?_
      refine q_iconst C dX12_file_30 (n := 31) rfl ?_
      refine q_callVp C dX12_file_31 (n := 34) rfl m_X12_296 v_yX12_badByte (zM0 h0) ⟨by decide, rfl⟩ (c_X12_badByte (w := w) (J := J4) hI5 hF h0 1 (by omega)) (Nat.le_of_ble_eq_true rfl) rfl rfl (Nat.le_of_ble_eq_true rfl) ⟨Nat.le_refl _, Nat.le_refl _⟩ (fun x18 h19 => ?_)
      refine q_istore_n C [.ref (w.2.1 + a), zi v1, zi x18, .null, .null, .null, .null] dX12_file_34 (n := 35) rfl rfl rfl ?_
      refine q_iload_n C dX12_file_35 (n := 36) rfl rfl ?_
      refine q_if_lt C 45 dX12_file_36 (n := 39) rfl rfl (by omega) (fun h20 => ?_) (fun h20 => ?_)
      · have gz0 := zTen_0 (g := M (a + 1))
        refine q_iconst C dX12_file_45 (n := 46) rfl ?_
        refine q_istore_n C [.ref (w.2.1 + a), zi v1, zi x18, zi 0, .null, .null, .null] dX12_file_46 (n := 47) rfl rfl rfl ?_
        refine q_iconst C dX12_file_47 (n := 48) rfl ?_
        refine q_istore C [.ref (w.2.1 + a), zi v1, zi x18, zi 0, zi 0, .null, .null] dX12_file_48 (n := 50) rfl rfl rfl ?_
        have L_28 : ∀ n29 : Nat, ∀ (u21 : Int) (u22 : Int), (-2147483648 ≤ u21 ∧ u21 ≤ 2147483647) → (-2147483648 ≤ u22 ∧ u22 ≤ 2147483647) → (0 ≤ u22 ∧ u22 ≤ M a 2) → (u22 < M a 2 ∧ u21 = zTen (M (a + 1)) (u22 : Int).toNat ∨ u22 = M a 2 ∧ (u22 = 0 ∧ u21 = 0 ∨ 1 ≤ u22 ∧ u21 = zTen (M (a + 1)) (M a 2 - 1).toNat + 1)) → (0 ≤ u21 ∧ u21 ≤ u22) → (441 - u22 ≤ (n29 : Int)) → zK w p e 3 0 0 s m args below meth c 7 T Po 50 [.ref (w.2.1 + a), zi v1, .null, zi u21, zi u22, .null, .null] [] (T, M3, J4, R) := by
          intro n29
          induction n29 with
          | zero =>
            intro u21 u22 h23 h24 h25 h26 h27 hm31
            exfalso
            omega
          | succ n29 ih30 =>
            intro u21 u22 h23 h24 h25 h26 h27 hm31
            refine q_iload C dX12_file_50 (n := 52) rfl rfl ?_
            refine q_aload_n C dX12_file_52 (n := 53) rfl rfl ?_
            refine q_getI C dX12_file_53 (n := 56) rfl f_X12_274 (zM0 h0) (v := M3 a 3) rfl ?_
            refine q_icmp_ge C 96 dX12_file_56 (n := 59) rfl rfl (by omega) (fun h32 => ?_) (fun h32 => ?_)
            · refine q_iload_n C dX12_file_96 (n := 97) rfl rfl ?_
              refine q_bipush C dX12_file_97 (n := 99) rfl (x := 40) (by decide) ?_
              refine q_icmp_le C 105 dX12_file_99 (n := 102) rfl rfl (by omega) (fun h33 => ?_) (fun h33 => ?_)
              · refine q_aload_n C dX12_file_105 (n := 106) rfl rfl ?_
                refine q_iconst C dX12_file_106 (n := 107) rfl ?_
                refine q_putZ C dX12_file_107 (n := 110) rfl f_X12_300 (zM0 h0) ⟨rfl, rfl⟩ (by omega) (fun M34 (e35 : M34 = zup M3 a 9 0) => ?_)
                have hI36 : zI G M34 := hI5.put e35 (zM22 h0) rfl (by omega)
                have hK37 := hK8.upS e35 rfl
                refine q_aload_n C dX12_file_110 (n := 111) rfl rfl ?_
                refine q_getR C dX12_file_111 (n := 114) rfl f_X12_17 (zM0 h0) (hF _ _ _ (zM7 h0)) ?_
                refine q_iconst C dX12_file_114 (n := 115) rfl ?_
                refine q_iload_n C dX12_file_115 (n := 116) rfl rfl ?_
                refine q_iadd C dX12_file_116 (n := 117) rfl (v := 0 + v1) rfl ?_
                refine q_iconst C dX12_file_117 (n := 118) rfl ?_
                refine q_iast C dX12_file_118 (n := 119) rfl (zM8 h0) (by omega)  (fun M38 e39 => ?_)
                have hp40 : zFi M34 a := p1.cg (fun j => ((zup_p e35 (by omega) _).trans (hk7.getA rfl rfl rfl)))
                have hI41 : zI G M38 := hI36.put e39 (((zM9 h0) (0 + v1)).trans (zfG_0 (by omega))) rfl (by omega)
                have hK42 := hK37.upA e39 rfl
                refine q_aload_n C dX12_file_119 (n := 120) rfl rfl ?_
                refine q_getR C dX12_file_120 (n := 123) rfl f_X12_17 (zM0 h0) (hF _ _ _ (zM7 h0)) ?_
                refine q_iconst C dX12_file_123 (n := 124) rfl ?_
                refine q_iload_n C dX12_file_124 (n := 125) rfl rfl ?_
                refine q_iadd C dX12_file_125 (n := 126) rfl (v := 4 + v1) rfl ?_
                refine q_iload_n C dX12_file_126 (n := 127) rfl rfl ?_
                refine q_iast C dX12_file_127 (n := 128) rfl (zM8 h0) (by omega)  (fun M43 e44 => ?_)
                have hI45 : zI G M43 := hI41.put e44 (((zM9 h0) (4 + v1)).trans (zfG_4 (by omega))) rfl (by omega)
                have hK46 := hK42.upA e44 rfl
                refine q_iconst C dX12_file_128 (n := 129) rfl ?_
                refine q_istore C [.ref (w.2.1 + a), zi v1, .null, zi u21, zi 0, .null, .null] dX12_file_129 (n := 131) rfl rfl rfl ?_
                have L_57 : ∀ n58 : Nat, ∀ (u47 : Int) (M49 : zMm) (J50 : zJm), zI G M49 → zMd a [2, 4] [0, 2, 3, 9] [] M M49 → zMd a [2] [] [] M43 M49 → (-2147483648 ≤ u47 ∧ u47 ≤ 2147483647) → (0 ≤ u47 ∧ u47 ≤ 40) → (zFl M49 a v1 u47 0) → (41 - u47 ≤ (n58 : Int)) → zK w p e 3 0 0 s m args below meth c 7 T Po 131 [.ref (w.2.1 + a), zi v1, .null, zi u21, zi u47, .null, .null] [] (T, M49, J50, R) := by
                  intro n58
                  induction n58 with
                  | zero =>
                    intro u47 M49 J50 hI51 hK52 hK53 h54 h55 h56 hm60
                    exfalso
                    omega
                  | succ n58 ih59 =>
                    intro u47 M49 J50 hI51 hK52 hK53 h54 h55 h56 hm60
                    refine q_iload C dX12_file_131 (n := 133) rfl rfl ?_
                    refine q_bipush C dX12_file_133 (n := 135) rfl (x := 40) (by decide) ?_
                    refine q_icmp_ge C 160 dX12_file_135 (n := 138) rfl rfl (by omega) (fun h61 => ?_) (fun h61 => ?_)
                    · refine q_sipush C dX12_file_160 (n := 163) rfl (x := 400) (by decide) ?_
                      refine q_iload_n C dX12_file_163 (n := 164) rfl rfl ?_
                      refine q_imul C dX12_file_164 (n := 165) rfl (v := 400 * v1) rfl ?_
                      refine q_istore C [.ref (w.2.1 + a), zi v1, .null, zi u21, zi (400 * v1), .null, .null] dX12_file_165 (n := 167) rfl rfl rfl ?_
                      refine q_iconst C dX12_file_167 (n := 168) rfl ?_
                      refine q_istore C [.ref (w.2.1 + a), zi v1, .null, zi u21, zi (400 * v1), zi 0, .null] dX12_file_168 (n := 170) rfl rfl rfl ?_
                      refine q_iconst C dX12_file_170 (n := 171) rfl ?_
                      refine q_istore C [.ref (w.2.1 + a), zi v1, .null, zi u21, zi (400 * v1), zi 0, zi 0] dX12_file_171 (n := 173) rfl rfl rfl ?_
                      have L_79 : ∀ n80 : Nat, ∀ (u62 : Int) (u63 : Int) (u64 : Int) (M66 : zMm) (J67 : zJm), zI G M66 → zMd a [2, 4] [0, 2, 3, 9] [] M M66 → zMd a [2, 4] [] [] M49 M66 → (-2147483648 ≤ u62 ∧ u62 ≤ 2147483647) → (-2147483648 ≤ u63 ∧ u63 ≤ 2147483647) → (-2147483648 ≤ u64 ∧ u64 ≤ 2147483647) → (0 ≤ u64 ∧ u64 ≤ M a 2) → (u63 = zTen (M (a + 1)) (u64 : Int).toNat) → (0 ≤ u63 ∧ u63 ≤ u64) → (400 * v1 ≤ u62 ∧ u62 ≤ 400 * v1 + u64) → (zFl M66 a v1 40 (u62 - 400 * v1)) → (441 - u64 ≤ (n80 : Int)) → zK w p e 3 0 0 s m args below meth c 7 T Po 173 [.ref (w.2.1 + a), zi v1, .null, zi u21, zi u62, zi u63, zi u64] [] (T, M66, J67, R) := by
                        intro n80
                        induction n80 with
                        | zero =>
                          intro u62 u63 u64 M66 J67 hI68 hK69 hK70 h71 h72 h73 h74 h75 h76 h77 h78 hm82
                          exfalso
                          omega
                        | succ n80 ih81 =>
                          intro u62 u63 u64 M66 J67 hI68 hK69 hK70 h71 h72 h73 h74 h75 h76 h77 h78 hm82
                          refine q_iload C dX12_file_173 (n := 175) rfl rfl ?_
                          refine q_aload_n C dX12_file_175 (n := 176) rfl rfl ?_
                          refine q_getI C dX12_file_176 (n := 179) rfl f_X12_274 (zM0 h0) (v := M3 a 3) ((hK70.getS rfl rfl).trans ((hK53.getS rfl rfl).trans ((zup_p e44 (by omega) _).trans ((zup_p e39 (by omega) _).trans (zup_n e35 (by omega)))))) ?_
                          refine q_icmp_ge C 242 dX12_file_179 (n := 182) rfl rfl (by omega) (fun h83 => ?_) (fun h83 => ?_)
                          · have hp84 : zFi M66 a := zFl.fi h78 (by omega) hI68 h0 (by omega)
                            refine q_iload_n C dX12_file_242 (n := 243) rfl rfl ?_
                            exact q_iret C dX12_file_243 ⟨rfl, rfl⟩ (by rw [hPo]; exact ⟨u21, M66, J67, rfl, rfl, hI68, hK69, hp84, by have hz85 : M66 a 2 = M3 a 2 := ((hK70.getS rfl rfl).trans ((hK53.getS rfl rfl).trans ((zup_p e44 (by omega) _).trans ((zup_p e39 (by omega) _).trans (zup_n e35 (by omega)))))); omega⟩)
                          · have gs2 := zTen_s (g := M (a + 1)) (i := u64) (by omega)
                            have gm2 := zTen_le (g := M (a + 1)) (i := u64) (j := M a 2 - 1) (by omega)
                            refine q_aload_n C dX12_file_182 (n := 183) rfl rfl ?_
                            refine q_getR C dX12_file_183 (n := 186) rfl f_X12_13 (zM0 h0) (hF _ _ _ (zM2 h0)) ?_
                            refine q_iload C dX12_file_186 (n := 188) rfl rfl ?_
                            have g86 := zI.at hI ((zM4 h0) u64)
                            refine q_bald C dX12_file_188 (n := 189) rfl (zM3 h0) (by omega) (v := M (a + 1) u64) ((hK70.getA rfl rfl rfl).trans ((hK53.getA rfl rfl rfl).trans ((zup_p e44 (by omega) _).trans ((zup_p e39 (by omega) _).trans ((zup_p e35 (by omega) _).trans (hk7.getA rfl rfl rfl)))))) ?_
                            have gt87 : M66 (a + 1) u64 = M (a + 1) u64 := ((hK70.getA rfl rfl rfl).trans ((hK53.getA rfl rfl rfl).trans ((zup_p e44 (by omega) _).trans ((zup_p e39 (by omega) _).trans ((zup_p e35 (by omega) _).trans (hk7.getA rfl rfl rfl))))))
                            refine q_bipush C dX12_file_189 (n := 191) rfl (x := 10) (by decide) ?_
                            refine q_icmp_ne C 200 dX12_file_191 (n := 194) rfl rfl (by omega) (fun h88 => ?_) (fun h88 => ?_)
                            · refine q_aload_n C dX12_file_200 (n := 201) rfl rfl ?_
                              refine q_getR C dX12_file_201 (n := 204) rfl f_X12_24 (zM0 h0) (hF _ _ _ (zM13 h0)) ?_
                              refine q_iload C dX12_file_204 (n := 206) rfl rfl ?_
                              refine q_aload_n C dX12_file_206 (n := 207) rfl rfl ?_
                              refine q_getR C dX12_file_207 (n := 210) rfl f_X12_13 (zM0 h0) (hF _ _ _ (zM2 h0)) ?_
                              refine q_iload C dX12_file_210 (n := 212) rfl rfl ?_
                              refine q_bald C dX12_file_212 (n := 213) rfl (zM3 h0) (by omega) (v := M (a + 1) u64) ((hK70.getA rfl rfl rfl).trans ((hK53.getA rfl rfl rfl).trans ((zup_p e44 (by omega) _).trans ((zup_p e39 (by omega) _).trans ((zup_p e35 (by omega) _).trans (hk7.getA rfl rfl rfl)))))) ?_
                              refine q_bast C dX12_file_213 (n := 214) rfl (zM14 h0) (by omega) (by omega) (fun M89 e90 => ?_)
                              have hI91 : zI G M89 := hI68.put e90 ((zM15 h0) u62) rfl (by omega)
                              have hK92 := hK69.upA e90 rfl
                              have hK93 := hK70.upA e90 rfl
                              refine q_iinc C [.ref (w.2.1 + a), zi v1, .null, zi u21, zi (u62 + 1), zi u63, zi u64] dX12_file_214 (n := 217) rfl rfl rfl rfl ?_
                              have gfe : M89 (a + 2) (8 + 40 * v1 + u63) = M66 (a + 2) (8 + 40 * v1 + u63) := (zup_p e90 (by omega) _)
                              have hp94 : zFl M89 a v1 40 (u62 - 400 * v1) := h78.cg (fun j => (zup_p e90 (by omega) _))
                              have gfl := zFl.le (j := u63) hp94 hI91 h0 (by omega) (by omega)
                              refine q_aload_n C dX12_file_217 (n := 218) rfl rfl ?_
                              refine q_getR C dX12_file_218 (n := 221) rfl f_X12_17 (zM0 h0) (hF _ _ _ (zM7 h0)) ?_
                              refine q_bipush C dX12_file_221 (n := 223) rfl (x := 8) (by decide) ?_
                              refine q_bipush C dX12_file_223 (n := 225) rfl (x := 40) (by decide) ?_
                              refine q_iload_n C dX12_file_225 (n := 226) rfl rfl ?_
                              refine q_imul C dX12_file_226 (n := 227) rfl (v := 40 * v1) rfl ?_
                              refine q_iadd C dX12_file_227 (n := 228) rfl (v := 8 + (40 * v1)) rfl ?_
                              refine q_iload C dX12_file_228 (n := 230) rfl rfl ?_
                              refine q_iadd C dX12_file_230 (n := 231) rfl (v := (8 + (40 * v1)) + u63) rfl ?_
                              refine q_dup2 C dX12_file_231 (n := 232) rfl ⟨rfl, rfl⟩ ?_
                              have g95 := zI.at hI68 (((zM9 h0) ((8 + (40 * v1)) + u63)).trans (zfG_8 (by omega)))
                              refine q_iald C dX12_file_232 (n := 233) rfl (zM8 h0) (by omega) (v := M66 (a + 2) ((8 + (40 * v1)) + u63)) (zup_p e90 (by omega) _) ?_
                              refine q_iconst C dX12_file_233 (n := 234) rfl ?_
                              refine q_iadd C dX12_file_234 (n := 235) rfl (v := (M66 (a + 2) ((8 + (40 * v1)) + u63)) + 1) rfl ?_
                              refine q_iast C dX12_file_235 (n := 236) rfl (zM8 h0) (by omega)  (fun M96 e97 => ?_)
                              have hI98 : zI G M96 := hI91.put e97 (((zM9 h0) ((8 + (40 * v1)) + u63)).trans (zfG_8 (by omega))) rfl (by omega)
                              have hK99 := hK92.upA e97 rfl
                              have hK100 := hK93.upA e97 rfl
                              refine q_iinc C [.ref (w.2.1 + a), zi v1, .null, zi u21, zi (u62 + 1), zi u63, zi (u64 + 1)] dX12_file_236 (n := 239) rfl rfl rfl rfl ?_
                              refine q_goto C 173 dX12_file_239 rfl ?_
                              exact zK.weak (ih81 (u62 + 1) u63 (u64 + 1) M96 J67 hI98 hK99 hK100 (by omega) (by omega) (by omega) (by omega) (by omega) (by omega) (by omega) (zFl.c (zFl.inc hp94 e97 (by omega) hI91 h0 (by omega) (by omega)) (by omega) (by omega)) (by omega)) (zwk_c (zwk_c (zwk_n (zwk_c (zwk_c (zwk_c (zwk_c zwk_e)))))))
                            · refine q_iinc C [.ref (w.2.1 + a), zi v1, .null, zi u21, zi u62, zi (u63 + 1), zi u64] dX12_file_194 (n := 197) rfl rfl rfl rfl ?_
                              refine q_goto C 236 dX12_file_197 rfl ?_
                              refine q_iinc C [.ref (w.2.1 + a), zi v1, .null, zi u21, zi u62, zi (u63 + 1), zi (u64 + 1)] dX12_file_236 (n := 239) rfl rfl rfl rfl ?_
                              refine q_goto C 173 dX12_file_239 rfl ?_
                              exact zK.weak (ih81 u62 (u63 + 1) (u64 + 1) M66 J67 hI68 hK69 hK70 (by omega) (by omega) (by omega) (by omega) (by omega) (by omega) (by omega) (zFl.c h78 (by omega) (by omega)) (by omega)) (zwk_c (zwk_c (zwk_n (zwk_c (zwk_c (zwk_c (zwk_c zwk_e)))))))
                      exact zK.weak (L_79 _ (400 * v1) 0 0 M49 J50 hI51 hK52 (zMd.rf : zMd a [2, 4] [] [] M49 M49) (by omega) (by omega) (by omega) (by omega) (by omega) (by omega) (by omega) (zFl.c h56 (by omega) (by omega)) (Int.self_le_toNat _)) (zwk_c (zwk_c (zwk_n (zwk_c (zwk_c (zwk_c (zwk_c zwk_e)))))))
                    · refine q_aload_n C dX12_file_138 (n := 139) rfl rfl ?_
                      refine q_getR C dX12_file_139 (n := 142) rfl f_X12_17 (zM0 h0) (hF _ _ _ (zM7 h0)) ?_
                      refine q_bipush C dX12_file_142 (n := 144) rfl (x := 8) (by decide) ?_
                      refine q_bipush C dX12_file_144 (n := 146) rfl (x := 40) (by decide) ?_
                      refine q_iload_n C dX12_file_146 (n := 147) rfl rfl ?_
                      refine q_imul C dX12_file_147 (n := 148) rfl (v := 40 * v1) rfl ?_
                      refine q_iadd C dX12_file_148 (n := 149) rfl (v := 8 + (40 * v1)) rfl ?_
                      refine q_iload C dX12_file_149 (n := 151) rfl rfl ?_
                      refine q_iadd C dX12_file_151 (n := 152) rfl (v := (8 + (40 * v1)) + u47) rfl ?_
                      refine q_iconst C dX12_file_152 (n := 153) rfl ?_
                      refine q_iast C dX12_file_153 (n := 154) rfl (zM8 h0) (by omega)  (fun M101 e102 => ?_)
                      have hI103 : zI G M101 := hI51.put e102 (((zM9 h0) ((8 + (40 * v1)) + u47)).trans (zfG_8 (by omega))) rfl (by omega)
                      have hK104 := hK52.upA e102 rfl
                      have hK105 := hK53.upA e102 rfl
                      refine q_iinc C [.ref (w.2.1 + a), zi v1, .null, zi u21, zi (u47 + 1), .null, .null] dX12_file_154 (n := 157) rfl rfl rfl rfl ?_
                      refine q_goto C 131 dX12_file_157 rfl ?_
                      exact zK.weak (ih59 (u47 + 1) M101 J50 hI103 hK104 hK105 (by omega) (by omega) (zFl.c (zFl.clr h56 e102 hI51 h0 (by omega) (by omega)) (by omega) (by omega)) (by omega)) (zwk_c (zwk_c (zwk_n (zwk_c (zwk_c (zwk_n (zwk_n zwk_e)))))))
                exact zK.weak (L_57 _ 0 M43 J4 hI45 hK46 (zMd.rf : zMd a [2] [] [] M43 M43) (by omega) (by omega) (zFl.c (zFl_init (M := M) (k := v1) (fun j => ((zup_p e35 (by omega) _).trans (hk7.getA rfl rfl rfl))) e39 e44 p1 hI h0 (by omega) (by omega)) (by omega) (by omega)) (Int.self_le_toNat _)) (zwk_c (zwk_c (zwk_n (zwk_c (zwk_c (zwk_n (zwk_n zwk_e)))))))
              · refine q_bipush C dX12_file_102 (n := 104) rfl (x := (-3)) (by decide) ?_
                have hp106 : zFi M3 a := p1.cg (fun j => (hk7.getA rfl rfl rfl))
                exact q_iret C dX12_file_104 ⟨rfl, rfl⟩ (by rw [hPo]; exact ⟨(-3), M3, J4, rfl, rfl, hI5, hK8, hp106, by omega⟩)
            · have gs := zTen_s (g := M (a + 1)) (i := u22) (by omega)
              have gq : ¬ (u22 : Int) = M a 2 - 1 ∨ zTen (M (a + 1)) (u22 : Int).toNat = zTen (M (a + 1)) (M a 2 - 1).toNat := (Decidable.em ((u22 : Int) = M a 2 - 1)).symm.imp id (fun h => by rw [h])
              refine q_iload_n C dX12_file_59 (n := 60) rfl rfl ?_
              refine q_aload_n C dX12_file_60 (n := 61) rfl rfl ?_
              refine q_getR C dX12_file_61 (n := 64) rfl f_X12_13 (zM0 h0) (hF _ _ _ (zM2 h0)) ?_
              refine q_iload C dX12_file_64 (n := 66) rfl rfl ?_
              have g107 := zI.at hI ((zM4 h0) u22)
              refine q_bald C dX12_file_66 (n := 67) rfl (zM3 h0) (by omega) (v := M (a + 1) u22) (hk7.getA rfl rfl rfl) ?_
              have gt108 : M3 (a + 1) u22 = M (a + 1) u22 := (hk7.getA rfl rfl rfl)
              refine q_bipush C dX12_file_67 (n := 69) rfl (x := 10) (by decide) ?_
              refine q_icmp_eq C 83 dX12_file_69 (n := 72) rfl rfl (by omega) (fun h109 => ?_) (fun h109 => ?_)
              · refine q_iconst C dX12_file_83 (n := 84) rfl ?_
                refine q_goto C 88 dX12_file_84 rfl ?_
                refine q_iadd C dX12_file_88 (n := 89) rfl (v := u21 + 1) rfl ?_
                refine q_istore_n C [.ref (w.2.1 + a), zi v1, .null, zi (u21 + 1), zi u22, .null, .null] dX12_file_89 (n := 90) rfl rfl rfl ?_
                refine q_iinc C [.ref (w.2.1 + a), zi v1, .null, zi (u21 + 1), zi (u22 + 1), .null, .null] dX12_file_90 (n := 93) rfl rfl rfl rfl ?_
                refine q_goto C 50 dX12_file_93 rfl ?_
                exact zK.weak (ih30 (u21 + 1) (u22 + 1) (by omega) (by omega) (by omega) (by omega) (by omega) (by omega)) (zwk_c (zwk_c (zwk_n (zwk_c (zwk_c (zwk_n (zwk_n zwk_e)))))))
              · refine q_iload C dX12_file_72 (n := 74) rfl rfl ?_
                refine q_aload_n C dX12_file_74 (n := 75) rfl rfl ?_
                refine q_getI C dX12_file_75 (n := 78) rfl f_X12_274 (zM0 h0) (v := M3 a 3) rfl ?_
                refine q_iconst C dX12_file_78 (n := 79) rfl ?_
                refine q_isub C dX12_file_79 (n := 80) rfl (v := (M3 a 3) - 1) rfl ?_
                refine q_icmp_ne C 87 dX12_file_80 (n := 83) rfl rfl (by omega) (fun h110 => ?_) (fun h110 => ?_)
                · refine q_iconst C dX12_file_87 (n := 88) rfl ?_
                  refine q_iadd C dX12_file_88 (n := 89) rfl (v := u21 + 0) rfl ?_
                  refine q_istore_n C [.ref (w.2.1 + a), zi v1, .null, zi (u21 + 0), zi u22, .null, .null] dX12_file_89 (n := 90) rfl rfl rfl ?_
                  refine q_iinc C [.ref (w.2.1 + a), zi v1, .null, zi (u21 + 0), zi (u22 + 1), .null, .null] dX12_file_90 (n := 93) rfl rfl rfl rfl ?_
                  refine q_goto C 50 dX12_file_93 rfl ?_
                  exact zK.weak (ih30 (u21 + 0) (u22 + 1) (by omega) (by omega) (by omega) (by omega) (by omega) (by omega)) (zwk_c (zwk_c (zwk_n (zwk_c (zwk_c (zwk_n (zwk_n zwk_e)))))))
                · refine q_iconst C dX12_file_83 (n := 84) rfl ?_
                  refine q_goto C 88 dX12_file_84 rfl ?_
                  refine q_iadd C dX12_file_88 (n := 89) rfl (v := u21 + 1) rfl ?_
                  refine q_istore_n C [.ref (w.2.1 + a), zi v1, .null, zi (u21 + 1), zi u22, .null, .null] dX12_file_89 (n := 90) rfl rfl rfl ?_
                  refine q_iinc C [.ref (w.2.1 + a), zi v1, .null, zi (u21 + 1), zi (u22 + 1), .null, .null] dX12_file_90 (n := 93) rfl rfl rfl rfl ?_
                  refine q_goto C 50 dX12_file_93 rfl ?_
                  exact zK.weak (ih30 (u21 + 1) (u22 + 1) (by omega) (by omega) (by omega) (by omega) (by omega) (by omega)) (zwk_c (zwk_c (zwk_n (zwk_c (zwk_c (zwk_n (zwk_n zwk_e)))))))
        exact zK.weak (L_28 _ 0 0 (by omega) (by omega) (by omega) (by omega) (by omega) (Int.self_le_toNat _)) (zwk_c (zwk_c (zwk_n (zwk_c (zwk_c (zwk_n (zwk_n zwk_e)))))))
      · refine q_sipush C dX12_file_39 (n := 42) rfl (x := (-1000)) (by decide) ?_
        refine q_iload_n C dX12_file_42 (n := 43) rfl rfl ?_
        refine q_isub C dX12_file_43 (n := 44) rfl (v := (-1000) - x18) rfl ?_
        have hp111 : zFi M3 a := p1.cg (fun j => (hk7.getA rfl rfl rfl))
        exact q_iret C dX12_file_44 ⟨rfl, rfl⟩ (by rw [hPo]; exact ⟨(-1000) - x18, M3, J4, rfl, rfl, hI5, hK8, hp111, by omega⟩)
    · refine q_bipush C dX12_file_26 (n := 28) rfl (x := (-3)) (by decide) ?_
      have hp112 : zFi M3 a := p1.cg (fun j => (hk7.getA rfl rfl rfl))
      exact q_iret C dX12_file_28 ⟨rfl, rfl⟩ (by rw [hPo]; exact ⟨(-3), M3, J4, rfl, rfl, hI5, hK8, hp112, by omega⟩)
  · refine q_bipush C dX12_file_13 (n := 15) rfl (x := (-2)) (by decide) ?_
    have hp113 : zFi M3 a := p1.cg (fun j => (hk7.getA rfl rfl rfl))
    exact q_iret C dX12_file_15 ⟨rfl, rfl⟩ (by rw [hPo]; exact ⟨(-2), M3, J4, rfl, rfl, hI5, hK8, hp113, by omega⟩)
