def zDr (M M0 : zMm) (a : Nat) (k l i : Int) : Prop := ∀ j, M (a + 2) j = if 8 + 40 * k + l ≤ j ∧ j < 8 + 40 * k + i then M0 (a + 2) (j + 1) else M0 (a + 2) j
theorem zDr.zero {M M0 : zMm} {a : Nat} {k l : Int} (e : ∀ j, M (a + 2) j = M0 (a + 2) j) : zDr M M0 a k l l := fun j => by
  rw [if_neg (by omega)]
  exact e j
theorem zDr.cg {M M0 M2 : zMm} {a : Nat} {k l i : Int} (h : zDr M M0 a k l i) (e : ∀ j, M2 (a + 2) j = M (a + 2) j) : zDr M2 M0 a k l i := fun j => (e j).trans (h j)
theorem zDr.step {M M0 M2 : zMm} {a : Nat} {k l i x : Int} (h : zDr M M0 a k l i) (e : M2 = zup M (a + 2) (8 + 40 * k + i) x) (hx : x = M (a + 2) (8 + 40 * k + i + 1)) (hi : l ≤ i) : zDr M2 M0 a k l (i + 1) := fun j => by
  by_cases q : j = 8 + 40 * k + i
  · rw [q, zup_s e, hx, h, if_neg (by omega), if_pos (by omega)]
  · rw [zup_n e (by omega), h j]
    by_cases q2 : 8 + 40 * k + l ≤ j ∧ j < 8 + 40 * k + i
    · rw [if_pos q2, if_pos (by omega)]
    · rw [if_neg q2, if_neg (by omega)]
theorem zSum_rm {g h : Int → Int} {b : Int} {l : Nat} (h1 : ∀ i : Nat, i < l → h (b + i) = g (b + i)) : ∀ (n : Nat), (∀ i : Nat, l ≤ i → i < l + n → h (b + i) = g (b + i + 1)) → zSum h b (l + n) + g (b + l) = zSum g b (l + n + 1)
  | 0, _ => by
    show zSum h b l + g (b + l) = zSum g b l + g (b + (l : Int))
    rw [zSum_cg l h1]
  | n + 1, h2 => by
    have ih := zSum_rm h1 n (fun i i0 i1 => h2 i i0 (by omega))
    have e1 : zSum h b (l + (n + 1)) = zSum h b (l + n) + h (b + ((l + n : Nat) : Int)) := rfl
    have e2 : zSum g b (l + (n + 1) + 1) = zSum g b (l + n + 1) + g (b + ((l + n + 1 : Nat) : Int)) := rfl
    rw [e1, e2, h2 (l + n) (by omega) (by omega), ← ih, show b + ((l + n + 1 : Nat) : Int) = b + ((l + n : Nat) : Int) + 1 by omega]
    omega
theorem zDr.fi {T : zTl} {F : zRm'} {G : zGt} {M M0 M2 : zMm} {a : Nat} {k l n x : Int} (h : zDr M M0 a k l (n - 1)) (f : zFi M0 a) (hI : zI G M0) (h0 : zModel T F G a) (hk : 0 ≤ k ∧ k ≤ 3) (hn : M0 (a + 2) (4 + k) = n) (hl : 0 ≤ l ∧ l < n) (e : M2 = zup M (a + 2) (4 + k) x) (hx : x = n - 1) : zFi M2 a := fun q q0 q3 => by
  have hq := zI.at hI ((zM9 h0 (4 + q)).trans (zfG_4 (by omega)))
  have hkn := zI.at hI ((zM9 h0 (4 + k)).trans (zfG_4 (by omega)))
  rw [hn] at hkn
  by_cases z : q = k
  · subst z
    rw [zup_s e, hx]
    have hrm := zSum_rm (g := M0 (a + 2)) (h := M2 (a + 2)) (b := 8 + 40 * q) (l := l.toNat) (fun i hi => by rw [zup_n e (by omega), h, if_neg (by omega)]) (n - 1 - l).toNat (fun i i0 i1 => by rw [zup_n e (by omega), h, if_pos (by omega)])
    rw [show l.toNat + (n - 1 - l).toNat = (n - 1).toNat by omega, show (n - 1).toNat + 1 = n.toNat by omega] at hrm
    have hs := f q q0 q3
    rw [hn] at hs
    have hp := (zI.at hI ((zM9 h0 (8 + 40 * q + (l.toNat : Int))).trans (zfG_8 (by omega)))).1
    omega
  · rw [zup_n e (by omega), h, if_neg (by omega)]
    rw [zSum_cg (g := M2 (a + 2)) (h := M0 (a + 2))]
    · exact f q q0 q3
    · intro i hi
      rw [zup_n e (by omega), h, if_neg (by omega)]
theorem c_X12_drop {w : zWp} {T : zTl} {M : zMm} {J : zJm} {R : zRm'} {G : zGt} {F : zRm'} {a : Nat} (hI : zI G M) (hF : zF F R) (h0 : zModel T F G a) (v1 : Int) (v2 : Int) (p1 : zFi M a) (p2 : -2147483648 ≤ v1 ∧ v1 ≤ 2147483647) (p3 : -2147483648 ≤ v2 ∧ v2 ≤ 2147483647) : zCt w 4 0 0 yX12_drop cX12_drop 7 (some .int) [.ref (w.2.1 + a), zi v1, zi v2] (T, M, J, R) (zPi T R G (fun x M2 => (zMd a [2, 4] [0, 9] [] M M2) ∧ (zFi M2 a))) := by
  refine zCt.of rfl (Nat.le_of_ble_eq_true rfl) ?_
  intro p e s m args below meth c C
  obtain ⟨Po, hPo⟩ : ∃ Po, Po = zPi T R G (fun x M2 => (zMd a [2, 4] [0, 9] [] M M2) ∧ (zFi M2 a)) := ⟨_, rfl⟩
  rw [← hPo]
  have hK0 : zMd a [2, 4] [0, 9] [] M M := zMd.rf
  show zK w p e 4 0 0 s m args below meth c 7 T Po 0 [.ref (w.2.1 + a), zi v1, zi v2, .null, .null, .null, .null] [] (T, M, J, R)
  refine q_aload_n C dX12_drop_0 (n := 1) rfl rfl ?_
  refine q_iconst C dX12_drop_1 (n := 2) rfl ?_
  refine q_putI C dX12_drop_2 (n := 5) rfl f_X12_1 (zM0 h0) ⟨rfl, rfl⟩ (fun M1 (e2 : M1 = zup M a 0 0) => ?_)
  have hI3 : zI G M1 := hI.put e2 (zM1 h0) rfl (by omega)
  have hK4 := hK0.upS e2 rfl
  refine q_aload_n C dX12_drop_5 (n := 6) rfl rfl ?_
  refine q_iload_n C dX12_drop_6 (n := 7) rfl rfl ?_
  refine q_iload_n C dX12_drop_7 (n := 8) rfl rfl ?_
  refine q_callVp C dX12_drop_8 (n := 11) rfl m_X12_324 v_yX12_isLine (zM0 h0) ⟨by decide, rfl⟩ (c_X12_isLine (w := w) (J := J) hI3 hF h0 v1 v2 (by omega) (by omega)) (Nat.le_of_ble_eq_true rfl) rfl rfl (Nat.le_of_ble_eq_true rfl) ⟨Nat.le_refl _, Nat.le_refl _⟩ (fun x7 h8 => ?_)
  obtain ⟨h5, h6⟩ := h8
  have hz9 : M1 (a + 2) (4 + v1) = M (a + 2) (4 + v1) := (zup_p e2 (by omega) _)
  refine q_if_ne C 16 dX12_drop_11 (n := 14) rfl rfl (by omega) (fun h10 => ?_) (fun h10 => ?_)
  · refine q_aload_n C dX12_drop_16 (n := 17) rfl rfl ?_
    refine q_iload_n C dX12_drop_17 (n := 18) rfl rfl ?_
    refine q_iload_n C dX12_drop_18 (n := 19) rfl rfl ?_
    have hp11 : zFi M1 a := p1.cg (fun j => (zup_p e2 (by omega) _))
    refine q_callVp C dX12_drop_19 (n := 22) rfl m_X12_321 v_yX12_beginOf (zM0 h0) ⟨by decide, rfl⟩ (c_X12_beginOf (w := w) (J := J) hI3 hF h0 v1 v2 hp11 (by omega) (by have hz12 : M1 (a + 2) (4 + v1) = M (a + 2) (4 + v1) := (zup_p e2 (by omega) _); omega)) (Nat.le_of_ble_eq_true rfl) rfl rfl (Nat.le_of_ble_eq_true rfl) ⟨Nat.le_refl _, Nat.le_refl _⟩ (fun x16 h17 => ?_)
    obtain ⟨h13, h14, h15⟩ := h17
    have hz18 : M1 (a + 2) (4 + v1) = M (a + 2) (4 + v1) := (zup_p e2 (by omega) _)
    have hz19 : M1 (a + 2) (8 + 40 * v1 + v2) = M (a + 2) (8 + 40 * v1 + v2) := (zup_p e2 (by omega) _)
    refine q_istore_n C [.ref (w.2.1 + a), zi v1, zi v2, zi x16, .null, .null, .null] dX12_drop_22 (n := 23) rfl rfl rfl ?_
    refine q_aload_n C dX12_drop_23 (n := 24) rfl rfl ?_
    refine q_iload_n C dX12_drop_24 (n := 25) rfl rfl ?_
    refine q_iload_n C dX12_drop_25 (n := 26) rfl rfl ?_
    refine q_callVp C dX12_drop_26 (n := 29) rfl m_X12_289 v_yX12_lengthOf (zM0 h0) ⟨by decide, rfl⟩ (c_X12_lengthOf (w := w) (J := J) hI3 hF h0 v1 v2 (by omega) (by omega)) (Nat.le_of_ble_eq_true rfl) rfl rfl (Nat.le_of_ble_eq_true rfl) ⟨Nat.le_refl _, Nat.le_refl _⟩ (fun x22 h23 => ?_)
    obtain ⟨h20, h21⟩ := h23
    have hz24 : M1 (a + 2) (8 + 40 * v1 + v2) = M (a + 2) (8 + 40 * v1 + v2) := (zup_p e2 (by omega) _)
    refine q_istore C [.ref (w.2.1 + a), zi v1, zi v2, zi x16, zi x22, .null, .null] dX12_drop_29 (n := 31) rfl rfl rfl ?_
    refine q_aload_n C dX12_drop_31 (n := 32) rfl rfl ?_
    refine q_iload_n C dX12_drop_32 (n := 33) rfl rfl ?_
    refine q_aload_n C dX12_drop_33 (n := 34) rfl rfl ?_
    refine q_iload_n C dX12_drop_34 (n := 35) rfl rfl ?_
    refine q_callVp C dX12_drop_35 (n := 38) rfl m_X12_285 v_yX12_linesOf (zM0 h0) ⟨by decide, rfl⟩ (c_X12_linesOf (w := w) (J := J) hI3 hF h0 v1 (by omega)) (Nat.le_of_ble_eq_true rfl) rfl rfl (Nat.le_of_ble_eq_true rfl) ⟨Nat.le_refl _, Nat.le_refl _⟩ (fun x27 h28 => ?_)
    obtain ⟨h25, h26⟩ := h28
    have hz29 : M1 (a + 2) (4 + v1) = M (a + 2) (4 + v1) := (zup_p e2 (by omega) _)
    refine q_callVp C dX12_drop_38 (n := 41) rfl m_X12_321 v_yX12_beginOf (zM0 h0) ⟨by decide, rfl⟩ (c_X12_beginOf (w := w) (J := J) hI3 hF h0 v1 x27 hp11 (by omega) (by have hz30 : M1 (a + 2) (4 + v1) = M (a + 2) (4 + v1) := (zup_p e2 (by omega) _); omega)) (Nat.le_of_ble_eq_true rfl) rfl rfl (Nat.le_of_ble_eq_true rfl) ⟨Nat.le_refl _, Nat.le_refl _⟩ (fun x34 h35 => ?_)
    obtain ⟨h31, h32, h33⟩ := h35
    have hz36 : M1 (a + 2) (4 + v1) = M (a + 2) (4 + v1) := (zup_p e2 (by omega) _)
    have hz37 : M1 (a + 2) (8 + 40 * v1 + x27) = M (a + 2) (8 + 40 * v1 + x27) := (zup_p e2 (by omega) _)
    refine q_istore C [.ref (w.2.1 + a), zi v1, zi v2, zi x16, zi x22, zi x34, .null] dX12_drop_41 (n := 43) rfl rfl rfl ?_
    refine q_iload_n C dX12_drop_43 (n := 44) rfl rfl ?_
    refine q_iload C dX12_drop_44 (n := 46) rfl rfl ?_
    refine q_iadd C dX12_drop_46 (n := 47) rfl (v := x16 + x22) rfl ?_
    refine q_istore C [.ref (w.2.1 + a), zi v1, zi v2, zi x16, zi x22, zi x34, zi (x16 + x22)] dX12_drop_47 (n := 49) rfl rfl rfl ?_
    have L_47 : ∀ n48 : Nat, ∀ (u38 : Int) (M40 : zMm) (J41 : zJm), zI G M40 → zMd a [2, 4] [0, 9] [] M M40 → zMd a [4] [] [] M1 M40 → (-2147483648 ≤ u38 ∧ u38 ≤ 2147483647) → (x16 + x22 ≤ u38 ∧ u38 ≤ 1700) → (1701 - u38 ≤ (n48 : Int)) → zK w p e 4 0 0 s m args below meth c 7 T Po 49 [.ref (w.2.1 + a), zi v1, zi v2, .null, zi x22, zi x34, zi u38] [] (T, M40, J41, R) := by
      intro n48
      induction n48 with
      | zero =>
        intro u38 M40 J41 hI42 hK43 hK44 h45 h46 hm50
        exfalso
        omega
      | succ n48 ih49 =>
        intro u38 M40 J41 hI42 hK43 hK44 h45 h46 hm50
        refine q_iload C dX12_drop_49 (n := 51) rfl rfl ?_
        refine q_iload C dX12_drop_51 (n := 53) rfl rfl ?_
        refine q_icmp_ge C 79 dX12_drop_53 (n := 56) rfl rfl (by omega) (fun h51 => ?_) (fun h51 => ?_)
        · refine q_iload_n C dX12_drop_79 (n := 80) rfl rfl ?_
          refine q_istore C [.ref (w.2.1 + a), zi v1, zi v2, .null, zi x22, zi x34, zi v2] dX12_drop_80 (n := 82) rfl rfl rfl ?_
          have L_63 : ∀ n64 : Nat, ∀ (u52 : Int) (M54 : zMm) (J55 : zJm), zI G M54 → zMd a [2, 4] [0, 9] [] M M54 → zMd a [2] [] [] M40 M54 → (-2147483648 ≤ u52 ∧ u52 ≤ 2147483647) → (v2 ≤ u52 ∧ u52 ≤ M (a + 2) (4 + v1) - 1) → (zDr M54 M a v1 v2 u52) → (M54 (a + 2) (4 + v1) = M (a + 2) (4 + v1)) → (41 - u52 ≤ (n64 : Int)) → zK w p e 4 0 0 s m args below meth c 7 T Po 82 [.ref (w.2.1 + a), zi v1, .null, .null, .null, .null, zi u52] [] (T, M54, J55, R) := by
            intro n64
            induction n64 with
            | zero =>
              intro u52 M54 J55 hI56 hK57 hK58 h59 h60 h61 h62 hm66
              exfalso
              omega
            | succ n64 ih65 =>
              intro u52 M54 J55 hI56 hK57 hK58 h59 h60 h61 h62 hm66
              refine q_iload C dX12_drop_82 (n := 84) rfl rfl ?_
              refine q_aload_n C dX12_drop_84 (n := 85) rfl rfl ?_
              refine q_iload_n C dX12_drop_85 (n := 86) rfl rfl ?_
              refine q_callVp C dX12_drop_86 (n := 89) rfl m_X12_285 v_yX12_linesOf (zM0 h0) ⟨by decide, rfl⟩ (c_X12_linesOf (w := w) (J := J55) hI56 hF h0 v1 (by omega)) (Nat.le_of_ble_eq_true rfl) rfl rfl (Nat.le_of_ble_eq_true rfl) ⟨Nat.le_refl _, Nat.le_refl _⟩ (fun x69 h70 => ?_)
              obtain ⟨h67, h68⟩ := h70
              refine q_iconst C dX12_drop_89 (n := 90) rfl ?_
              refine q_isub C dX12_drop_90 (n := 91) rfl (v := x69 - 1) rfl ?_
              refine q_icmp_ge C 132 dX12_drop_91 (n := 94) rfl rfl (by omega) (fun h71 => ?_) (fun h71 => ?_)
              · refine q_aload_n C dX12_drop_132 (n := 133) rfl rfl ?_
                refine q_getR C dX12_drop_133 (n := 136) rfl f_X12_17 (zM0 h0) (hF _ _ _ (zM7 h0)) ?_
                refine q_iconst C dX12_drop_136 (n := 137) rfl ?_
                refine q_iload_n C dX12_drop_137 (n := 138) rfl rfl ?_
                refine q_iadd C dX12_drop_138 (n := 139) rfl (v := 4 + v1) rfl ?_
                refine q_dup2 C dX12_drop_139 (n := 140) rfl ⟨rfl, rfl⟩ ?_
                have g72 := zI.at hI56 (((zM9 h0) (4 + v1)).trans (zfG_4 (by omega)))
                refine q_iald C dX12_drop_140 (n := 141) rfl (zM8 h0) (by omega) (v := M54 (a + 2) (4 + v1)) rfl ?_
                refine q_iconst C dX12_drop_141 (n := 142) rfl ?_
                refine q_isub C dX12_drop_142 (n := 143) rfl (v := (M54 (a + 2) (4 + v1)) - 1) rfl ?_
                refine q_iast C dX12_drop_143 (n := 144) rfl (zM8 h0) (by omega)  (fun M73 e74 => ?_)
                have hI75 : zI G M73 := hI56.put e74 (((zM9 h0) (4 + v1)).trans (zfG_4 (by omega))) rfl (by omega)
                have hK76 := hK57.upA e74 rfl
                have hK77 := hK58.upA e74 rfl
                refine q_aload_n C dX12_drop_144 (n := 145) rfl rfl ?_
                refine q_iconst C dX12_drop_145 (n := 146) rfl ?_
                refine q_putZ C dX12_drop_146 (n := 149) rfl f_X12_300 (zM0 h0) ⟨rfl, rfl⟩ (by omega) (fun M78 (e79 : M78 = zup M73 a 9 0) => ?_)
                have hI80 : zI G M78 := hI75.put e79 (zM22 h0) rfl (by omega)
                have hK81 := hK76.upS e79 rfl
                refine q_aload_n C dX12_drop_149 (n := 150) rfl rfl ?_
                refine q_iload_n C dX12_drop_150 (n := 151) rfl rfl ?_
                refine q_callVp C dX12_drop_151 (n := 154) rfl m_X12_285 v_yX12_linesOf (zM0 h0) ⟨by decide, rfl⟩ (c_X12_linesOf (w := w) (J := J55) hI80 hF h0 v1 (by omega)) (Nat.le_of_ble_eq_true rfl) rfl rfl (Nat.le_of_ble_eq_true rfl) ⟨Nat.le_refl _, Nat.le_refl _⟩ (fun x85 h86 => ?_)
                obtain ⟨h83, h84⟩ := h86
                have hz87 : M78 (a + 2) (4 + v1) = (M54 (a + 2) (4 + v1)) - 1 := ((zup_p e79 (by omega) _).trans (zup_s e74))
                have gei : u52 = M (a + 2) (4 + v1) - 1 := by omega
                have hp88 : zFi M73 a := zDr.fi (n := M (a + 2) (4 + v1)) (by rw [← gei]; exact h61) p1 hI h0 (by omega) rfl (by omega) e74 (by omega)
                have hp89 : zFi M78 a := hp88.cg (fun j => (zup_p e79 (by omega) _))
                exact q_iret C dX12_drop_154 ⟨rfl, rfl⟩ (by rw [hPo]; exact ⟨x85, M78, J55, rfl, rfl, hI80, hK81, hp89⟩)
              · refine q_aload_n C dX12_drop_94 (n := 95) rfl rfl ?_
                refine q_getR C dX12_drop_95 (n := 98) rfl f_X12_17 (zM0 h0) (hF _ _ _ (zM7 h0)) ?_
                refine q_bipush C dX12_drop_98 (n := 100) rfl (x := 8) (by decide) ?_
                refine q_bipush C dX12_drop_100 (n := 102) rfl (x := 40) (by decide) ?_
                refine q_iload_n C dX12_drop_102 (n := 103) rfl rfl ?_
                refine q_imul C dX12_drop_103 (n := 104) rfl (v := 40 * v1) rfl ?_
                refine q_iadd C dX12_drop_104 (n := 105) rfl (v := 8 + (40 * v1)) rfl ?_
                refine q_iload C dX12_drop_105 (n := 107) rfl rfl ?_
                refine q_iadd C dX12_drop_107 (n := 108) rfl (v := (8 + (40 * v1)) + u52) rfl ?_
                refine q_aload_n C dX12_drop_108 (n := 109) rfl rfl ?_
                refine q_getR C dX12_drop_109 (n := 112) rfl f_X12_17 (zM0 h0) (hF _ _ _ (zM7 h0)) ?_
                refine q_bipush C dX12_drop_112 (n := 114) rfl (x := 8) (by decide) ?_
                refine q_bipush C dX12_drop_114 (n := 116) rfl (x := 40) (by decide) ?_
                refine q_iload_n C dX12_drop_116 (n := 117) rfl rfl ?_
                refine q_imul C dX12_drop_117 (n := 118) rfl (v := 40 * v1) rfl ?_
                refine q_iadd C dX12_drop_118 (n := 119) rfl (v := 8 + (40 * v1)) rfl ?_
                refine q_iload C dX12_drop_119 (n := 121) rfl rfl ?_
                refine q_iadd C dX12_drop_121 (n := 122) rfl (v := (8 + (40 * v1)) + u52) rfl ?_
                refine q_iconst C dX12_drop_122 (n := 123) rfl ?_
                refine q_iadd C dX12_drop_123 (n := 124) rfl (v := ((8 + (40 * v1)) + u52) + 1) rfl ?_
                have g90 := zI.at hI56 (((zM9 h0) (((8 + (40 * v1)) + u52) + 1)).trans (zfG_8 (by omega)))
                refine q_iald C dX12_drop_124 (n := 125) rfl (zM8 h0) (by omega) (v := M54 (a + 2) (((8 + (40 * v1)) + u52) + 1)) rfl ?_
                refine q_iast C dX12_drop_125 (n := 126) rfl (zM8 h0) (by omega)  (fun M91 e92 => ?_)
                have hI93 : zI G M91 := hI56.put e92 (((zM9 h0) ((8 + (40 * v1)) + u52)).trans (zfG_8 (by omega))) rfl (by omega)
                have hK94 := hK57.upA e92 rfl
                have hK95 := hK58.upA e92 rfl
                refine q_iinc C [.ref (w.2.1 + a), zi v1, .null, .null, .null, .null, zi (u52 + 1)] dX12_drop_126 (n := 129) rfl rfl rfl rfl ?_
                refine q_goto C 82 dX12_drop_129 rfl ?_
                exact zK.weak (ih65 (u52 + 1) M91 J55 hI93 hK94 hK95 (by omega) (by omega) (h61.step e92 (by have hw : M54 (a + 2) (8 + 40 * v1 + u52 + 1) = M54 (a + 2) (8 + 40 * v1 + u52 + 1) := rfl; omega) (by omega)) (by have hw : M91 (a + 2) (4 + v1) = M54 (a + 2) (4 + v1) := (zup_n e92 (by omega)); omega) (by omega)) (zwk_c (zwk_c (zwk_n (zwk_n (zwk_n (zwk_n (zwk_c zwk_e)))))))
          exact zK.weak (L_63 _ v2 M40 J41 hI42 hK43 (zMd.rf : zMd a [2] [] [] M40 M40) (by omega) (by omega) (zDr.zero (fun j => ((hK44.getA rfl rfl rfl).trans (zup_p e2 (by omega) _)))) (by have hw : M40 (a + 2) (4 + v1) = M (a + 2) (4 + v1) := ((hK44.getA rfl rfl rfl).trans (zup_p e2 (by omega) _)); omega) (Int.self_le_toNat _)) (zwk_c (zwk_c (zwk_n (zwk_n (zwk_n (zwk_n (zwk_c zwk_e)))))))
        · refine q_aload_n C dX12_drop_56 (n := 57) rfl rfl ?_
          refine q_getR C dX12_drop_57 (n := 60) rfl f_X12_24 (zM0 h0) (hF _ _ _ (zM13 h0)) ?_
          refine q_iload C dX12_drop_60 (n := 62) rfl rfl ?_
          refine q_iload C dX12_drop_62 (n := 64) rfl rfl ?_
          refine q_isub C dX12_drop_64 (n := 65) rfl (v := u38 - x22) rfl ?_
          refine q_aload_n C dX12_drop_65 (n := 66) rfl rfl ?_
          refine q_getR C dX12_drop_66 (n := 69) rfl f_X12_24 (zM0 h0) (hF _ _ _ (zM13 h0)) ?_
          refine q_iload C dX12_drop_69 (n := 71) rfl rfl ?_
          have g96 := zI.at hI42 ((zM15 h0) u38)
          refine q_bald C dX12_drop_71 (n := 72) rfl (zM14 h0) (by omega) (v := M40 (a + 4) u38) rfl ?_
          refine q_bast C dX12_drop_72 (n := 73) rfl (zM14 h0) (by omega) (by omega) (fun M97 e98 => ?_)
          have hI99 : zI G M97 := hI42.put e98 ((zM15 h0) (u38 - x22)) rfl (by omega)
          have hK100 := hK43.upA e98 rfl
          have hK101 := hK44.upA e98 rfl
          refine q_iinc C [.ref (w.2.1 + a), zi v1, zi v2, .null, zi x22, zi x34, zi (u38 + 1)] dX12_drop_73 (n := 76) rfl rfl rfl rfl ?_
          refine q_goto C 49 dX12_drop_76 rfl ?_
          exact zK.weak (ih49 (u38 + 1) M97 J41 hI99 hK100 hK101 (by omega) (by omega) (by omega)) (zwk_c (zwk_c (zwk_c (zwk_n (zwk_c (zwk_c (zwk_c zwk_e)))))))
    exact zK.weak (L_47 _ (x16 + x22) M1 J hI3 hK4 (zMd.rf : zMd a [4] [] [] M1 M1) (by omega) (by omega) (Int.self_le_toNat _)) (zwk_c (zwk_c (zwk_c (zwk_n (zwk_c (zwk_c (zwk_c zwk_e)))))))
  · refine q_iconst C dX12_drop_14 (n := 15) rfl ?_
    have hp102 : zFi M1 a := p1.cg (fun j => (zup_p e2 (by omega) _))
    exact q_iret C dX12_drop_15 ⟨rfl, rfl⟩ (by rw [hPo]; exact ⟨(-1), M1, J, rfl, rfl, hI3, hK4, hp102⟩)
