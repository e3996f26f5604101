theorem c_X12_defines {w : zWp} {T : zTl} {M : zMm} {J : zJm} {R : zRm'} {G : zGt} {F : zRm'} {a : Nat} (hI : zI G M) (hF : zF F R) (h0 : zModel T F G a) (p1 : zMe M a) : zCt w 9 0 0 yX12_defines cX12_defines 8 (some .boolean) [.ref (w.2.1 + a)] (T, M, J, R) (zPi T R G (fun x M2 => (zMd a [18, 20, 23] [37] [] M M2) ∧ (x = 0 ∨ x = 1) ∧ (zMe M2 a) ∧ (M2 (a + 18) 3 = M (a + 18) 3))) := sorry
theorem c_X12_doesText {w : zWp} {T : zTl} {M : zMm} {J : zJm} {R : zRm'} {G : zGt} {F : zRm'} {a : Nat} (hI : zI G M) (hF : zF F R) (h0 : zModel T F G a) (p1 : zMe M a) (p2 : M a 26 = 3500 ∧ M a 25 = 440 ∧ 0 ≤ M a 24 ∧ M a 24 ≤ 440) (p3 : 0 ≤ M a 99 ∧ M a 99 ≤ 300 ∧ M a 100 ≤ 30 * M a 99) : zCt w 8 0 0 yX12_doesText cX12_doesText 2 (some .boolean) [.ref (w.2.1 + a)] (T, M, J, R) (zPi T R G (fun x M2 => (zMd a [9, 10, 11, 12, 13, 14, 15, 16, 17, 18, 24, 25, 26, 27, 28, 29, 30, 31, 32, 33, 34, 35, 36, 37, 38, 39, 40, 41, 42, 59, 60, 61, 62, 63, 64, 65, 66, 67] [24, 25, 26, 34, 57, 58, 59, 60, 61, 62, 63, 64, 65, 99, 100] [] M M2) ∧ (x = 0 ∨ x = 1) ∧ (zMe M2 a) ∧ (M2 (a + 18) 3 = M (a + 18) 3) ∧ (0 ≤ M2 a 99 ∧ M2 a 99 ≤ 300 ∧ M2 a 100 ≤ 30 * M2 a 99))) := by
  refine zCt.of rfl (Nat.le_of_ble_eq_true rfl) ?_
  intro p e s m args below meth c C
  obtain ⟨Po, hPo⟩ : ∃ Po, Po = zPi T R G (fun x M2 => (zMd a [9, 10, 11, 12, 13, 14, 15, 16, 17, 18, 24, 25, 26, 27, 28, 29, 30, 31, 32, 33, 34, 35, 36, 37, 38, 39, 40, 41, 42, 59, 60, 61, 62, 63, 64, 65, 66, 67] [24, 25, 26, 34, 57, 58, 59, 60, 61, 62, 63, 64, 65, 99, 100] [] M M2) ∧ (x = 0 ∨ x = 1) ∧ (zMe M2 a) ∧ (M2 (a + 18) 3 = M (a + 18) 3) ∧ (0 ≤ M2 a 99 ∧ M2 a 99 ≤ 300 ∧ M2 a 100 ≤ 30 * M2 a 99)) := ⟨_, rfl⟩
  rw [← hPo]
  have hK0 : zMd a [9, 10, 11, 12, 13, 14, 15, 16, 17, 18, 24, 25, 26, 27, 28, 29, 30, 31, 32, 33, 34, 35, 36, 37, 38, 39, 40, 41, 42, 59, 60, 61, 62, 63, 64, 65, 66, 67] [24, 25, 26, 34, 57, 58, 59, 60, 61, 62, 63, 64, 65, 99, 100] [] M M := zMd.rf
  have gk_outBytes := zI.at hI (zM231 h0)
  show zK w p e 8 0 0 s m args below meth c 2 T Po 0 [.ref (w.2.1 + a), .null] [] (T, M, J, R)
  refine q_aload_n C dX12_doesText_0 (n := 1) rfl rfl ?_
  obtain ⟨mbq1, mpq1, hmaq1⟩ := p1
  have hp2 : zOg M a (M (a + 10)) (M (a + 11)) := fun t _ => ⟨rfl, rfl⟩
  refine q_callVi C dX12_doesText_1 (n := 4) rfl m_X12_673 v_yX12_expandsLine (zM0 h0) ⟨by decide, rfl⟩ (c_X12_expandsLine (w := w) (J := J) hI hF h0 hp2 hmaq1 (by omega)) (Nat.le_of_ble_eq_true rfl) rfl rfl (Nat.le_of_ble_eq_true rfl) ⟨Nat.le_refl _, Nat.le_refl _⟩ (fun x12 M8 J9  hI10 h11 => ?_)
  obtain ⟨hk13, h3, h4, h5, h6, h7⟩ := h11
  have hK14 := hK0.tr hk13 rfl rfl rfl
  refine q_if_ne C 9 dX12_doesText_4 (n := 7) rfl rfl (by omega) (fun h15 => ?_) (fun h15 => ?_)
  · refine q_iconst C dX12_doesText_9 (n := 10) rfl ?_
    refine q_istore_n C [.ref (w.2.1 + a), zi 0] dX12_doesText_10 (n := 11) rfl rfl rfl ?_
    have L_26 : ∀ n27 : Nat, ∀ (u16 : Int) (M18 : zMm) (J19 : zJm), zI G M18 → zMd a [9, 10, 11, 12, 13, 14, 15, 16, 17, 18, 24, 25, 26, 27, 28, 29, 30, 31, 32, 33, 34, 35, 36, 37, 38, 39, 40, 41, 42, 59, 60, 61, 62, 63, 64, 65, 66, 67] [24, 25, 26, 34, 57, 58, 59, 60, 61, 62, 63, 64, 65, 99, 100] [] M M18 → zMd a [59, 60, 61, 62, 63, 64, 65, 66, 67] [99, 100] [] M8 M18 → (-2147483648 ≤ u16 ∧ u16 ≤ 2147483647) → (0 ≤ u16 ∧ u16 ≤ 3440) → (0 ≤ M18 a 99 ∧ M18 a 99 ≤ 300 ∧ M18 a 100 ≤ 30 * (M18 a 99)) → (3440 - u16 + 1 ≤ (n27 : Int)) → zK w p e 8 0 0 s m args below meth c 2 T Po 11 [.ref (w.2.1 + a), zi u16] [] (T, M18, J19, R) := by
      intro n27
      induction n27 with
      | zero =>
        intro u16 M18 J19 hI20 hK21 hK22 h23 h24 h25 hm29
        exfalso
        omega
      | succ n27 ih28 =>
        intro u16 M18 J19 hI20 hK21 hK22 h23 h24 h25 hm29
        refine q_iload_n C dX12_doesText_11 (n := 12) rfl rfl ?_
        refine q_aload_n C dX12_doesText_12 (n := 13) rfl rfl ?_
        have g30 := zI.at hI10 (zM146 h0)
        refine q_getI C dX12_doesText_13 (n := 16) rfl f_X12_451 (zM0 h0) (v := M8 a 61) (hK22.getS rfl rfl) ?_
        refine q_icmp_ge C 58 dX12_doesText_16 (n := 19) rfl rfl (by omega) (fun h31 => ?_) (fun h31 => ?_)
        · refine q_aload_n C dX12_doesText_58 (n := 59) rfl rfl ?_
          refine q_getR C dX12_doesText_59 (n := 62) rfl f_X12_68 (zM0 h0) (hF _ _ _ (zM65 h0)) ?_
          refine q_iconst C dX12_doesText_62 (n := 63) rfl ?_
          refine q_dup2 C dX12_doesText_63 (n := 64) rfl ⟨rfl, rfl⟩ ?_
          have g32 := zI.at hI10 (((zM67 h0) 1).trans (zwG_1 (by omega)))
          refine q_iald C dX12_doesText_64 (n := 65) rfl (zM66 h0) (by omega) (v := M8 (a + 18) 1) (hK22.getA rfl rfl rfl) ?_
          refine q_iconst C dX12_doesText_65 (n := 66) rfl ?_
          refine q_iadd C dX12_doesText_66 (n := 67) rfl (v := (M8 (a + 18) 1) + 1) rfl ?_
          refine q_wrap C ?_
          have g33 := zr_wr ((M8 (a + 18) 1) + 1)
          refine q_iast C dX12_doesText_67 (n := 68) rfl (zM66 h0) (by omega)  (fun M34 e35 => ?_)
          have hp36 : zMa M18 a mbq1 mpq1 := h5.cg (fun j j0 j1 => (hK22.getA rfl rfl rfl)) (fun j => (hK22.getA rfl rfl rfl))
          have hp37 : zMa M34 a mbq1 mpq1 := hp36.up e35 (by omega)
          have hI38 : zI G M34 := hI20.put e35 (((zM67 h0) 1).trans (zwG_1 (by omega))) rfl (by omega)
          have hK39 := hK21.upA e35 rfl
          refine q_iconst C dX12_doesText_68 (n := 69) rfl ?_
          have hp41 : zMe M34 a := ⟨_, _, hp37⟩
          exact q_zret C dX12_doesText_69 ⟨rfl, rfl⟩ (by omega) (by rw [hPo]; exact ⟨1, M34, J19, rfl, rfl, hI38, hK39, by omega, hp41, by have hz42 : M34 (a + 18) 3 = M (a + 18) 3 := ((zup_n e35 (by omega)).trans ((hK22.getA rfl rfl rfl).trans (h7))); omega, by have hz43 : M34 a 99 = M18 a 99 := (zup_p e35 (by omega) _); have hz44 : M34 a 100 = M18 a 100 := (zup_p e35 (by omega) _); omega⟩)
        · refine q_aload_n C dX12_doesText_19 (n := 20) rfl rfl ?_
          have g45 := zI.at hI20 (zM230 h0)
          refine q_getI C dX12_doesText_20 (n := 23) rfl f_X12_636 (zM0 h0) (v := M18 a 99) rfl ?_
          refine q_sipush C dX12_doesText_23 (n := 26) rfl (x := 300) (by decide) ?_
          refine q_icmp_ne C 42 dX12_doesText_26 (n := 29) rfl rfl (by omega) (fun h46 => ?_) (fun h46 => ?_)
          · refine q_aload_n C dX12_doesText_42 (n := 43) rfl rfl ?_
            refine q_aload_n C dX12_doesText_43 (n := 44) rfl rfl ?_
            refine q_getR C dX12_doesText_44 (n := 47) rfl f_X12_138 (zM0 h0) (hF _ _ _ (zM136 h0)) ?_
            refine q_iload_n C dX12_doesText_47 (n := 48) rfl rfl ?_
            have g47 := zI.at hI10 ((zM138 h0) u16)
            refine q_iald C dX12_doesText_48 (n := 49) rfl (zM137 h0) (by omega) (v := M8 (a + 41) u16) (hK22.getA rfl rfl rfl) ?_
            refine q_callVv C dX12_doesText_49 (n := 52) rfl m_X12_676 v_yX12_comes (zM0 h0) ⟨by decide, rfl⟩ (c_X12_comes (w := w) (J := J19) hI20 hF h0 (M8 (a + 41) u16) (by omega) (by omega) (by omega)) (Nat.le_of_ble_eq_true rfl) rfl rfl (Nat.le_of_ble_eq_true rfl) ⟨Nat.le_refl _, Nat.le_refl _⟩ (fun M51 J52  hI53 h54 => ?_)
            obtain ⟨hk55, h48, h49, h50⟩ := h54
            have hK56 := hK21.tr hk55 rfl rfl rfl
            have hK57 := hK22.tr hk55 rfl rfl rfl
            have hz58 : M18 (a + 11) (M8 (a + 41) u16) = M8 (a + 11) (M8 (a + 41) u16) := (hK22.getA rfl rfl rfl)
            refine q_iinc C [.ref (w.2.1 + a), zi (u16 + 1)] dX12_doesText_52 (n := 55) rfl rfl rfl rfl ?_
            refine q_goto C 11 dX12_doesText_55 rfl ?_
            exact zK.weak (ih28 (u16 + 1) M51 J52 hI53 hK56 hK57 (by omega) (by omega) (by omega) (by omega)) (zwk_c (zwk_c zwk_e))
          · refine q_aload_n C dX12_doesText_29 (n := 30) rfl rfl ?_
            refine q_bipush C dX12_doesText_30 (n := 32) rfl (x := 7) (by decide) ?_
            refine q_aload_n C dX12_doesText_32 (n := 33) rfl rfl ?_
            refine q_getR C dX12_doesText_33 (n := 36) rfl f_X12_138 (zM0 h0) (hF _ _ _ (zM136 h0)) ?_
            refine q_iload_n C dX12_doesText_36 (n := 37) rfl rfl ?_
            have g59 := zI.at hI10 ((zM138 h0) u16)
            refine q_iald C dX12_doesText_37 (n := 38) rfl (zM137 h0) (by omega) (v := M8 (a + 41) u16) (hK22.getA rfl rfl rfl) ?_
            refine q_callVi C dX12_doesText_38 (n := 41) rfl m_X12_376 v_yX12_badAt (zM0 h0) ⟨by decide, rfl⟩ (c_X12_badAt (w := w) (J := J19) hI20 hF h0 7 (M8 (a + 41) u16) (by omega) (by omega)) (Nat.le_of_ble_eq_true rfl) rfl rfl (Nat.le_of_ble_eq_true rfl) ⟨Nat.le_refl _, Nat.le_refl _⟩ (fun x66 M62 J63  hI64 h65 => ?_)
            obtain ⟨hk67, h60, h61⟩ := h65
            have hK68 := hK21.tr hk67 rfl rfl rfl
            have hp69 : zMa M62 a mbq1 mpq1 := h5.cg (fun j j0 j1 => ((hk67.getW rfl rfl (by omega)).trans (hK22.getA rfl rfl rfl))) (fun j => ((hk67.getA rfl rfl rfl).trans (hK22.getA rfl rfl rfl)))
            have hp70 : zMe M62 a := ⟨_, _, hp69⟩
            exact q_zret C dX12_doesText_41 ⟨rfl, rfl⟩ (by omega) (by rw [hPo]; exact ⟨x66, M62, J63, rfl, rfl, hI64, hK68, by omega, hp70, by have hz71 : M62 (a + 18) 3 = M (a + 18) 3 := ((hk67.getP rfl rfl rfl).trans ((hK22.getA rfl rfl rfl).trans (h7))); omega, by have hz72 : M62 a 99 = M18 a 99 := (hk67.getS rfl rfl); have hz73 : M62 a 100 = M18 a 100 := (hk67.getS rfl rfl); omega⟩)
    exact zK.weak (L_26 _ 0 M8 J9 hI10 hK14 (zMd.rf : zMd a [59, 60, 61, 62, 63, 64, 65, 66, 67] [99, 100] [] M8 M8) (by omega) (by omega) (by have hz74 : M8 a 99 = M a 99 := (hk13.getS rfl rfl); have hz75 : M8 a 99 = M a 99 := (hk13.getS rfl rfl); have hz76 : M8 a 100 = M a 100 := (hk13.getS rfl rfl); have hz77 : M8 a 99 = M a 99 := (hk13.getS rfl rfl); omega) (Int.self_le_toNat _)) (zwk_c (zwk_c zwk_e))
  · refine q_iconst C dX12_doesText_7 (n := 8) rfl ?_
    have hp78 : zMe M8 a := ⟨_, _, h5⟩
    exact q_zret C dX12_doesText_8 ⟨rfl, rfl⟩ (by omega) (by rw [hPo]; exact ⟨0, M8, J9, rfl, rfl, hI10, hK14, by omega, hp78, by have hz79 : M8 (a + 18) 3 = M (a + 18) 3 := (h7); omega, by have hz80 : M8 a 99 = M a 99 := (hk13.getS rfl rfl); have hz81 : M8 a 100 = M a 100 := (hk13.getS rfl rfl); omega⟩)
theorem c_X12_doesNamed {w : zWp} {T : zTl} {M : zMm} {J : zJm} {R : zRm'} {G : zGt} {F : zRm'} {a : Nat} (hI : zI G M) (hF : zF F R) (h0 : zModel T F G a) (v1 : Int) (v2 : Int) (p1 : zGr M a 1) (p2 : zMe M a) (p3 : -2147483648 ≤ v1 ∧ v1 ≤ 2147483647) (p4 : 0 ≤ v2 ∧ v2 ≤ 39) (p5 : v2 < M (a + 2) (4 + M (a + 51) (M a 88))) : zCt w 5 0 0 yX12_doesNamed cX12_doesNamed 4 (some .boolean) [.ref (w.2.1 + a), zi v1, zi v2] (T, M, J, R) (zPi T R G (fun x M2 => (zMd a [18, 54, 55, 56, 57, 58] [89] [] M M2) ∧ (x = 0 ∨ x = 1) ∧ (x = 0 ∨ zGr M2 a 0) ∧ (zMe M2 a) ∧ (M2 (a + 18) 3 = M (a + 18) 3))) := by
  refine zCt.of rfl (Nat.le_of_ble_eq_true rfl) ?_
  intro p e s m args below meth c C
  obtain ⟨Po, hPo⟩ : ∃ Po, Po = zPi T R G (fun x M2 => (zMd a [18, 54, 55, 56, 57, 58] [89] [] M M2) ∧ (x = 0 ∨ x = 1) ∧ (x = 0 ∨ zGr M2 a 0) ∧ (zMe M2 a) ∧ (M2 (a + 18) 3 = M (a + 18) 3)) := ⟨_, rfl⟩
  rw [← hPo]
  have hK0 : zMd a [18, 54, 55, 56, 57, 58] [89] [] M M := zMd.rf
  have gk_groups := zI.at hI (zM202 h0)
  have gg := zGr.num p1 rfl
  show zK w p e 5 0 0 s m args below meth c 4 T Po 0 [.ref (w.2.1 + a), zi v1, zi v2, .null] [] (T, M, J, R)
  refine q_aload_n C dX12_doesNamed_0 (n := 1) rfl rfl ?_
  have g1 := zI.at hI (zM58 h0)
  refine q_getI C dX12_doesNamed_1 (n := 4) rfl f_X12_355 (zM0 h0) (v := M a 23) rfl ?_
  refine q_iconst C dX12_doesNamed_4 (n := 5) rfl ?_
  have J_2 : zK w p e 5 0 0 s m args below meth c 4 T Po 17 [.ref (w.2.1 + a), .null, .null, .null] [] (T, M, J, R) := by
    refine q_aload_n C dX12_doesNamed_17 (n := 18) rfl rfl ?_
    refine q_iconst C dX12_doesNamed_18 (n := 19) rfl ?_
    refine q_iconst C dX12_doesNamed_19 (n := 20) rfl ?_
    refine q_callVi C dX12_doesNamed_20 (n := 23) rfl m_X12_430 v_yX12_badToken (zM0 h0) ⟨by decide, rfl⟩ (c_X12_badToken (w := w) (J := J) hI hF h0 2 2 (by omega) (by omega)) (Nat.le_of_ble_eq_true rfl) rfl rfl (Nat.le_of_ble_eq_true rfl) ⟨Nat.le_refl _, Nat.le_refl _⟩ (fun x9 M5 J6  hI7 h8 => ?_)
    obtain ⟨hk10, h3, h4⟩ := h8
    have hK11 := hK0.tr hk10 rfl rfl rfl
    have hp12 : zMe M5 a := p2.cg (fun j j0 j1 => (hk10.getW rfl rfl (by omega))) (fun j => (hk10.getA rfl rfl rfl))
    exact q_zret C dX12_doesNamed_23 ⟨rfl, rfl⟩ (by omega) (by rw [hPo]; exact ⟨x9, M5, J6, rfl, rfl, hI7, hK11, by omega, Or.inl (by omega), hp12, ((hk10.getP rfl rfl rfl))⟩)
  refine q_icmp_eq C 17 dX12_doesNamed_5 (n := 8) rfl rfl (by omega) (fun h13 => ?_) (fun h13 => ?_)
  · exact zK.weak (J_2) (zwk_c (zwk_n (zwk_n (zwk_n zwk_e))))
  · refine q_aload_n C dX12_doesNamed_8 (n := 9) rfl rfl ?_
    refine q_getR C dX12_doesNamed_9 (n := 12) rfl f_X12_40 (zM0 h0) (hF _ _ _ (zM31 h0)) ?_
    refine q_iconst C dX12_doesNamed_12 (n := 13) rfl ?_
    have g14 := zI.at hI ((zM33 h0) 2)
    refine q_iald C dX12_doesNamed_13 (n := 14) rfl (zM32 h0) (by omega) (v := M (a + 9) 2) rfl ?_
    refine q_if_eq C 24 dX12_doesNamed_14 (n := 17) rfl rfl (by omega) (fun h15 => ?_) (fun h15 => ?_)
    · refine q_aload_n C dX12_doesNamed_24 (n := 25) rfl rfl ?_
      refine q_iconst C dX12_doesNamed_25 (n := 26) rfl ?_
      refine q_callVi C dX12_doesNamed_26 (n := 29) rfl m_X12_654 v_yX12_isNothing (zM0 h0) ⟨by decide, rfl⟩ (c_X12_isNothing (w := w) (J := J) hI hF h0 3 (by omega)) (Nat.le_of_ble_eq_true rfl) rfl rfl (Nat.le_of_ble_eq_true rfl) ⟨Nat.le_refl _, Nat.le_refl _⟩ (fun x21 M17 J18  hI19 h20 => ?_)
      obtain ⟨hk22, h16⟩ := h20
      have hK23 := hK0.tr hk22 rfl rfl rfl
      refine q_if_ne C 34 dX12_doesNamed_29 (n := 32) rfl rfl (by omega) (fun h24 => ?_) (fun h24 => ?_)
      · refine q_aload_n C dX12_doesNamed_34 (n := 35) rfl rfl ?_
        refine q_iconst C dX12_doesNamed_35 (n := 36) rfl ?_
        refine q_callVp C dX12_doesNamed_36 (n := 39) rfl m_X12_436 v_yX12_macroOf (zM0 h0) ⟨by decide, rfl⟩ (c_X12_macroOf (w := w) (J := J18) hI19 hF h0 2 (by omega)) (Nat.le_of_ble_eq_true rfl) rfl rfl (Nat.le_of_ble_eq_true rfl) ⟨Nat.le_refl _, Nat.le_refl _⟩ (fun x26 h27 => ?_)
        have hz28 : M17 (a + 18) 0 = M (a + 18) 0 := (hk22.getP rfl rfl rfl)
        refine q_istore_n C [.ref (w.2.1 + a), zi v1, zi v2, zi x26] dX12_doesNamed_39 (n := 40) rfl rfl rfl ?_
        refine q_iload_n C dX12_doesNamed_40 (n := 41) rfl rfl ?_
        refine q_iconst C dX12_doesNamed_41 (n := 42) rfl ?_
        refine q_icmp_ne C 62 dX12_doesNamed_42 (n := 45) rfl rfl (by omega) (fun h29 => ?_) (fun h29 => ?_)
        · refine q_aload_n C dX12_doesNamed_62 (n := 63) rfl rfl ?_
          refine q_getR C dX12_doesNamed_63 (n := 66) rfl f_X12_68 (zM0 h0) (hF _ _ _ (zM65 h0)) ?_
          refine q_bipush C dX12_doesNamed_66 (n := 68) rfl (x := 9) (by decide) ?_
          refine q_dup2 C dX12_doesNamed_68 (n := 69) rfl ⟨rfl, rfl⟩ ?_
          have g30 := zI.at hI (((zM67 h0) 9).trans (zwG_1 (by omega)))
          refine q_iald C dX12_doesNamed_69 (n := 70) rfl (zM66 h0) (by omega) (v := M (a + 18) 9) (hk22.getP rfl rfl rfl) ?_
          refine q_iconst C dX12_doesNamed_70 (n := 71) rfl ?_
          refine q_iadd C dX12_doesNamed_71 (n := 72) rfl (v := (M (a + 18) 9) + 1) rfl ?_
          refine q_wrap C ?_
          have g31 := zr_wr ((M (a + 18) 9) + 1)
          refine q_iast C dX12_doesNamed_72 (n := 73) rfl (zM66 h0) (by omega)  (fun M32 e33 => ?_)
          have hp34 : zMe M17 a := p2.cg (fun j j0 j1 => (hk22.getW rfl rfl (by omega))) (fun j => (hk22.getA rfl rfl rfl))
          have hp35 : zMe M32 a := hp34.up e33 (by omega)
          have hI36 : zI G M32 := hI19.put e33 (((zM67 h0) 9).trans (zwG_1 (by omega))) rfl (by omega)
          have hK37 := hK23.upA e33 rfl
          refine q_aload_n C dX12_doesNamed_73 (n := 74) rfl rfl ?_
          refine q_iload_n C dX12_doesNamed_74 (n := 75) rfl rfl ?_
          refine q_iload_n C dX12_doesNamed_75 (n := 76) rfl rfl ?_
          have J_41 : ∀ (u38 : Int), (-2147483648 ≤ u38 ∧ u38 ≤ 2147483647) → (u38 = 0 ∨ u38 = 1) → zK w p e 5 0 0 s m args below meth c 4 T Po 84 [.null, zi v1, .null, .null] [zi u38, zi v2, .ref (w.2.1 + a)] (T, M32, J18, R) := by
            intro u38 h39 h40
            refine q_iload_n C dX12_doesNamed_84 (n := 85) rfl rfl ?_
            refine q_iconst C dX12_doesNamed_85 (n := 86) rfl ?_
            have J_45 : ∀ (u42 : Int), (-2147483648 ≤ u42 ∧ u42 ≤ 2147483647) → (u42 = 0 ∨ u42 = 1) → zK w p e 5 0 0 s m args below meth c 4 T Po 94 [.null, .null, .null, .null] [zi u42, zi u38, zi v2, .ref (w.2.1 + a)] (T, M32, J18, R) := by
              intro u42 h43 h44
              have J_49 : ∀ (u46 : Int), (-2147483648 ≤ u46 ∧ u46 ≤ 2147483647) → (u46 = 0 ∨ u46 = 1) → zK w p e 5 0 0 s m args below meth c 4 T Po 102 [.null, .null, .null, .null] [zi u46, zi v2, .ref (w.2.1 + a)] (T, M32, J18, R) := by
                intro u46 h47 h48
                refine q_iconst C dX12_doesNamed_102 (n := 103) rfl ?_
                have hp50 : zGr M32 a 1 := p1.cg (fun j => ((zup_p e33 (by omega) _).trans (hk22.getA rfl rfl rfl))) (fun j => ((zup_p e33 (by omega) _).trans (hk22.getA rfl rfl rfl))) (fun j => ((zup_p e33 (by omega) _).trans (hk22.getA rfl rfl rfl))) (fun j => ((zup_p e33 (by omega) _).trans (hk22.getA rfl rfl rfl))) (fun j => ((zup_p e33 (by omega) _).trans (hk22.getA rfl rfl rfl))) ((zup_p e33 (by omega) _).trans (hk22.getS rfl rfl)) ((zup_p e33 (by omega) _).trans (hk22.getS rfl rfl))
                refine q_callVv C dX12_doesNamed_103 (n := 106) rfl m_X12_657 v_yX12_group (zM0 h0) ⟨by decide, rfl⟩ (c_X12_group (w := w) (J := J18) hI36 hF h0 v2 u46 0 (by have hz51 : M32 a 89 = M a 89 := ((zup_p e33 (by omega) _).trans (hk22.getS rfl rfl)); omega) (by omega) (by omega) (by omega)) (Nat.le_of_ble_eq_true rfl) rfl rfl (Nat.le_of_ble_eq_true rfl) ⟨Nat.le_refl _, Nat.le_refl _⟩ (fun M55 J56  hI57 h58 => ?_)
                obtain ⟨hk59, h52, h53, h54⟩ := h58
                have hK60 := hK37.tr hk59 rfl rfl rfl
                have hz61 : M32 a 89 = M a 89 := ((zup_p e33 (by omega) _).trans (hk22.getS rfl rfl))
                have hp62 : zGr M55 a 0 := hp50.push (fun j => (hk59.getA rfl rfl rfl)) (fun j => (hk59.getA rfl rfl rfl)) (fun j => (hk59.getA rfl rfl rfl)) (fun j => (hk59.getA rfl rfl rfl)) (hk59.getS rfl rfl) h52 h53 h54 (by rw [show M32 a 88 = M a 88 from ((zup_p e33 (by omega) _).trans (hk22.getS rfl rfl)), show M32 (a + 51) (M a 88) = M (a + 51) (M a 88) from ((zup_p e33 (by omega) _).trans (hk22.getA rfl rfl rfl)), show M32 (a + 2) (4 + M (a + 51) (M a 88)) = M (a + 2) (4 + M (a + 51) (M a 88)) from ((zup_p e33 (by omega) _).trans (hk22.getA rfl rfl rfl))]; omega)
                refine q_iconst C dX12_doesNamed_106 (n := 107) rfl ?_
                have hp63 : zMe M55 a := hp35.cg (fun j j0 j1 => (hk59.getA rfl rfl rfl)) (fun j => (hk59.getA rfl rfl rfl))
                exact q_zret C dX12_doesNamed_107 ⟨rfl, rfl⟩ (by omega) (by rw [hPo]; exact ⟨1, M55, J56, rfl, rfl, hI57, hK60, by omega, Or.inr hp62, hp63, (((hk59.getA rfl rfl rfl).trans ((zup_n e33 (by omega)).trans (hk22.getP rfl rfl rfl))))⟩)
              refine q_icmp_ne C 101 dX12_doesNamed_94 (n := 97) rfl rfl (by omega) (fun h64 => ?_) (fun h64 => ?_)
              · refine q_iconst C dX12_doesNamed_101 (n := 102) rfl ?_
                exact zK.weak (J_49 0 (by omega) (by omega)) (zwk_n (zwk_n (zwk_n (zwk_n zwk_e))))
              · refine q_iconst C dX12_doesNamed_97 (n := 98) rfl ?_
                refine q_goto C 102 dX12_doesNamed_98 rfl ?_
                exact zK.weak (J_49 1 (by omega) (by omega)) (zwk_n (zwk_n (zwk_n (zwk_n zwk_e))))
            refine q_icmp_ne C 93 dX12_doesNamed_86 (n := 89) rfl rfl (by omega) (fun h65 => ?_) (fun h65 => ?_)
            · refine q_iconst C dX12_doesNamed_93 (n := 94) rfl ?_
              exact zK.weak (J_45 0 (by omega) (by omega)) (zwk_n (zwk_n (zwk_n (zwk_n zwk_e))))
            · refine q_iconst C dX12_doesNamed_89 (n := 90) rfl ?_
              refine q_goto C 94 dX12_doesNamed_90 rfl ?_
              exact zK.weak (J_45 1 (by omega) (by omega)) (zwk_n (zwk_n (zwk_n (zwk_n zwk_e))))
          refine q_if_lt C 83 dX12_doesNamed_76 (n := 79) rfl rfl (by omega) (fun h66 => ?_) (fun h66 => ?_)
          · refine q_iconst C dX12_doesNamed_83 (n := 84) rfl ?_
            exact zK.weak (J_41 0 (by omega) (by omega)) (zwk_n (zwk_c (zwk_n (zwk_n zwk_e))))
          · refine q_iconst C dX12_doesNamed_79 (n := 80) rfl ?_
            refine q_goto C 84 dX12_doesNamed_80 rfl ?_
            exact zK.weak (J_41 1 (by omega) (by omega)) (zwk_n (zwk_c (zwk_n (zwk_n zwk_e))))
        · refine q_iload_n C dX12_doesNamed_45 (n := 46) rfl rfl ?_
          refine q_if_lt C 60 dX12_doesNamed_46 (n := 49) rfl rfl (by omega) (fun h67 => ?_) (fun h67 => ?_)
          · refine q_iconst C dX12_doesNamed_60 (n := 61) rfl ?_
            have hp68 : zGr M17 a 1 := p1.cg (fun j => (hk22.getA rfl rfl rfl)) (fun j => (hk22.getA rfl rfl rfl)) (fun j => (hk22.getA rfl rfl rfl)) (fun j => (hk22.getA rfl rfl rfl)) (fun j => (hk22.getA rfl rfl rfl)) (hk22.getS rfl rfl) (hk22.getS rfl rfl)
            have hp69 : zMe M17 a := p2.cg (fun j j0 j1 => (hk22.getW rfl rfl (by omega))) (fun j => (hk22.getA rfl rfl rfl))
            exact q_zret C dX12_doesNamed_61 ⟨rfl, rfl⟩ (by omega) (by rw [hPo]; exact ⟨1, M17, J18, rfl, rfl, hI19, hK23, by omega, Or.inr (hp68.weak (by omega)), hp69, ((hk22.getP rfl rfl rfl))⟩)
          · refine q_aload_n C dX12_doesNamed_49 (n := 50) rfl rfl ?_
            refine q_getR C dX12_doesNamed_50 (n := 53) rfl f_X12_68 (zM0 h0) (hF _ _ _ (zM65 h0)) ?_
            refine q_sipush C dX12_doesNamed_53 (n := 56) rfl (x := 187) (by decide) ?_
            refine q_iload_n C dX12_doesNamed_56 (n := 57) rfl rfl ?_
            refine q_iadd C dX12_doesNamed_57 (n := 58) rfl (v := 187 + x26) rfl ?_
            refine q_iconst C dX12_doesNamed_58 (n := 59) rfl ?_
            refine q_iast C dX12_doesNamed_59 (n := 60) rfl (zM66 h0) (by omega)  (fun M70 e71 => ?_)
            have hp72 : zMe M17 a := p2.cg (fun j j0 j1 => (hk22.getW rfl rfl (by omega))) (fun j => (hk22.getA rfl rfl rfl))
            have hp73 : zMe M70 a := hp72.up e71 (by omega)
            have hI74 : zI G M70 := hI19.put e71 (((zM67 h0) (187 + x26)).trans (zwG_187 (by omega))) rfl (by omega)
            have hK75 := hK23.upA e71 rfl
            refine q_iconst C dX12_doesNamed_60 (n := 61) rfl ?_
            have hp76 : zGr M70 a 1 := p1.cg (fun j => ((zup_p e71 (by omega) _).trans (hk22.getA rfl rfl rfl))) (fun j => ((zup_p e71 (by omega) _).trans (hk22.getA rfl rfl rfl))) (fun j => ((zup_p e71 (by omega) _).trans (hk22.getA rfl rfl rfl))) (fun j => ((zup_p e71 (by omega) _).trans (hk22.getA rfl rfl rfl))) (fun j => ((zup_p e71 (by omega) _).trans (hk22.getA rfl rfl rfl))) ((zup_p e71 (by omega) _).trans (hk22.getS rfl rfl)) ((zup_p e71 (by omega) _).trans (hk22.getS rfl rfl))
            exact q_zret C dX12_doesNamed_61 ⟨rfl, rfl⟩ (by omega) (by rw [hPo]; exact ⟨1, M70, J18, rfl, rfl, hI74, hK75, by omega, Or.inr (hp76.weak (by omega)), hp73, (((zup_n e71 (by omega)).trans (hk22.getP rfl rfl rfl)))⟩)
      · refine q_iconst C dX12_doesNamed_32 (n := 33) rfl ?_
        have hp77 : zMe M17 a := p2.cg (fun j j0 j1 => (hk22.getW rfl rfl (by omega))) (fun j => (hk22.getA rfl rfl rfl))
        exact q_zret C dX12_doesNamed_33 ⟨rfl, rfl⟩ (by omega) (by rw [hPo]; exact ⟨0, M17, J18, rfl, rfl, hI19, hK23, by omega, Or.inl rfl, hp77, ((hk22.getP rfl rfl rfl))⟩)
    · exact zK.weak (J_2) (zwk_c (zwk_n (zwk_n (zwk_n zwk_e))))
theorem c_X12_doesGroup {w : zWp} {T : zTl} {M : zMm} {J : zJm} {R : zRm'} {G : zGt} {F : zRm'} {a : Nat} (hI : zI G M) (hF : zF F R) (h0 : zModel T F G a) (v1 : Int) (v2 : Int) (v3 : Int) (p1 : zGr M a 1) (p2 : zMe M a) (p3 : zFi M a) (p4 : 0 ≤ v1 ∧ v1 ≤ 3) (p5 : 0 ≤ v2 ∧ v2 < M (a + 2) (4 + v1) ∧ v2 ≤ 39) (p6 : 2 ≤ v3 ∧ v3 ≤ 4) (p7 : M (a + 53) (M a 88) < M a 89) : zCt w 8 0 0 yX12_doesGroup cX12_doesGroup 5 (some .boolean) [.ref (w.2.1 + a), zi v1, zi v2, zi v3] (T, M, J, R) (zPi T R G (fun x M2 => (zMd a [9, 10, 11, 12, 13, 14, 15, 16, 17, 18, 24, 25, 26, 27, 28, 29, 30, 31, 32, 33, 34, 35, 36, 37, 38, 39, 40, 41, 42, 43, 44, 45, 46, 47, 48, 55, 56, 57] [23, 24, 25, 26, 27, 28, 29, 34, 57, 58, 59, 60, 61, 62, 63, 64, 65, 74, 75, 76, 78, 89] [] M M2) ∧ (x = 0 ∨ x = 1) ∧ (x = 0 ∨ zGr M2 a 0) ∧ (zMe M2 a) ∧ (M2 (a + 18) 3 = M (a + 18) 3))) := by
  refine zCt.of rfl (Nat.le_of_ble_eq_true rfl) ?_
  intro p e s m args below meth c C
  obtain ⟨Po, hPo⟩ : ∃ Po, Po = zPi T R G (fun x M2 => (zMd a [9, 10, 11, 12, 13, 14, 15, 16, 17, 18, 24, 25, 26, 27, 28, 29, 30, 31, 32, 33, 34, 35, 36, 37, 38, 39, 40, 41, 42, 43, 44, 45, 46, 47, 48, 55, 56, 57] [23, 24, 25, 26, 27, 28, 29, 34, 57, 58, 59, 60, 61, 62, 63, 64, 65, 74, 75, 76, 78, 89] [] M M2) ∧ (x = 0 ∨ x = 1) ∧ (x = 0 ∨ zGr M2 a 0) ∧ (zMe M2 a) ∧ (M2 (a + 18) 3 = M (a + 18) 3)) := ⟨_, rfl⟩
  rw [← hPo]
  have hK0 : zMd a [9, 10, 11, 12, 13, 14, 15, 16, 17, 18, 24, 25, 26, 27, 28, 29, 30, 31, 32, 33, 34, 35, 36, 37, 38, 39, 40, 41, 42, 43, 44, 45, 46, 47, 48, 55, 56, 57] [23, 24, 25, 26, 27, 28, 29, 34, 57, 58, 59, 60, 61, 62, 63, 64, 65, 74, 75, 76, 78, 89] [] M M := zMd.rf
  have gk_groups := zI.at hI (zM202 h0)
  have gg := zGr.num p1 rfl
  show zK w p e 8 0 0 s m args below meth c 5 T Po 0 [.ref (w.2.1 + a), zi v1, zi v2, zi v3, .null] [] (T, M, J, R)
  refine q_aload_n C dX12_doesGroup_0 (n := 1) rfl rfl ?_
  have g1 := zI.at hI (zM202 h0)
  refine q_getI C dX12_doesGroup_1 (n := 4) rfl f_X12_642 (zM0 h0) (v := M a 89) rfl ?_
  refine q_iconst C dX12_doesGroup_4 (n := 5) rfl ?_
  refine q_isub C dX12_doesGroup_5 (n := 6) rfl (v := (M a 89) - 1) rfl ?_
  refine q_istore C [.ref (w.2.1 + a), zi v1, zi v2, zi v3, zi ((M a 89) - 1)] dX12_doesGroup_6 (n := 8) rfl rfl rfl ?_
  refine q_iload_n C dX12_doesGroup_8 (n := 9) rfl rfl ?_
  refine q_iconst C dX12_doesGroup_9 (n := 10) rfl ?_
  have J_2 : zK w p e 8 0 0 s m args below meth c 5 T Po 39 [.ref (w.2.1 + a), zi v1, zi v2, zi v3, zi ((M a 89) - 1)] [] (T, M, J, R) := by
    refine q_iload_n C dX12_doesGroup_39 (n := 40) rfl rfl ?_
    refine q_iconst C dX12_doesGroup_40 (n := 41) rfl ?_
    have J_3 : zK w p e 8 0 0 s m args below meth c 5 T Po 71 [.ref (w.2.1 + a), zi v1, zi v2, zi v3, zi ((M a 89) - 1)] [] (T, M, J, R) := by
      refine q_aload_n C dX12_doesGroup_71 (n := 72) rfl rfl ?_
      refine q_iload_n C dX12_doesGroup_72 (n := 73) rfl rfl ?_
      refine q_iload_n C dX12_doesGroup_73 (n := 74) rfl rfl ?_
      refine q_callVi C dX12_doesGroup_74 (n := 77) rfl m_X12_352 v_yX12_lexes (zM0 h0) ⟨by decide, rfl⟩ (c_X12_lexes (w := w) (J := J) hI hF h0 v1 v2 p3 (by omega) (by omega)) (Nat.le_of_ble_eq_true rfl) rfl rfl (Nat.le_of_ble_eq_true rfl) ⟨Nat.le_refl _, Nat.le_refl _⟩ (fun x15 M11 J12  hI13 h14 => ?_)
      obtain ⟨hk16, h4, h5, h6, h7, h8, h9, h10⟩ := h14
      have hK17 := hK0.tr hk16 rfl rfl rfl
      refine q_if_ne C 82 dX12_doesGroup_77 (n := 80) rfl rfl (by omega) (fun h18 => ?_) (fun h18 => ?_)
      · refine q_iload_n C dX12_doesGroup_82 (n := 83) rfl rfl ?_
        refine q_iconst C dX12_doesGroup_83 (n := 84) rfl ?_
        refine q_icmp_ne C 146 dX12_doesGroup_84 (n := 87) rfl rfl (by omega) (fun h19 => ?_) (fun h19 => ?_)
        · refine q_aload_n C dX12_doesGroup_146 (n := 147) rfl rfl ?_
          refine q_iconst C dX12_doesGroup_147 (n := 148) rfl ?_
          refine q_callVi C dX12_doesGroup_148 (n := 151) rfl m_X12_654 v_yX12_isNothing (zM0 h0) ⟨by decide, rfl⟩ (c_X12_isNothing (w := w) (J := J12) hI13 hF h0 2 (by omega)) (Nat.le_of_ble_eq_true rfl) rfl rfl (Nat.le_of_ble_eq_true rfl) ⟨Nat.le_refl _, Nat.le_refl _⟩ (fun x25 M21 J22  hI23 h24 => ?_)
          obtain ⟨hk26, h20⟩ := h24
          have hK27 := hK17.tr hk26 rfl rfl rfl
          refine q_if_ne C 156 dX12_doesGroup_151 (n := 154) rfl rfl (by omega) (fun h28 => ?_) (fun h28 => ?_)
          · refine q_iload_n C dX12_doesGroup_156 (n := 157) rfl rfl ?_
            refine q_iconst C dX12_doesGroup_157 (n := 158) rfl ?_
            refine q_icmp_ne C 196 dX12_doesGroup_158 (n := 161) rfl rfl (by omega) (fun h29 => ?_) (fun h29 => ?_)
            · refine q_aload_n C dX12_doesGroup_196 (n := 197) rfl rfl ?_
              refine q_dup C dX12_doesGroup_197 (n := 198) rfl rfl ?_
              refine q_getI C dX12_doesGroup_198 (n := 201) rfl f_X12_642 (zM0 h0) (v := M a 89) ((hk26.getS rfl rfl).trans (hk16.getS rfl rfl)) ?_
              refine q_iconst C dX12_doesGroup_201 (n := 202) rfl ?_
              refine q_isub C dX12_doesGroup_202 (n := 203) rfl (v := (M a 89) - 1) rfl ?_
              refine q_putI C dX12_doesGroup_203 (n := 206) rfl f_X12_642 (zM0 h0) ⟨rfl, rfl⟩ (fun M30 (e31 : M30 = zup M21 a 89 ((M a 89) - 1)) => ?_)
              have hI32 : zI G M30 := hI23.put e31 (zM202 h0) rfl (by omega)
              have hK33 := hK27.upS e31 rfl
              have hp34 : zGr M21 a 1 := p1.cg (fun j => ((hk26.getA rfl rfl rfl).trans (hk16.getA rfl rfl rfl))) (fun j => ((hk26.getA rfl rfl rfl).trans (hk16.getA rfl rfl rfl))) (fun j => ((hk26.getA rfl rfl rfl).trans (hk16.getA rfl rfl rfl))) (fun j => ((hk26.getA rfl rfl rfl).trans (hk16.getA rfl rfl rfl))) (fun j => ((hk26.getA rfl rfl rfl).trans (hk16.getA rfl rfl rfl))) ((hk26.getS rfl rfl).trans (hk16.getS rfl rfl)) ((hk26.getS rfl rfl).trans (hk16.getS rfl rfl))
              have hp35 : zGr M30 a 1 := hp34.pop (fun j => (zup_p e31 (by omega) _)) (fun j => (zup_p e31 (by omega) _)) (fun j => (zup_p e31 (by omega) _)) (fun j => (zup_p e31 (by omega) _)) (fun j => (zup_p e31 (by omega) _)) (zup_n e31 (by omega)) (by have hw : M30 a 89 = (M a 89) - 1 := (zup_s e31); have hv : M21 a 89 = M a 89 := ((hk26.getS rfl rfl).trans (hk16.getS rfl rfl)); omega) (by rw [show M21 a 88 = M a 88 from ((hk26.getS rfl rfl).trans (hk16.getS rfl rfl)), show M21 (a + 53) (M a 88) = M (a + 53) (M a 88) from ((hk26.getA rfl rfl rfl).trans (hk16.getA rfl rfl rfl)), show M21 a 89 = M a 89 from ((hk26.getS rfl rfl).trans (hk16.getS rfl rfl))]; omega)
              refine q_aload_n C dX12_doesGroup_206 (n := 207) rfl rfl ?_
              refine q_iload_n C dX12_doesGroup_207 (n := 208) rfl rfl ?_
              refine q_iload_n C dX12_doesGroup_208 (n := 209) rfl rfl ?_
              have hp36 : zMe M30 a := p2.cg (fun j j0 j1 => ((zup_p e31 (by omega) _).trans ((hk26.getW rfl rfl (by omega)).trans (hk16.getW rfl rfl (by omega))))) (fun j => ((zup_p e31 (by omega) _).trans ((hk26.getA rfl rfl rfl).trans (hk16.getA rfl rfl rfl))))
              refine q_callVv C dX12_doesGroup_209 (n := 212) rfl m_X12_648 v_yX12_counts (zM0 h0) ⟨by decide, rfl⟩ (c_X12_counts (w := w) (J := J22) hI32 hF h0 v1 v2 (by omega) (by omega) hp36) (Nat.le_of_ble_eq_true rfl) rfl rfl (Nat.le_of_ble_eq_true rfl) ⟨Nat.le_refl _, Nat.le_refl _⟩ (fun M39 J40  hI41 h42 => ?_)
              obtain ⟨hk43, h37, h38⟩ := h42
              have hK44 := hK33.tr hk43 rfl rfl rfl
              have hz45 : M30 (a + 18) 3 = M (a + 18) 3 := ((zup_p e31 (by omega) _).trans ((hk26.getP rfl rfl rfl).trans (hk16.getP rfl rfl rfl)))
              refine q_iconst C dX12_doesGroup_212 (n := 213) rfl ?_
              have hp46 : zGr M39 a 1 := hp35.cg (fun j => (hk43.getA rfl rfl rfl)) (fun j => (hk43.getA rfl rfl rfl)) (fun j => (hk43.getA rfl rfl rfl)) (fun j => (hk43.getA rfl rfl rfl)) (fun j => (hk43.getA rfl rfl rfl)) (hk43.getS rfl rfl) (hk43.getS rfl rfl)
              exact q_zret C dX12_doesGroup_213 ⟨rfl, rfl⟩ (by omega) (by rw [hPo]; exact ⟨1, M39, J40, rfl, rfl, hI41, hK44, by omega, Or.inr (hp46.weak (by omega)), h37, (((h38).trans ((zup_p e31 (by omega) _).trans ((hk26.getP rfl rfl rfl).trans (hk16.getP rfl rfl rfl)))))⟩)
            · refine q_aload_n C dX12_doesGroup_161 (n := 162) rfl rfl ?_
              refine q_getR C dX12_doesGroup_162 (n := 165) rfl f_X12_187 (zM0 h0) (hF _ _ _ (zM195 h0)) ?_
              refine q_iload C dX12_doesGroup_165 (n := 167) rfl rfl ?_
              refine q_iconst C dX12_doesGroup_167 (n := 168) rfl ?_
              refine q_iast C dX12_doesGroup_168 (n := 169) rfl (zM196 h0) (by omega)  (fun M47 e48 => ?_)
              have hI49 : zI G M47 := hI23.put e48 ((zM197 h0) ((M a 89) - 1)) rfl (by omega)
              have hK50 := hK27.upA e48 rfl
              refine q_aload_n C dX12_doesGroup_169 (n := 170) rfl rfl ?_
              refine q_getR C dX12_doesGroup_170 (n := 173) rfl f_X12_184 (zM0 h0) (hF _ _ _ (zM192 h0)) ?_
              refine q_iload C dX12_doesGroup_173 (n := 175) rfl rfl ?_
              refine q_iconst C dX12_doesGroup_175 (n := 176) rfl ?_
              refine q_aload_n C dX12_doesGroup_176 (n := 177) rfl rfl ?_
              refine q_getR C dX12_doesGroup_177 (n := 180) rfl f_X12_181 (zM0 h0) (hF _ _ _ (zM189 h0)) ?_
              refine q_iload C dX12_doesGroup_180 (n := 182) rfl rfl ?_
              have g51 := zI.at hI ((zM191 h0) ((M a 89) - 1))
              refine q_iald C dX12_doesGroup_182 (n := 183) rfl (zM190 h0) (by omega) (v := M (a + 55) ((M a 89) - 1)) ((zup_p e48 (by omega) _).trans ((hk26.getA rfl rfl rfl).trans (hk16.getA rfl rfl rfl))) ?_
              refine q_isub C dX12_doesGroup_183 (n := 184) rfl (v := 1 - (M (a + 55) ((M a 89) - 1))) rfl ?_
              refine q_iast C dX12_doesGroup_184 (n := 185) rfl (zM193 h0) (by omega)  (fun M52 e53 => ?_)
              have hI54 : zI G M52 := hI49.put e53 ((zM194 h0) ((M a 89) - 1)) rfl (by omega)
              have hK55 := hK50.upA e53 rfl
              refine q_aload_n C dX12_doesGroup_185 (n := 186) rfl rfl ?_
              refine q_getR C dX12_doesGroup_186 (n := 189) rfl f_X12_181 (zM0 h0) (hF _ _ _ (zM189 h0)) ?_
              refine q_iload C dX12_doesGroup_189 (n := 191) rfl rfl ?_
              refine q_iconst C dX12_doesGroup_191 (n := 192) rfl ?_
              refine q_iast C dX12_doesGroup_192 (n := 193) rfl (zM190 h0) (by omega)  (fun M56 e57 => ?_)
              have hI58 : zI G M56 := hI54.put e57 ((zM191 h0) ((M a 89) - 1)) rfl (by omega)
              have hK59 := hK55.upA e57 rfl
              refine q_goto C 206 dX12_doesGroup_193 rfl ?_
              refine q_aload_n C dX12_doesGroup_206 (n := 207) rfl rfl ?_
              refine q_iload_n C dX12_doesGroup_207 (n := 208) rfl rfl ?_
              refine q_iload_n C dX12_doesGroup_208 (n := 209) rfl rfl ?_
              have hp60 : zMe M56 a := p2.cg (fun j j0 j1 => ((zup_p e57 (by omega) _).trans ((zup_p e53 (by omega) _).trans ((zup_p e48 (by omega) _).trans ((hk26.getW rfl rfl (by omega)).trans (hk16.getW rfl rfl (by omega))))))) (fun j => ((zup_p e57 (by omega) _).trans ((zup_p e53 (by omega) _).trans ((zup_p e48 (by omega) _).trans ((hk26.getA rfl rfl rfl).trans (hk16.getA rfl rfl rfl))))))
              refine q_callVv C dX12_doesGroup_209 (n := 212) rfl m_X12_648 v_yX12_counts (zM0 h0) ⟨by decide, rfl⟩ (c_X12_counts (w := w) (J := J22) hI58 hF h0 v1 v2 (by omega) (by omega) hp60) (Nat.le_of_ble_eq_true rfl) rfl rfl (Nat.le_of_ble_eq_true rfl) ⟨Nat.le_refl _, Nat.le_refl _⟩ (fun M63 J64  hI65 h66 => ?_)
              obtain ⟨hk67, h61, h62⟩ := h66
              have hK68 := hK59.tr hk67 rfl rfl rfl
              have hz69 : M56 (a + 18) 3 = M (a + 18) 3 := ((zup_p e57 (by omega) _).trans ((zup_p e53 (by omega) _).trans ((zup_p e48 (by omega) _).trans ((hk26.getP rfl rfl rfl).trans (hk16.getP rfl rfl rfl)))))
              refine q_iconst C dX12_doesGroup_212 (n := 213) rfl ?_
              have hp70 : zGr M63 a 1 := p1.cg (fun j => ((hk67.getA rfl rfl rfl).trans ((zup_p e57 (by omega) _).trans ((zup_p e53 (by omega) _).trans ((zup_p e48 (by omega) _).trans ((hk26.getA rfl rfl rfl).trans (hk16.getA rfl rfl rfl))))))) (fun j => ((hk67.getA rfl rfl rfl).trans ((zup_p e57 (by omega) _).trans ((zup_p e53 (by omega) _).trans ((zup_p e48 (by omega) _).trans ((hk26.getA rfl rfl rfl).trans (hk16.getA rfl rfl rfl))))))) (fun j => ((hk67.getA rfl rfl rfl).trans ((zup_p e57 (by omega) _).trans ((zup_p e53 (by omega) _).trans ((zup_p e48 (by omega) _).trans ((hk26.getA rfl rfl rfl).trans (hk16.getA rfl rfl rfl))))))) (fun j => ((hk67.getA rfl rfl rfl).trans ((zup_p e57 (by omega) _).trans ((zup_p e53 (by omega) _).trans ((zup_p e48 (by omega) _).trans ((hk26.getA rfl rfl rfl).trans (hk16.getA rfl rfl rfl))))))) (fun j => ((hk67.getA rfl rfl rfl).trans ((zup_p e57 (by omega) _).trans ((zup_p e53 (by omega) _).trans ((zup_p e48 (by omega) _).trans ((hk26.getA rfl rfl rfl).trans (hk16.getA rfl rfl rfl))))))) ((hk67.getS rfl rfl).trans ((zup_p e57 (by omega) _).trans ((zup_p e53 (by omega) _).trans ((zup_p e48 (by omega) _).trans ((hk26.getS rfl rfl).trans (hk16.getS rfl rfl)))))) ((hk67.getS rfl rfl).trans ((zup_p e57 (by omega) _).trans ((zup_p e53 (by omega) _).trans ((zup_p e48 (by omega) _).trans ((hk26.getS rfl rfl).trans (hk16.getS rfl rfl))))))
              exact q_zret C dX12_doesGroup_213 ⟨rfl, rfl⟩ (by omega) (by rw [hPo]; exact ⟨1, M63, J64, rfl, rfl, hI65, hK68, by omega, Or.inr (hp70.weak (by omega)), h61, (((h62).trans ((zup_p e57 (by omega) _).trans ((zup_p e53 (by omega) _).trans ((zup_p e48 (by omega) _).trans ((hk26.getP rfl rfl rfl).trans (hk16.getP rfl rfl rfl)))))))⟩)
          · refine q_iconst C dX12_doesGroup_154 (n := 155) rfl ?_
            have hp71 : zMe M21 a := p2.cg (fun j j0 j1 => ((hk26.getW rfl rfl (by omega)).trans (hk16.getW rfl rfl (by omega)))) (fun j => ((hk26.getA rfl rfl rfl).trans (hk16.getA rfl rfl rfl)))
            exact q_zret C dX12_doesGroup_155 ⟨rfl, rfl⟩ (by omega) (by rw [hPo]; exact ⟨0, M21, J22, rfl, rfl, hI23, hK27, by omega, Or.inl rfl, hp71, (((hk26.getP rfl rfl rfl).trans (hk16.getP rfl rfl rfl)))⟩)
        · refine q_aload_n C dX12_doesGroup_87 (n := 88) rfl rfl ?_
          refine q_iconst C dX12_doesGroup_88 (n := 89) rfl ?_
          have hp72 : zMe M11 a := p2.cg (fun j j0 j1 => (hk16.getW rfl rfl (by omega))) (fun j => (hk16.getA rfl rfl rfl))
          obtain ⟨mbq73, mpq73, hmaq73⟩ := hp72
          have hp74 : zOg M11 a (M11 (a + 10)) (M11 (a + 11)) := fun t _ => ⟨rfl, rfl⟩
          refine q_callVi C dX12_doesGroup_89 (n := 92) rfl m_X12_651 v_yX12_conditions (zM0 h0) ⟨by decide, rfl⟩ (c_X12_conditions (w := w) (J := J12) hI13 hF h0 2 hp74 hmaq73 h10 (by omega) (by omega)) (Nat.le_of_ble_eq_true rfl) rfl rfl (Nat.le_of_ble_eq_true rfl) ⟨Nat.le_refl _, Nat.le_refl _⟩ (fun x83 M79 J80  hI81 h82 => ?_)
          obtain ⟨hk84, h75, h76, h77, h78⟩ := h82
          have hK85 := hK17.tr hk84 rfl rfl rfl
          have hz86 : M11 (a + 18) 3 = M (a + 18) 3 := (hk16.getP rfl rfl rfl)
          refine q_if_ne C 97 dX12_doesGroup_92 (n := 95) rfl rfl (by omega) (fun h87 => ?_) (fun h87 => ?_)
          · refine q_aload_n C dX12_doesGroup_97 (n := 98) rfl rfl ?_
            refine q_getR C dX12_doesGroup_98 (n := 101) rfl f_X12_68 (zM0 h0) (hF _ _ _ (zM65 h0)) ?_
            refine q_bipush C dX12_doesGroup_101 (n := 103) rfl (x := 9) (by decide) ?_
            refine q_dup2 C dX12_doesGroup_103 (n := 104) rfl ⟨rfl, rfl⟩ ?_
            have g88 := zI.at hI81 (((zM67 h0) 9).trans (zwG_1 (by omega)))
            refine q_iald C dX12_doesGroup_104 (n := 105) rfl (zM66 h0) (by omega) (v := M79 (a + 18) 9) rfl ?_
            refine q_iconst C dX12_doesGroup_105 (n := 106) rfl ?_
            refine q_iadd C dX12_doesGroup_106 (n := 107) rfl (v := (M79 (a + 18) 9) + 1) rfl ?_
            refine q_wrap C ?_
            have g89 := zr_wr ((M79 (a + 18) 9) + 1)
            refine q_iast C dX12_doesGroup_107 (n := 108) rfl (zM66 h0) (by omega)  (fun M90 e91 => ?_)
            have hp92 : zMa M90 a mbq73 mpq73 := h77.up e91 (by omega)
            have hI93 : zI G M90 := hI81.put e91 (((zM67 h0) 9).trans (zwG_1 (by omega))) rfl (by omega)
            have hK94 := hK85.upA e91 rfl
            refine q_aload_n C dX12_doesGroup_108 (n := 109) rfl rfl ?_
            refine q_getR C dX12_doesGroup_109 (n := 112) rfl f_X12_184 (zM0 h0) (hF _ _ _ (zM192 h0)) ?_
            refine q_iload C dX12_doesGroup_112 (n := 114) rfl rfl ?_
            refine q_aload_n C dX12_doesGroup_114 (n := 115) rfl rfl ?_
            refine q_getL C dX12_doesGroup_115 (n := 118) rfl f_X12_627 (zM0 h0) (fun l95 => ?_)
            refine q_lconst C dX12_doesGroup_118 (n := 119) rfl ?_
            refine q_lcmp C dX12_doesGroup_119 (n := 120) rfl (fun z96 h97 => ?_)
            have J_101 : ∀ (u98 : Int), (-2147483648 ≤ u98 ∧ u98 ≤ 2147483647) → (u98 = 0 ∨ u98 = 1) → zK w p e 8 0 0 s m args below meth c 5 T Po 128 [.ref (w.2.1 + a), zi v1, zi v2, .null, zi ((M a 89) - 1)] [zi u98, zi ((M a 89) - 1), .ref (w.2.1 + (a + 56))] (T, M90, J80, R) := by
              intro u98 h99 h100
              refine q_iast C dX12_doesGroup_128 (n := 129) rfl (zM193 h0) (by omega)  (fun M102 e103 => ?_)
              have hI104 : zI G M102 := hI93.put e103 ((zM194 h0) ((M a 89) - 1)) rfl (by omega)
              have hK105 := hK94.upA e103 rfl
              refine q_aload_n C dX12_doesGroup_129 (n := 130) rfl rfl ?_
              refine q_getR C dX12_doesGroup_130 (n := 133) rfl f_X12_181 (zM0 h0) (hF _ _ _ (zM189 h0)) ?_
              refine q_iload C dX12_doesGroup_133 (n := 135) rfl rfl ?_
              refine q_aload_n C dX12_doesGroup_135 (n := 136) rfl rfl ?_
              refine q_getR C dX12_doesGroup_136 (n := 139) rfl f_X12_184 (zM0 h0) (hF _ _ _ (zM192 h0)) ?_
              refine q_iload C dX12_doesGroup_139 (n := 141) rfl rfl ?_
              refine q_iald C dX12_doesGroup_141 (n := 142) rfl (zM193 h0) (by omega) (v := u98) (zup_s e103) ?_
              refine q_iast C dX12_doesGroup_142 (n := 143) rfl (zM190 h0) (by omega)  (fun M106 e107 => ?_)
              have hI108 : zI G M106 := hI104.put e107 ((zM191 h0) ((M a 89) - 1)) rfl (by omega)
              have hK109 := hK105.upA e107 rfl
              refine q_goto C 206 dX12_doesGroup_143 rfl ?_
              refine q_aload_n C dX12_doesGroup_206 (n := 207) rfl rfl ?_
              refine q_iload_n C dX12_doesGroup_207 (n := 208) rfl rfl ?_
              refine q_iload_n C dX12_doesGroup_208 (n := 209) rfl rfl ?_
              have hp110 : zMa M106 a mbq73 mpq73 := hp92.cg (fun j j0 j1 => ((zup_p e107 (by omega) _).trans (zup_p e103 (by omega) _))) (fun j => ((zup_p e107 (by omega) _).trans (zup_p e103 (by omega) _)))
              have hp111 : zMe M106 a := ⟨_, _, hp110⟩
              refine q_callVv C dX12_doesGroup_209 (n := 212) rfl m_X12_648 v_yX12_counts (zM0 h0) ⟨by decide, rfl⟩ (c_X12_counts (w := w) (J := J80) hI108 hF h0 v1 v2 (by omega) (by omega) hp111) (Nat.le_of_ble_eq_true rfl) rfl rfl (Nat.le_of_ble_eq_true rfl) ⟨Nat.le_refl _, Nat.le_refl _⟩ (fun M114 J115  hI116 h117 => ?_)
              obtain ⟨hk118, h112, h113⟩ := h117
              have hK119 := hK109.tr hk118 rfl rfl rfl
              have hz120 : M106 (a + 18) 3 = M (a + 18) 3 := ((zup_p e107 (by omega) _).trans ((zup_p e103 (by omega) _).trans ((zup_n e91 (by omega)).trans ((h78).trans (hk16.getP rfl rfl rfl)))))
              refine q_iconst C dX12_doesGroup_212 (n := 213) rfl ?_
              have hp121 : zGr M114 a 1 := p1.cg (fun j => ((hk118.getA rfl rfl rfl).trans ((zup_p e107 (by omega) _).trans ((zup_p e103 (by omega) _).trans ((zup_p e91 (by omega) _).trans ((hk84.getA rfl rfl rfl).trans (hk16.getA rfl rfl rfl))))))) (fun j => ((hk118.getA rfl rfl rfl).trans ((zup_p e107 (by omega) _).trans ((zup_p e103 (by omega) _).trans ((zup_p e91 (by omega) _).trans ((hk84.getA rfl rfl rfl).trans (hk16.getA rfl rfl rfl))))))) (fun j => ((hk118.getA rfl rfl rfl).trans ((zup_p e107 (by omega) _).trans ((zup_p e103 (by omega) _).trans ((zup_p e91 (by omega) _).trans ((hk84.getA rfl rfl rfl).trans (hk16.getA rfl rfl rfl))))))) (fun j => ((hk118.getA rfl rfl rfl).trans ((zup_p e107 (by omega) _).trans ((zup_p e103 (by omega) _).trans ((zup_p e91 (by omega) _).trans ((hk84.getA rfl rfl rfl).trans (hk16.getA rfl rfl rfl))))))) (fun j => ((hk118.getA rfl rfl rfl).trans ((zup_p e107 (by omega) _).trans ((zup_p e103 (by omega) _).trans ((zup_p e91 (by omega) _).trans ((hk84.getA rfl rfl rfl).trans (hk16.getA rfl rfl rfl))))))) ((hk118.getS rfl rfl).trans ((zup_p e107 (by omega) _).trans ((zup_p e103 (by omega) _).trans ((zup_p e91 (by omega) _).trans ((hk84.getS rfl rfl).trans (hk16.getS rfl rfl)))))) ((hk118.getS rfl rfl).trans ((zup_p e107 (by omega) _).trans ((zup_p e103 (by omega) _).trans ((zup_p e91 (by omega) _).trans ((hk84.getS rfl rfl).trans (hk16.getS rfl rfl))))))
              exact q_zret C dX12_doesGroup_213 ⟨rfl, rfl⟩ (by omega) (by rw [hPo]; exact ⟨1, M114, J115, rfl, rfl, hI116, hK119, by omega, Or.inr (hp121.weak (by omega)), h112, (((h113).trans ((zup_p e107 (by omega) _).trans ((zup_p e103 (by omega) _).trans ((zup_n e91 (by omega)).trans ((h78).trans (hk16.getP rfl rfl rfl)))))))⟩)
            refine q_if_eq C 127 dX12_doesGroup_120 (n := 123) rfl rfl (by omega) (fun h122 => ?_) (fun h122 => ?_)
            · refine q_iconst C dX12_doesGroup_127 (n := 128) rfl ?_
              exact zK.weak (J_101 0 (by omega) (by omega)) (zwk_c (zwk_c (zwk_c (zwk_n (zwk_c zwk_e)))))
            · refine q_iconst C dX12_doesGroup_123 (n := 124) rfl ?_
              refine q_goto C 128 dX12_doesGroup_124 rfl ?_
              exact zK.weak (J_101 1 (by omega) (by omega)) (zwk_c (zwk_c (zwk_c (zwk_n (zwk_c zwk_e)))))
          · refine q_iconst C dX12_doesGroup_95 (n := 96) rfl ?_
            have hp123 : zMe M79 a := ⟨_, _, h77⟩
            exact q_zret C dX12_doesGroup_96 ⟨rfl, rfl⟩ (by omega) (by rw [hPo]; exact ⟨0, M79, J80, rfl, rfl, hI81, hK85, by omega, Or.inl rfl, hp123, (((h78).trans (hk16.getP rfl rfl rfl)))⟩)
      · refine q_iconst C dX12_doesGroup_80 (n := 81) rfl ?_
        have hp124 : zMe M11 a := p2.cg (fun j j0 j1 => (hk16.getW rfl rfl (by omega))) (fun j => (hk16.getA rfl rfl rfl))
        exact q_zret C dX12_doesGroup_81 ⟨rfl, rfl⟩ (by omega) (by rw [hPo]; exact ⟨0, M11, J12, rfl, rfl, hI13, hK17, by omega, Or.inl rfl, hp124, ((hk16.getP rfl rfl rfl))⟩)
    refine q_icmp_ne C 71 dX12_doesGroup_41 (n := 44) rfl rfl (by omega) (fun h125 => ?_) (fun h125 => ?_)
    · exact zK.weak (J_3) (zwk_c (zwk_c (zwk_c (zwk_c (zwk_c zwk_e)))))
    · refine q_aload_n C dX12_doesGroup_44 (n := 45) rfl rfl ?_
      refine q_getR C dX12_doesGroup_45 (n := 48) rfl f_X12_181 (zM0 h0) (hF _ _ _ (zM189 h0)) ?_
      refine q_iload C dX12_doesGroup_48 (n := 50) rfl rfl ?_
      have g126 := zI.at hI ((zM191 h0) ((M a 89) - 1))
      refine q_iald C dX12_doesGroup_50 (n := 51) rfl (zM190 h0) (by omega) (v := M (a + 55) ((M a 89) - 1)) rfl ?_
      refine q_iconst C dX12_doesGroup_51 (n := 52) rfl ?_
      refine q_icmp_ne C 71 dX12_doesGroup_52 (n := 55) rfl rfl (by omega) (fun h127 => ?_) (fun h127 => ?_)
      · exact zK.weak (J_3) (zwk_c (zwk_c (zwk_c (zwk_c (zwk_c zwk_e)))))
      · refine q_aload_n C dX12_doesGroup_55 (n := 56) rfl rfl ?_
        refine q_getR C dX12_doesGroup_56 (n := 59) rfl f_X12_184 (zM0 h0) (hF _ _ _ (zM192 h0)) ?_
        refine q_iload C dX12_doesGroup_59 (n := 61) rfl rfl ?_
        refine q_iconst C dX12_doesGroup_61 (n := 62) rfl ?_
        refine q_iast C dX12_doesGroup_62 (n := 63) rfl (zM193 h0) (by omega)  (fun M128 e129 => ?_)
        have hI130 : zI G M128 := hI.put e129 ((zM194 h0) ((M a 89) - 1)) rfl (by omega)
        have hK131 := hK0.upA e129 rfl
        refine q_aload_n C dX12_doesGroup_63 (n := 64) rfl rfl ?_
        refine q_iload_n C dX12_doesGroup_64 (n := 65) rfl rfl ?_
        refine q_iload_n C dX12_doesGroup_65 (n := 66) rfl rfl ?_
        have hp132 : zMe M128 a := p2.cg (fun j j0 j1 => (zup_p e129 (by omega) _)) (fun j => (zup_p e129 (by omega) _))
        refine q_callVv C dX12_doesGroup_66 (n := 69) rfl m_X12_648 v_yX12_counts (zM0 h0) ⟨by decide, rfl⟩ (c_X12_counts (w := w) (J := J) hI130 hF h0 v1 v2 (by omega) (by omega) hp132) (Nat.le_of_ble_eq_true rfl) rfl rfl (Nat.le_of_ble_eq_true rfl) ⟨Nat.le_refl _, Nat.le_refl _⟩ (fun M135 J136  hI137 h138 => ?_)
        obtain ⟨hk139, h133, h134⟩ := h138
        have hK140 := hK131.tr hk139 rfl rfl rfl
        have hz141 : M128 (a + 18) 3 = M (a + 18) 3 := (zup_p e129 (by omega) _)
        refine q_iconst C dX12_doesGroup_69 (n := 70) rfl ?_
        have hp142 : zGr M135 a 1 := p1.cg (fun j => ((hk139.getA rfl rfl rfl).trans (zup_p e129 (by omega) _))) (fun j => ((hk139.getA rfl rfl rfl).trans (zup_p e129 (by omega) _))) (fun j => ((hk139.getA rfl rfl rfl).trans (zup_p e129 (by omega) _))) (fun j => ((hk139.getA rfl rfl rfl).trans (zup_p e129 (by omega) _))) (fun j => ((hk139.getA rfl rfl rfl).trans (zup_p e129 (by omega) _))) ((hk139.getS rfl rfl).trans (zup_p e129 (by omega) _)) ((hk139.getS rfl rfl).trans (zup_p e129 (by omega) _))
        exact q_zret C dX12_doesGroup_70 ⟨rfl, rfl⟩ (by omega) (by rw [hPo]; exact ⟨1, M135, J136, rfl, rfl, hI137, hK140, by omega, Or.inr (hp142.weak (by omega)), h133, (((h134).trans (zup_p e129 (by omega) _)))⟩)
  refine q_icmp_ge C 39 dX12_doesGroup_10 (n := 13) rfl rfl (by omega) (fun h143 => ?_) (fun h143 => ?_)
  · exact zK.weak (J_2) (zwk_c (zwk_c (zwk_c (zwk_c (zwk_c zwk_e)))))
  · refine q_aload_n C dX12_doesGroup_13 (n := 14) rfl rfl ?_
    refine q_getR C dX12_doesGroup_14 (n := 17) rfl f_X12_187 (zM0 h0) (hF _ _ _ (zM195 h0)) ?_
    refine q_iload C dX12_doesGroup_17 (n := 19) rfl rfl ?_
    have g144 := zI.at hI ((zM197 h0) ((M a 89) - 1))
    refine q_iald C dX12_doesGroup_19 (n := 20) rfl (zM196 h0) (by omega) (v := M (a + 57) ((M a 89) - 1)) rfl ?_
    refine q_iconst C dX12_doesGroup_20 (n := 21) rfl ?_
    refine q_icmp_ne C 39 dX12_doesGroup_21 (n := 24) rfl rfl (by omega) (fun h145 => ?_) (fun h145 => ?_)
    · exact zK.weak (J_2) (zwk_c (zwk_c (zwk_c (zwk_c (zwk_c zwk_e)))))
    · refine q_aload_n C dX12_doesGroup_24 (n := 25) rfl rfl ?_
      refine q_bipush C dX12_doesGroup_25 (n := 27) rfl (x := 10) (by decide) ?_
      refine q_iload_n C dX12_doesGroup_27 (n := 28) rfl rfl ?_
      refine q_iload_n C dX12_doesGroup_28 (n := 29) rfl rfl ?_
      refine q_aload_n C dX12_doesGroup_29 (n := 30) rfl rfl ?_
      refine q_iload_n C dX12_doesGroup_30 (n := 31) rfl rfl ?_
      refine q_iload_n C dX12_doesGroup_31 (n := 32) rfl rfl ?_
      refine q_callVp C dX12_doesGroup_32 (n := 35) rfl m_X12_330 v_yX12_hashOf (zM0 h0) ⟨by decide, rfl⟩ (c_X12_hashOf (w := w) (J := J) hI hF h0 v1 v2 p3 (by omega) (by omega)) (Nat.le_of_ble_eq_true rfl) rfl rfl (Nat.le_of_ble_eq_true rfl) ⟨Nat.le_refl _, Nat.le_refl _⟩ (fun x148 h149 => ?_)
      obtain ⟨h146, h147⟩ := h149
      refine q_callVi C dX12_doesGroup_35 (n := 38) rfl m_X12_373 v_yX12_bad (zM0 h0) ⟨by decide, rfl⟩ (c_X12_bad (w := w) (J := J) hI hF h0 10 v1 v2 x148 (by omega) (by omega) (by omega) (by omega)) (Nat.le_of_ble_eq_true rfl) rfl rfl (Nat.le_of_ble_eq_true rfl) ⟨Nat.le_refl _, Nat.le_refl _⟩ (fun x156 M152 J153  hI154 h155 => ?_)
      obtain ⟨hk157, h150, h151⟩ := h155
      have hK158 := hK0.tr hk157 rfl rfl rfl
      have hp159 : zMe M152 a := p2.cg (fun j j0 j1 => (hk157.getW rfl rfl (by omega))) (fun j => (hk157.getA rfl rfl rfl))
      exact q_zret C dX12_doesGroup_38 ⟨rfl, rfl⟩ (by omega) (by rw [hPo]; exact ⟨x156, M152, J153, rfl, rfl, hI154, hK158, by omega, Or.inl (by omega), hp159, ((hk157.getP rfl rfl rfl))⟩)
