theorem c_X12_doesLine {w : zWp} {T : zTl} {M : zMm} {J : zJm} {R : zRm'} {G : zGt} {F : zRm'} {a : Nat} (hI : zI G M) (hF : zF F R) (h0 : zModel T F G a) (v1 : Int) (v2 : Int) (p1 : zGr M a 1) (p2 : zMe M a) (p3 : zFi M a) (p4 : 0 ≤ v1 ∧ v1 ≤ 3) (p5 : 0 ≤ v2 ∧ v2 < M (a + 2) (4 + v1) ∧ v2 ≤ 39) (p6 : M (a + 51) (M a 88) = v1) (p7 : 0 ≤ M (a + 18) 3 ∧ M (a + 18) 3 ≤ 12) (p8 : 0 ≤ M a 99 ∧ M a 99 ≤ 300 ∧ M a 100 ≤ 30 * M a 99) : zCt w 9 0 0 yX12_doesLine cX12_doesLine 6 (some .boolean) [.ref (w.2.1 + a), zi v1, zi v2] (T, M, J, R) (zPi T R G (fun x M2 => (zMd a [9, 10, 11, 12, 13, 14, 15, 16, 17, 18, 20, 22, 23, 24, 25, 26, 27, 28, 29, 30, 31, 32, 33, 34, 35, 36, 37, 38, 39, 40, 41, 42, 43, 44, 45, 46, 47, 48, 51, 52, 53, 54, 55, 56, 57, 58, 59, 60, 61, 62, 63, 64, 65, 66, 67] [11, 23, 24, 25, 26, 27, 28, 29, 34, 37, 57, 58, 59, 60, 61, 62, 63, 64, 65, 74, 75, 76, 78, 88, 89, 99, 100, 101] [] M M2) ∧ (x = 0 ∨ x = 1) ∧ (x = 0 ∨ zGr M2 a 0) ∧ (zMe M2 a) ∧ (0 ≤ M2 (a + 18) 3 ∧ M2 (a + 18) 3 ≤ 12) ∧ (0 ≤ M2 a 99 ∧ M2 a 99 ≤ 300 ∧ M2 a 100 ≤ 30 * M2 a 99) ∧ (x = 0 ∨ zRu M2 a ≤ zRu M a))) := by
  refine zCt.of rfl (Nat.le_of_ble_eq_true rfl) ?_
  intro p e s m args below meth c C
  obtain ⟨Po, hPo⟩ : ∃ Po, Po = zPi T R G (fun x M2 => (zMd a [9, 10, 11, 12, 13, 14, 15, 16, 17, 18, 20, 22, 23, 24, 25, 26, 27, 28, 29, 30, 31, 32, 33, 34, 35, 36, 37, 38, 39, 40, 41, 42, 43, 44, 45, 46, 47, 48, 51, 52, 53, 54, 55, 56, 57, 58, 59, 60, 61, 62, 63, 64, 65, 66, 67] [11, 23, 24, 25, 26, 27, 28, 29, 34, 37, 57, 58, 59, 60, 61, 62, 63, 64, 65, 74, 75, 76, 78, 88, 89, 99, 100, 101] [] M M2) ∧ (x = 0 ∨ x = 1) ∧ (x = 0 ∨ zGr M2 a 0) ∧ (zMe M2 a) ∧ (0 ≤ M2 (a + 18) 3 ∧ M2 (a + 18) 3 ≤ 12) ∧ (0 ≤ M2 a 99 ∧ M2 a 99 ≤ 300 ∧ M2 a 100 ≤ 30 * M2 a 99) ∧ (x = 0 ∨ zRu M2 a ≤ zRu M a)) := ⟨_, rfl⟩
  rw [← hPo]
  have hK0 : zMd a [9, 10, 11, 12, 13, 14, 15, 16, 17, 18, 20, 22, 23, 24, 25, 26, 27, 28, 29, 30, 31, 32, 33, 34, 35, 36, 37, 38, 39, 40, 41, 42, 43, 44, 45, 46, 47, 48, 51, 52, 53, 54, 55, 56, 57, 58, 59, 60, 61, 62, 63, 64, 65, 66, 67] [11, 23, 24, 25, 26, 27, 28, 29, 34, 37, 57, 58, 59, 60, 61, 62, 63, 64, 65, 74, 75, 76, 78, 88, 89, 99, 100, 101] [] M M := zMd.rf
  have gk_groups := zI.at hI (zM202 h0)
  have gk_deep := zI.at hI (zM201 h0)
  have gg := zGr.num p1 rfl
  have hlv : v2 < M (a + 2) (4 + M (a + 51) (M a 88)) := by rw [p6]; omega
  show zK w p e 9 0 0 s m args below meth c 6 T Po 0 [.ref (w.2.1 + a), zi v1, zi v2, .null, .null, .null] [] (T, M, J, R)
  refine q_aload_n C dX12_doesLine_0 (n := 1) rfl rfl ?_
  refine q_iload_n C dX12_doesLine_1 (n := 2) rfl rfl ?_
  refine q_iload_n C dX12_doesLine_2 (n := 3) rfl rfl ?_
  refine q_callVp C dX12_doesLine_3 (n := 6) rfl m_X12_337 v_yX12_roleOf (zM0 h0) ⟨by decide, rfl⟩ (c_X12_roleOf (w := w) (J := J) hI hF h0 v1 v2 p3 (by omega) (by omega)) (Nat.le_of_ble_eq_true rfl) rfl rfl (Nat.le_of_ble_eq_true rfl) ⟨Nat.le_refl _, Nat.le_refl _⟩ (fun x2 h3 => ?_)
  refine q_istore_n C [.ref (w.2.1 + a), zi v1, zi v2, zi x2, .null, .null] dX12_doesLine_6 (n := 7) rfl rfl rfl ?_
  refine q_aload_n C dX12_doesLine_7 (n := 8) rfl rfl ?_
  refine q_callVp C dX12_doesLine_8 (n := 11) rfl m_X12_679 v_yX12_isInside (zM0 h0) ⟨by decide, rfl⟩ (c_X12_isInside (w := w) (J := J) hI hF h0 (M a 88) (by omega) (by omega)) (Nat.le_of_ble_eq_true rfl) rfl rfl (Nat.le_of_ble_eq_true rfl) ⟨Nat.le_refl _, Nat.le_refl _⟩ (fun x7 h8 => ?_)
  obtain ⟨h4, h5, h6⟩ := h8
  refine q_istore C [.ref (w.2.1 + a), zi v1, zi v2, zi x2, zi x7, .null] dX12_doesLine_11 (n := 13) rfl rfl rfl ?_
  refine q_iload_n C dX12_doesLine_13 (n := 14) rfl rfl ?_
  refine q_iconst C dX12_doesLine_14 (n := 15) rfl ?_
  have J_10 : (x2 ≤ 1 ∨ ¬ x7 = 0) → zK w p e 9 0 0 s m args below meth c 6 T Po 38 [.ref (w.2.1 + a), zi v1, zi v2, zi x2, zi x7, .null] [] (T, M, J, R) := by
    intro h9
    refine q_iload C dX12_doesLine_38 (n := 40) rfl rfl ?_
    have J_12 : (¬ x7 = 0) → zK w p e 9 0 0 s m args below meth c 6 T Po 82 [.ref (w.2.1 + a), .null, zi v2, zi x2, .null, .null] [] (T, M, J, R) := by
      intro h11
      refine q_aload_n C dX12_doesLine_82 (n := 83) rfl rfl ?_
      refine q_getR C dX12_doesLine_83 (n := 86) rfl f_X12_68 (zM0 h0) (hF _ _ _ (zM65 h0)) ?_
      refine q_iconst C dX12_doesLine_86 (n := 87) rfl ?_
      refine q_dup2 C dX12_doesLine_87 (n := 88) rfl ⟨rfl, rfl⟩ ?_
      have g13 := zI.at hI (((zM67 h0) 2).trans (zwG_1 (by omega)))
      refine q_iald C dX12_doesLine_88 (n := 89) rfl (zM66 h0) (by omega) (v := M (a + 18) 2) rfl ?_
      refine q_iconst C dX12_doesLine_89 (n := 90) rfl ?_
      refine q_iadd C dX12_doesLine_90 (n := 91) rfl (v := (M (a + 18) 2) + 1) rfl ?_
      refine q_wrap C ?_
      have g14 := zr_wr ((M (a + 18) 2) + 1)
      refine q_iast C dX12_doesLine_91 (n := 92) rfl (zM66 h0) (by omega)  (fun M15 e16 => ?_)
      have hp17 : zMe M15 a := p2.up e16 (by omega)
      have hI18 : zI G M15 := hI.put e16 (((zM67 h0) 2).trans (zwG_1 (by omega))) rfl (by omega)
      have hK19 := hK0.upA e16 rfl
      refine q_iload_n C dX12_doesLine_92 (n := 93) rfl rfl ?_
      refine q_iconst C dX12_doesLine_93 (n := 94) rfl ?_
      refine q_icmp_ne C 104 dX12_doesLine_94 (n := 97) rfl rfl (by omega) (fun h20 => ?_) (fun h20 => ?_)
      · refine q_iload_n C dX12_doesLine_104 (n := 105) rfl rfl ?_
        refine q_iconst C dX12_doesLine_105 (n := 106) rfl ?_
        refine q_icmp_ne C 119 dX12_doesLine_106 (n := 109) rfl rfl (by omega) (fun h21 => ?_) (fun h21 => ?_)
        · refine q_iconst C dX12_doesLine_119 (n := 120) rfl ?_
          have hp22 : zGr M15 a 1 := p1.cg (fun j => (zup_p e16 (by omega) _)) (fun j => (zup_p e16 (by omega) _)) (fun j => (zup_p e16 (by omega) _)) (fun j => (zup_p e16 (by omega) _)) (fun j => (zup_p e16 (by omega) _)) (zup_p e16 (by omega) _) (zup_p e16 (by omega) _)
          exact q_zret C dX12_doesLine_120 ⟨rfl, rfl⟩ (by omega) (by rw [hPo]; exact ⟨1, M15, J, rfl, rfl, hI18, hK19, by omega, Or.inr (hp22.weak (by omega)), hp17, (by have hw : M15 (a + 18) 3 = M (a + 18) 3 := (zup_n e16 (by omega)); omega), by have hz23 : M15 a 99 = M a 99 := (zup_p e16 (by omega) _); have hz24 : M15 a 100 = M a 100 := (zup_p e16 (by omega) _); omega, Or.inr (Int.le_of_eq (zRu_cg (zup_n e16 (by omega)) (zup_p e16 (by omega) _) (fun j => (zup_p e16 (by omega) _))))⟩)
        · refine q_aload_n C dX12_doesLine_109 (n := 110) rfl rfl ?_
          refine q_dup C dX12_doesLine_110 (n := 111) rfl rfl ?_
          have g25 := zI.at hI (zM202 h0)
          refine q_getI C dX12_doesLine_111 (n := 114) rfl f_X12_642 (zM0 h0) (v := M a 89) (zup_p e16 (by omega) _) ?_
          refine q_iconst C dX12_doesLine_114 (n := 115) rfl ?_
          refine q_isub C dX12_doesLine_115 (n := 116) rfl (v := (M a 89) - 1) rfl ?_
          refine q_putI C dX12_doesLine_116 (n := 119) rfl f_X12_642 (zM0 h0) ⟨rfl, rfl⟩ (fun M26 (e27 : M26 = zup M15 a 89 ((M a 89) - 1)) => ?_)
          have hI28 : zI G M26 := hI18.put e27 (zM202 h0) rfl (by omega)
          have hK29 := hK19.upS e27 rfl
          have hp30 : zGr M15 a 1 := p1.cg (fun j => (zup_p e16 (by omega) _)) (fun j => (zup_p e16 (by omega) _)) (fun j => (zup_p e16 (by omega) _)) (fun j => (zup_p e16 (by omega) _)) (fun j => (zup_p e16 (by omega) _)) (zup_p e16 (by omega) _) (zup_p e16 (by omega) _)
          have hp31 : zGr M26 a 1 := hp30.pop (fun j => (zup_p e27 (by omega) _)) (fun j => (zup_p e27 (by omega) _)) (fun j => (zup_p e27 (by omega) _)) (fun j => (zup_p e27 (by omega) _)) (fun j => (zup_p e27 (by omega) _)) (zup_n e27 (by omega)) (by have hw : M26 a 89 = (M a 89) - 1 := (zup_s e27); have hv : M15 a 89 = M a 89 := (zup_p e16 (by omega) _); omega) (by rw [show M15 a 88 = M a 88 from (zup_p e16 (by omega) _), show M15 (a + 53) (M a 88) = M (a + 53) (M a 88) from (zup_p e16 (by omega) _), show M15 a 89 = M a 89 from (zup_p e16 (by omega) _)]; omega)
          refine q_iconst C dX12_doesLine_119 (n := 120) rfl ?_
          have hp32 : zMe M26 a := hp17.cg (fun j j0 j1 => (zup_p e27 (by omega) _)) (fun j => (zup_p e27 (by omega) _))
          exact q_zret C dX12_doesLine_120 ⟨rfl, rfl⟩ (by omega) (by rw [hPo]; exact ⟨1, M26, J, rfl, rfl, hI28, hK29, by omega, Or.inr (hp31.weak (by omega)), hp32, (by have hw : M26 (a + 18) 3 = M (a + 18) 3 := ((zup_p e27 (by omega) _).trans (zup_n e16 (by omega))); omega), by have hz33 : M26 a 99 = M a 99 := ((zup_n e27 (by omega)).trans (zup_p e16 (by omega) _)); have hz34 : M26 a 100 = M a 100 := ((zup_n e27 (by omega)).trans (zup_p e16 (by omega) _)); omega, Or.inr (Int.le_of_eq (zRu_cg ((zup_p e27 (by omega) _).trans (zup_n e16 (by omega))) ((zup_n e27 (by omega)).trans (zup_p e16 (by omega) _)) (fun j => ((zup_p e27 (by omega) _).trans (zup_p e16 (by omega) _)))))⟩)
      · refine q_aload_n C dX12_doesLine_97 (n := 98) rfl rfl ?_
        refine q_iload_n C dX12_doesLine_98 (n := 99) rfl rfl ?_
        refine q_iconst C dX12_doesLine_99 (n := 100) rfl ?_
        refine q_iconst C dX12_doesLine_100 (n := 101) rfl ?_
        have hp35 : zGr M15 a 1 := p1.cg (fun j => (zup_p e16 (by omega) _)) (fun j => (zup_p e16 (by omega) _)) (fun j => (zup_p e16 (by omega) _)) (fun j => (zup_p e16 (by omega) _)) (fun j => (zup_p e16 (by omega) _)) (zup_p e16 (by omega) _) (zup_p e16 (by omega) _)
        refine q_callVv C dX12_doesLine_101 (n := 104) rfl m_X12_657 v_yX12_group (zM0 h0) ⟨by decide, rfl⟩ (c_X12_group (w := w) (J := J) hI18 hF h0 v2 0 1 (by have hz36 : M15 a 89 = M a 89 := (zup_p e16 (by omega) _); omega) (by omega) (by omega) (by omega)) (Nat.le_of_ble_eq_true rfl) rfl rfl (Nat.le_of_ble_eq_true rfl) ⟨Nat.le_refl _, Nat.le_refl _⟩ (fun M40 J41  hI42 h43 => ?_)
        obtain ⟨hk44, h37, h38, h39⟩ := h43
        have hK45 := hK19.tr hk44 rfl rfl rfl
        have hz46 : M15 a 89 = M a 89 := (zup_p e16 (by omega) _)
        have hp47 : zGr M40 a 0 := hp35.push (fun j => (hk44.getA rfl rfl rfl)) (fun j => (hk44.getA rfl rfl rfl)) (fun j => (hk44.getA rfl rfl rfl)) (fun j => (hk44.getA rfl rfl rfl)) (hk44.getS rfl rfl) h37 h38 h39 (by rw [show M15 a 88 = M a 88 from (zup_p e16 (by omega) _), show M15 (a + 51) (M a 88) = M (a + 51) (M a 88) from (zup_p e16 (by omega) _), show M15 (a + 2) (4 + M (a + 51) (M a 88)) = M (a + 2) (4 + M (a + 51) (M a 88)) from (zup_p e16 (by omega) _)]; omega)
        refine q_iload_n C dX12_doesLine_104 (n := 105) rfl rfl ?_
        refine q_iconst C dX12_doesLine_105 (n := 106) rfl ?_
        refine q_icmp_ne C 119 dX12_doesLine_106 (n := 109) rfl rfl (by omega) (fun h48 => ?_) (fun h48 => ?_)
        · refine q_iconst C dX12_doesLine_119 (n := 120) rfl ?_
          have hp49 : zMe M40 a := hp17.cg (fun j j0 j1 => (hk44.getA rfl rfl rfl)) (fun j => (hk44.getA rfl rfl rfl))
          exact q_zret C dX12_doesLine_120 ⟨rfl, rfl⟩ (by omega) (by rw [hPo]; exact ⟨1, M40, J41, rfl, rfl, hI42, hK45, by omega, Or.inr hp47, hp49, (by have hw : M40 (a + 18) 3 = M (a + 18) 3 := ((hk44.getA rfl rfl rfl).trans (zup_n e16 (by omega))); omega), by have hz50 : M40 a 99 = M a 99 := ((hk44.getS rfl rfl).trans (zup_p e16 (by omega) _)); have hz51 : M40 a 100 = M a 100 := ((hk44.getS rfl rfl).trans (zup_p e16 (by omega) _)); omega, Or.inr (Int.le_of_eq (zRu_cg ((hk44.getA rfl rfl rfl).trans (zup_n e16 (by omega))) ((hk44.getS rfl rfl).trans (zup_p e16 (by omega) _)) (fun j => ((hk44.getA rfl rfl rfl).trans (zup_p e16 (by omega) _)))))⟩)
        · refine q_aload_n C dX12_doesLine_109 (n := 110) rfl rfl ?_
          refine q_dup C dX12_doesLine_110 (n := 111) rfl rfl ?_
          have g52 := zI.at hI42 (zM202 h0)
          refine q_getI C dX12_doesLine_111 (n := 114) rfl f_X12_642 (zM0 h0) (v := M40 a 89) rfl ?_
          refine q_iconst C dX12_doesLine_114 (n := 115) rfl ?_
          refine q_isub C dX12_doesLine_115 (n := 116) rfl (v := (M40 a 89) - 1) rfl ?_
          refine q_putI C dX12_doesLine_116 (n := 119) rfl f_X12_642 (zM0 h0) ⟨rfl, rfl⟩ (fun M53 (e54 : M53 = zup M40 a 89 ((M40 a 89) - 1)) => ?_)
          have hI55 : zI G M53 := hI42.put e54 (zM202 h0) rfl (by omega)
          have hK56 := hK45.upS e54 rfl
          have hp57 : zGr M53 a 0 := hp47.pop (fun j => (zup_p e54 (by omega) _)) (fun j => (zup_p e54 (by omega) _)) (fun j => (zup_p e54 (by omega) _)) (fun j => (zup_p e54 (by omega) _)) (fun j => (zup_p e54 (by omega) _)) (zup_n e54 (by omega)) (by have hw : M53 a 89 = (M40 a 89) - 1 := (zup_s e54); have hv : M40 a 89 = M40 a 89 := rfl; omega) (by rw [show M40 a 88 = M a 88 from ((hk44.getS rfl rfl).trans (zup_p e16 (by omega) _)), show M40 (a + 53) (M a 88) = M (a + 53) (M a 88) from ((hk44.getA rfl rfl rfl).trans (zup_p e16 (by omega) _)), show M40 a 89 = M40 a 89 from rfl]; omega)
          refine q_iconst C dX12_doesLine_119 (n := 120) rfl ?_
          have hp58 : zMe M53 a := hp17.cg (fun j j0 j1 => ((zup_p e54 (by omega) _).trans (hk44.getA rfl rfl rfl))) (fun j => ((zup_p e54 (by omega) _).trans (hk44.getA rfl rfl rfl)))
          exact q_zret C dX12_doesLine_120 ⟨rfl, rfl⟩ (by omega) (by rw [hPo]; exact ⟨1, M53, J41, rfl, rfl, hI55, hK56, by omega, Or.inr hp57, hp58, (by have hw : M53 (a + 18) 3 = M (a + 18) 3 := ((zup_p e54 (by omega) _).trans ((hk44.getA rfl rfl rfl).trans (zup_n e16 (by omega)))); omega), by have hz59 : M53 a 99 = M a 99 := ((zup_n e54 (by omega)).trans ((hk44.getS rfl rfl).trans (zup_p e16 (by omega) _))); have hz60 : M53 a 100 = M a 100 := ((zup_n e54 (by omega)).trans ((hk44.getS rfl rfl).trans (zup_p e16 (by omega) _))); omega, Or.inr (Int.le_of_eq (zRu_cg ((zup_p e54 (by omega) _).trans ((hk44.getA rfl rfl rfl).trans (zup_n e16 (by omega)))) ((zup_n e54 (by omega)).trans ((hk44.getS rfl rfl).trans (zup_p e16 (by omega) _))) (fun j => ((zup_p e54 (by omega) _).trans ((hk44.getA rfl rfl rfl).trans (zup_p e16 (by omega) _))))))⟩)
    have J_61 : zK w p e 9 0 0 s m args below meth c 6 T Po 58 [.ref (w.2.1 + a), zi v1, zi v2, zi x2, zi x7, .null] [] (T, M, J, R) := by
      refine q_iload C dX12_doesLine_58 (n := 60) rfl rfl ?_
      have J_63 : (x2 ≤ 1 ∨ ¬ x7 = 0) → zK w p e 9 0 0 s m args below meth c 6 T Po 121 [.ref (w.2.1 + a), zi v1, zi v2, zi x2, .null, .null] [] (T, M, J, R) := by
        intro h62
        refine q_iload_n C dX12_doesLine_121 (n := 122) rfl rfl ?_
        refine q_iconst C dX12_doesLine_122 (n := 123) rfl ?_
        refine q_icmp_le C 134 dX12_doesLine_123 (n := 126) rfl rfl (by omega) (fun h64 => ?_) (fun h64 => ?_)
        · refine q_aload_n C dX12_doesLine_134 (n := 135) rfl rfl ?_
          refine q_iload_n C dX12_doesLine_135 (n := 136) rfl rfl ?_
          refine q_iload_n C dX12_doesLine_136 (n := 137) rfl rfl ?_
          refine q_callVi C dX12_doesLine_137 (n := 140) rfl m_X12_352 v_yX12_lexes (zM0 h0) ⟨by decide, rfl⟩ (c_X12_lexes (w := w) (J := J) hI hF h0 v1 v2 p3 (by omega) (by omega)) (Nat.le_of_ble_eq_true rfl) rfl rfl (Nat.le_of_ble_eq_true rfl) ⟨Nat.le_refl _, Nat.le_refl _⟩ (fun x76 M72 J73  hI74 h75 => ?_)
          obtain ⟨hk77, h65, h66, h67, h68, h69, h70, h71⟩ := h75
          have hK78 := hK0.tr hk77 rfl rfl rfl
          refine q_if_ne C 145 dX12_doesLine_140 (n := 143) rfl rfl (by omega) (fun h79 => ?_) (fun h79 => ?_)
          · refine q_aload_n C dX12_doesLine_145 (n := 146) rfl rfl ?_
            refine q_iconst C dX12_doesLine_146 (n := 147) rfl ?_
            refine q_putZ C dX12_doesLine_147 (n := 150) rfl f_X12_661 (zM0 h0) ⟨rfl, rfl⟩ (by omega) (fun M80 (e81 : M80 = zup M72 a 101 0) => ?_)
            have hI82 : zI G M80 := hI74.put e81 (zM232 h0) rfl (by omega)
            have hK83 := hK78.upS e81 rfl
            refine q_aload_n C dX12_doesLine_150 (n := 151) rfl rfl ?_
            have g84 := zI.at hI74 (zM58 h0)
            refine q_getI C dX12_doesLine_151 (n := 154) rfl f_X12_355 (zM0 h0) (v := M72 a 23) (zup_n e81 (by omega)) ?_
            refine q_if_le C 173 dX12_doesLine_154 (n := 157) rfl rfl (by omega) (fun h85 => ?_) (fun h85 => ?_)
            · refine q_aload_n C dX12_doesLine_173 (n := 174) rfl rfl ?_
              have hp86 : zMe M80 a := p2.cg (fun j j0 j1 => ((zup_p e81 (by omega) _).trans (hk77.getW rfl rfl (by omega)))) (fun j => ((zup_p e81 (by omega) _).trans (hk77.getA rfl rfl rfl)))
              refine q_callVi C dX12_doesLine_174 (n := 177) rfl m_X12_688 v_yX12_doesText (zM0 h0) ⟨by decide, rfl⟩ (c_X12_doesText (w := w) (J := J73) hI82 hF h0 hp86 (by have hz87 : M80 a 26 = M72 a 26 := (zup_n e81 (by omega)); have hz88 : M80 a 25 = M72 a 25 := (zup_n e81 (by omega)); have hz89 : M80 a 24 = M72 a 24 := (zup_n e81 (by omega)); omega) (by have hz90 : M80 a 99 = M a 99 := ((zup_n e81 (by omega)).trans (hk77.getS rfl rfl)); have hz91 : M80 a 100 = M a 100 := ((zup_n e81 (by omega)).trans (hk77.getS rfl rfl)); omega)) (Nat.le_of_ble_eq_true rfl) rfl rfl (Nat.le_of_ble_eq_true rfl) ⟨Nat.le_refl _, Nat.le_refl _⟩ (fun x100 M96 J97  hI98 h99 => ?_)
              obtain ⟨hk101, h92, h93, h94, h95⟩ := h99
              have hK102 := hK83.tr hk101 rfl rfl rfl
              have hz103 : M80 (a + 18) 3 = M (a + 18) 3 := ((zup_p e81 (by omega) _).trans (hk77.getP rfl rfl rfl))
              refine q_istore C [.ref (w.2.1 + a), zi v1, zi v2, zi x2, .null, zi x100] dX12_doesLine_177 (n := 179) rfl rfl rfl ?_
              refine q_iload C dX12_doesLine_179 (n := 181) rfl rfl ?_
              refine q_if_eq C 197 dX12_doesLine_181 (n := 184) rfl rfl (by omega) (fun h104 => ?_) (fun h104 => ?_)
              · refine q_iload C dX12_doesLine_197 (n := 199) rfl rfl ?_
                have hp105 : zGr M96 a 1 := p1.cg (fun j => ((hk101.getA rfl rfl rfl).trans ((zup_p e81 (by omega) _).trans (hk77.getA rfl rfl rfl)))) (fun j => ((hk101.getA rfl rfl rfl).trans ((zup_p e81 (by omega) _).trans (hk77.getA rfl rfl rfl)))) (fun j => ((hk101.getA rfl rfl rfl).trans ((zup_p e81 (by omega) _).trans (hk77.getA rfl rfl rfl)))) (fun j => ((hk101.getA rfl rfl rfl).trans ((zup_p e81 (by omega) _).trans (hk77.getA rfl rfl rfl)))) (fun j => ((hk101.getA rfl rfl rfl).trans ((zup_p e81 (by omega) _).trans (hk77.getA rfl rfl rfl)))) ((hk101.getS rfl rfl).trans ((zup_n e81 (by omega)).trans (hk77.getS rfl rfl))) ((hk101.getS rfl rfl).trans ((zup_n e81 (by omega)).trans (hk77.getS rfl rfl)))
                exact q_zret C dX12_doesLine_199 ⟨rfl, rfl⟩ (by omega) (by rw [hPo]; exact ⟨x100, M96, J97, rfl, rfl, hI98, hK102, by omega, Or.inr (hp105.weak (by omega)), h93, (by have hw : M96 (a + 18) 3 = M (a + 18) 3 := ((h94).trans ((zup_p e81 (by omega) _).trans (hk77.getP rfl rfl rfl))); omega), by omega, Or.inr (Int.le_of_eq (zRu_cg ((h94).trans ((zup_p e81 (by omega) _).trans (hk77.getP rfl rfl rfl))) ((hk101.getS rfl rfl).trans ((zup_n e81 (by omega)).trans (hk77.getS rfl rfl))) (fun j => ((hk101.getA rfl rfl rfl).trans ((zup_p e81 (by omega) _).trans (hk77.getA rfl rfl rfl))))))⟩)
              · refine q_aload_n C dX12_doesLine_184 (n := 185) rfl rfl ?_
                refine q_getI C dX12_doesLine_185 (n := 188) rfl f_X12_661 (zM0 h0) (v := 0) ((hk101.getS rfl rfl).trans (zup_s e81)) ?_
                refine q_if_ne C 197 dX12_doesLine_188 (n := 191) rfl rfl (by omega) (fun h106 => ?_) (fun h106 => ?_)
                · exact absurd h106 (by decide)
                · refine q_aload_n C dX12_doesLine_191 (n := 192) rfl rfl ?_
                  refine q_iload_n C dX12_doesLine_192 (n := 193) rfl rfl ?_
                  refine q_iload_n C dX12_doesLine_193 (n := 194) rfl rfl ?_
                  refine q_callVv C dX12_doesLine_194 (n := 197) rfl m_X12_648 v_yX12_counts (zM0 h0) ⟨by decide, rfl⟩ (c_X12_counts (w := w) (J := J97) hI98 hF h0 v1 v2 (by omega) (by omega) h93) (Nat.le_of_ble_eq_true rfl) rfl rfl (Nat.le_of_ble_eq_true rfl) ⟨Nat.le_refl _, Nat.le_refl _⟩ (fun M109 J110  hI111 h112 => ?_)
                  obtain ⟨hk113, h107, h108⟩ := h112
                  have hK114 := hK102.tr hk113 rfl rfl rfl
                  have hz115 : M96 (a + 18) 3 = M (a + 18) 3 := ((h94).trans ((zup_p e81 (by omega) _).trans (hk77.getP rfl rfl rfl)))
                  refine q_iload C dX12_doesLine_197 (n := 199) rfl rfl ?_
                  have hp116 : zGr M109 a 1 := p1.cg (fun j => ((hk113.getA rfl rfl rfl).trans ((hk101.getA rfl rfl rfl).trans ((zup_p e81 (by omega) _).trans (hk77.getA rfl rfl rfl))))) (fun j => ((hk113.getA rfl rfl rfl).trans ((hk101.getA rfl rfl rfl).trans ((zup_p e81 (by omega) _).trans (hk77.getA rfl rfl rfl))))) (fun j => ((hk113.getA rfl rfl rfl).trans ((hk101.getA rfl rfl rfl).trans ((zup_p e81 (by omega) _).trans (hk77.getA rfl rfl rfl))))) (fun j => ((hk113.getA rfl rfl rfl).trans ((hk101.getA rfl rfl rfl).trans ((zup_p e81 (by omega) _).trans (hk77.getA rfl rfl rfl))))) (fun j => ((hk113.getA rfl rfl rfl).trans ((hk101.getA rfl rfl rfl).trans ((zup_p e81 (by omega) _).trans (hk77.getA rfl rfl rfl))))) ((hk113.getS rfl rfl).trans ((hk101.getS rfl rfl).trans ((zup_n e81 (by omega)).trans (hk77.getS rfl rfl)))) ((hk113.getS rfl rfl).trans ((hk101.getS rfl rfl).trans ((zup_n e81 (by omega)).trans (hk77.getS rfl rfl))))
                  exact q_zret C dX12_doesLine_199 ⟨rfl, rfl⟩ (by omega) (by rw [hPo]; exact ⟨x100, M109, J110, rfl, rfl, hI111, hK114, by omega, Or.inr (hp116.weak (by omega)), h107, (by have hw : M109 (a + 18) 3 = M (a + 18) 3 := ((h108).trans ((h94).trans ((zup_p e81 (by omega) _).trans (hk77.getP rfl rfl rfl)))); omega), by have hz117 : M109 a 99 = M96 a 99 := (hk113.getS rfl rfl); have hz118 : M109 a 100 = M96 a 100 := (hk113.getS rfl rfl); omega, Or.inr (Int.le_of_eq (zRu_cg ((h108).trans ((h94).trans ((zup_p e81 (by omega) _).trans (hk77.getP rfl rfl rfl)))) ((hk113.getS rfl rfl).trans ((hk101.getS rfl rfl).trans ((zup_n e81 (by omega)).trans (hk77.getS rfl rfl)))) (fun j => ((hk113.getA rfl rfl rfl).trans ((hk101.getA rfl rfl rfl).trans ((zup_p e81 (by omega) _).trans (hk77.getA rfl rfl rfl)))))))⟩)
            · refine q_aload_n C dX12_doesLine_157 (n := 158) rfl rfl ?_
              refine q_iconst C dX12_doesLine_158 (n := 159) rfl ?_
              refine q_callVp C dX12_doesLine_159 (n := 162) rfl m_X12_358 v_yX12_isHash (zM0 h0) ⟨by decide, rfl⟩ (c_X12_isHash (w := w) (J := J73) hI82 hF h0 0 (by omega)) (Nat.le_of_ble_eq_true rfl) rfl rfl (Nat.le_of_ble_eq_true rfl) ⟨Nat.le_refl _, Nat.le_refl _⟩ (fun x121 h122 => ?_)
              obtain ⟨h119, h120⟩ := h122
              have hz123 : M80 a 0 = M a 0 := ((zup_n e81 (by omega)).trans (hk77.getS rfl rfl))
              refine q_if_eq C 173 dX12_doesLine_162 (n := 165) rfl rfl (by omega) (fun h124 => ?_) (fun h124 => ?_)
              · refine q_aload_n C dX12_doesLine_173 (n := 174) rfl rfl ?_
                have hp125 : zMe M80 a := p2.cg (fun j j0 j1 => ((zup_p e81 (by omega) _).trans (hk77.getW rfl rfl (by omega)))) (fun j => ((zup_p e81 (by omega) _).trans (hk77.getA rfl rfl rfl)))
                refine q_callVi C dX12_doesLine_174 (n := 177) rfl m_X12_688 v_yX12_doesText (zM0 h0) ⟨by decide, rfl⟩ (c_X12_doesText (w := w) (J := J73) hI82 hF h0 hp125 (by have hz126 : M80 a 26 = M72 a 26 := (zup_n e81 (by omega)); have hz127 : M80 a 25 = M72 a 25 := (zup_n e81 (by omega)); have hz128 : M80 a 24 = M72 a 24 := (zup_n e81 (by omega)); omega) (by have hz129 : M80 a 99 = M a 99 := ((zup_n e81 (by omega)).trans (hk77.getS rfl rfl)); have hz130 : M80 a 100 = M a 100 := ((zup_n e81 (by omega)).trans (hk77.getS rfl rfl)); omega)) (Nat.le_of_ble_eq_true rfl) rfl rfl (Nat.le_of_ble_eq_true rfl) ⟨Nat.le_refl _, Nat.le_refl _⟩ (fun x139 M135 J136  hI137 h138 => ?_)
                obtain ⟨hk140, h131, h132, h133, h134⟩ := h138
                have hK141 := hK83.tr hk140 rfl rfl rfl
                have hz142 : M80 (a + 18) 3 = M (a + 18) 3 := ((zup_p e81 (by omega) _).trans (hk77.getP rfl rfl rfl))
                refine q_istore C [.ref (w.2.1 + a), zi v1, zi v2, zi x2, .null, zi x139] dX12_doesLine_177 (n := 179) rfl rfl rfl ?_
                refine q_iload C dX12_doesLine_179 (n := 181) rfl rfl ?_
                refine q_if_eq C 197 dX12_doesLine_181 (n := 184) rfl rfl (by omega) (fun h143 => ?_) (fun h143 => ?_)
                · refine q_iload C dX12_doesLine_197 (n := 199) rfl rfl ?_
                  have hp144 : zGr M135 a 1 := p1.cg (fun j => ((hk140.getA rfl rfl rfl).trans ((zup_p e81 (by omega) _).trans (hk77.getA rfl rfl rfl)))) (fun j => ((hk140.getA rfl rfl rfl).trans ((zup_p e81 (by omega) _).trans (hk77.getA rfl rfl rfl)))) (fun j => ((hk140.getA rfl rfl rfl).trans ((zup_p e81 (by omega) _).trans (hk77.getA rfl rfl rfl)))) (fun j => ((hk140.getA rfl rfl rfl).trans ((zup_p e81 (by omega) _).trans (hk77.getA rfl rfl rfl)))) (fun j => ((hk140.getA rfl rfl rfl).trans ((zup_p e81 (by omega) _).trans (hk77.getA rfl rfl rfl)))) ((hk140.getS rfl rfl).trans ((zup_n e81 (by omega)).trans (hk77.getS rfl rfl))) ((hk140.getS rfl rfl).trans ((zup_n e81 (by omega)).trans (hk77.getS rfl rfl)))
                  exact q_zret C dX12_doesLine_199 ⟨rfl, rfl⟩ (by omega) (by rw [hPo]; exact ⟨x139, M135, J136, rfl, rfl, hI137, hK141, by omega, Or.inr (hp144.weak (by omega)), h132, (by have hw : M135 (a + 18) 3 = M (a + 18) 3 := ((h133).trans ((zup_p e81 (by omega) _).trans (hk77.getP rfl rfl rfl))); omega), by omega, Or.inr (Int.le_of_eq (zRu_cg ((h133).trans ((zup_p e81 (by omega) _).trans (hk77.getP rfl rfl rfl))) ((hk140.getS rfl rfl).trans ((zup_n e81 (by omega)).trans (hk77.getS rfl rfl))) (fun j => ((hk140.getA rfl rfl rfl).trans ((zup_p e81 (by omega) _).trans (hk77.getA rfl rfl rfl))))))⟩)
                · refine q_aload_n C dX12_doesLine_184 (n := 185) rfl rfl ?_
                  refine q_getI C dX12_doesLine_185 (n := 188) rfl f_X12_661 (zM0 h0) (v := 0) ((hk140.getS rfl rfl).trans (zup_s e81)) ?_
                  refine q_if_ne C 197 dX12_doesLine_188 (n := 191) rfl rfl (by omega) (fun h145 => ?_) (fun h145 => ?_)
                  · exact absurd h145 (by decide)
                  · refine q_aload_n C dX12_doesLine_191 (n := 192) rfl rfl ?_
                    refine q_iload_n C dX12_doesLine_192 (n := 193) rfl rfl ?_
                    refine q_iload_n C dX12_doesLine_193 (n := 194) rfl rfl ?_
                    refine q_callVv C dX12_doesLine_194 (n := 197) rfl m_X12_648 v_yX12_counts (zM0 h0) ⟨by decide, rfl⟩ (c_X12_counts (w := w) (J := J136) hI137 hF h0 v1 v2 (by omega) (by omega) h132) (Nat.le_of_ble_eq_true rfl) rfl rfl (Nat.le_of_ble_eq_true rfl) ⟨Nat.le_refl _, Nat.le_refl _⟩ (fun M148 J149  hI150 h151 => ?_)
                    obtain ⟨hk152, h146, h147⟩ := h151
                    have hK153 := hK141.tr hk152 rfl rfl rfl
                    have hz154 : M135 (a + 18) 3 = M (a + 18) 3 := ((h133).trans ((zup_p e81 (by omega) _).trans (hk77.getP rfl rfl rfl)))
                    refine q_iload C dX12_doesLine_197 (n := 199) rfl rfl ?_
                    have hp155 : zGr M148 a 1 := p1.cg (fun j => ((hk152.getA rfl rfl rfl).trans ((hk140.getA rfl rfl rfl).trans ((zup_p e81 (by omega) _).trans (hk77.getA rfl rfl rfl))))) (fun j => ((hk152.getA rfl rfl rfl).trans ((hk140.getA rfl rfl rfl).trans ((zup_p e81 (by omega) _).trans (hk77.getA rfl rfl rfl))))) (fun j => ((hk152.getA rfl rfl rfl).trans ((hk140.getA rfl rfl rfl).trans ((zup_p e81 (by omega) _).trans (hk77.getA rfl rfl rfl))))) (fun j => ((hk152.getA rfl rfl rfl).trans ((hk140.getA rfl rfl rfl).trans ((zup_p e81 (by omega) _).trans (hk77.getA rfl rfl rfl))))) (fun j => ((hk152.getA rfl rfl rfl).trans ((hk140.getA rfl rfl rfl).trans ((zup_p e81 (by omega) _).trans (hk77.getA rfl rfl rfl))))) ((hk152.getS rfl rfl).trans ((hk140.getS rfl rfl).trans ((zup_n e81 (by omega)).trans (hk77.getS rfl rfl)))) ((hk152.getS rfl rfl).trans ((hk140.getS rfl rfl).trans ((zup_n e81 (by omega)).trans (hk77.getS rfl rfl))))
                    exact q_zret C dX12_doesLine_199 ⟨rfl, rfl⟩ (by omega) (by rw [hPo]; exact ⟨x139, M148, J149, rfl, rfl, hI150, hK153, by omega, Or.inr (hp155.weak (by omega)), h146, (by have hw : M148 (a + 18) 3 = M (a + 18) 3 := ((h147).trans ((h133).trans ((zup_p e81 (by omega) _).trans (hk77.getP rfl rfl rfl)))); omega), by have hz156 : M148 a 99 = M135 a 99 := (hk152.getS rfl rfl); have hz157 : M148 a 100 = M135 a 100 := (hk152.getS rfl rfl); omega, Or.inr (Int.le_of_eq (zRu_cg ((h147).trans ((h133).trans ((zup_p e81 (by omega) _).trans (hk77.getP rfl rfl rfl)))) ((hk152.getS rfl rfl).trans ((hk140.getS rfl rfl).trans ((zup_n e81 (by omega)).trans (hk77.getS rfl rfl)))) (fun j => ((hk152.getA rfl rfl rfl).trans ((hk140.getA rfl rfl rfl).trans ((zup_p e81 (by omega) _).trans (hk77.getA rfl rfl rfl)))))))⟩)
              · refine q_aload_n C dX12_doesLine_165 (n := 166) rfl rfl ?_
                refine q_iload_n C dX12_doesLine_166 (n := 167) rfl rfl ?_
                have hp158 : zMe M80 a := p2.cg (fun j j0 j1 => ((zup_p e81 (by omega) _).trans (hk77.getW rfl rfl (by omega)))) (fun j => ((zup_p e81 (by omega) _).trans (hk77.getA rfl rfl rfl)))
                have hp162 : zGr M80 a 1 := p1.cg (fun j => ((zup_p e81 (by omega) _).trans (hk77.getA rfl rfl rfl))) (fun j => ((zup_p e81 (by omega) _).trans (hk77.getA rfl rfl rfl))) (fun j => ((zup_p e81 (by omega) _).trans (hk77.getA rfl rfl rfl))) (fun j => ((zup_p e81 (by omega) _).trans (hk77.getA rfl rfl rfl))) (fun j => ((zup_p e81 (by omega) _).trans (hk77.getA rfl rfl rfl))) ((zup_n e81 (by omega)).trans (hk77.getS rfl rfl)) ((zup_n e81 (by omega)).trans (hk77.getS rfl rfl))
                have hp163 : zFi M80 a := p3.cg (fun j => ((zup_p e81 (by omega) _).trans (hk77.getA rfl rfl rfl)))
                have hp164 : zLy M80 a 440 := h71.cg (fun j => (zup_p e81 (by omega) _)) (fun j => (zup_p e81 (by omega) _)) (zup_n e81 (by omega))
                refine q_callVi C dX12_doesLine_167 (n := 170) rfl m_X12_685 v_yX12_doesDirective (zM0 h0) ⟨by decide, rfl⟩ (c_X12_doesDirective (w := w) (J := J73) hI82 hF h0 v2 hp162 hp158 hp163 hp164 (by have hz159 : M80 a 24 = M72 a 24 := (zup_n e81 (by omega)); have hz160 : M80 a 25 = M72 a 25 := (zup_n e81 (by omega)); have hz161 : M80 a 26 = M72 a 26 := (zup_n e81 (by omega)); omega) (by have h28 : M80 a 28 = v1 := (by have hq : M80 a 28 = M72 a 28 := (zup_n e81 (by omega)); omega); have h29 : M80 a 29 = v2 := (by have hq : M80 a 29 = M72 a 29 := (zup_n e81 (by omega)); omega); rw [h28, h29, show M80 (a + 2) (4 + v1) = M (a + 2) (4 + v1) from ((zup_p e81 (by omega) _).trans (hk77.getA rfl rfl rfl))]; omega) (by have hw : M80 (a + 18) 3 = M (a + 18) 3 := ((zup_p e81 (by omega) _).trans (hk77.getP rfl rfl rfl)); omega) (by omega) (by rw [show M80 a 88 = M a 88 from ((zup_n e81 (by omega)).trans (hk77.getS rfl rfl)), show M80 (a + 51) (M a 88) = M (a + 51) (M a 88) from ((zup_p e81 (by omega) _).trans (hk77.getA rfl rfl rfl)), show M80 (a + 2) (4 + M (a + 51) (M a 88)) = M (a + 2) (4 + M (a + 51) (M a 88)) from ((zup_p e81 (by omega) _).trans (hk77.getA rfl rfl rfl))]; omega)) (Nat.le_of_ble_eq_true rfl) rfl rfl (Nat.le_of_ble_eq_true rfl) ⟨Nat.le_refl _, Nat.le_refl _⟩ (fun x174 M170 J171  hI172 h173 => ?_)
                obtain ⟨hk175, h165, h166, h167, h168, h169⟩ := h173
                have hK176 := hK83.tr hk175 rfl rfl rfl
                refine q_goto C 177 dX12_doesLine_170 rfl ?_
                refine q_istore C [.ref (w.2.1 + a), zi v1, zi v2, zi x2, .null, zi x174] dX12_doesLine_177 (n := 179) rfl rfl rfl ?_
                refine q_iload C dX12_doesLine_179 (n := 181) rfl rfl ?_
                refine q_if_eq C 197 dX12_doesLine_181 (n := 184) rfl rfl (by omega) (fun h177 => ?_) (fun h177 => ?_)
                · refine q_iload C dX12_doesLine_197 (n := 199) rfl rfl ?_
                  exact q_zret C dX12_doesLine_199 ⟨rfl, rfl⟩ (by omega) (by rw [hPo]; exact ⟨x174, M170, J171, rfl, rfl, hI172, hK176, by omega, h166, h167, h168, by have hz178 : M170 a 99 = M a 99 := ((hk175.getS rfl rfl).trans ((zup_n e81 (by omega)).trans (hk77.getS rfl rfl))); have hz179 : M170 a 100 = M a 100 := ((hk175.getS rfl rfl).trans ((zup_n e81 (by omega)).trans (hk77.getS rfl rfl))); omega, h169.imp id (fun h => by have h1 := (Int.le_of_eq (zRu_cg ((zup_p e81 (by omega) _).trans (hk77.getP rfl rfl rfl)) ((zup_n e81 (by omega)).trans (hk77.getS rfl rfl)) (fun j => ((zup_p e81 (by omega) _).trans (hk77.getA rfl rfl rfl))))); have h2 : zRu M170 a = zRu M170 a := zRu_cg rfl rfl (fun j => rfl); omega)⟩)
                · refine q_aload_n C dX12_doesLine_184 (n := 185) rfl rfl ?_
                  have g180 := zI.at hI172 (zM232 h0)
                  refine q_getI C dX12_doesLine_185 (n := 188) rfl f_X12_661 (zM0 h0) (v := M170 a 101) rfl ?_
                  refine q_if_ne C 197 dX12_doesLine_188 (n := 191) rfl rfl (by omega) (fun h181 => ?_) (fun h181 => ?_)
                  · refine q_iload C dX12_doesLine_197 (n := 199) rfl rfl ?_
                    exact q_zret C dX12_doesLine_199 ⟨rfl, rfl⟩ (by omega) (by rw [hPo]; exact ⟨x174, M170, J171, rfl, rfl, hI172, hK176, by omega, h166, h167, h168, by have hz182 : M170 a 99 = M a 99 := ((hk175.getS rfl rfl).trans ((zup_n e81 (by omega)).trans (hk77.getS rfl rfl))); have hz183 : M170 a 100 = M a 100 := ((hk175.getS rfl rfl).trans ((zup_n e81 (by omega)).trans (hk77.getS rfl rfl))); omega, h169.imp id (fun h => by have h1 := (Int.le_of_eq (zRu_cg ((zup_p e81 (by omega) _).trans (hk77.getP rfl rfl rfl)) ((zup_n e81 (by omega)).trans (hk77.getS rfl rfl)) (fun j => ((zup_p e81 (by omega) _).trans (hk77.getA rfl rfl rfl))))); have h2 : zRu M170 a = zRu M170 a := zRu_cg rfl rfl (fun j => rfl); omega)⟩)
                  · refine q_aload_n C dX12_doesLine_191 (n := 192) rfl rfl ?_
                    refine q_iload_n C dX12_doesLine_192 (n := 193) rfl rfl ?_
                    refine q_iload_n C dX12_doesLine_193 (n := 194) rfl rfl ?_
                    refine q_callVv C dX12_doesLine_194 (n := 197) rfl m_X12_648 v_yX12_counts (zM0 h0) ⟨by decide, rfl⟩ (c_X12_counts (w := w) (J := J171) hI172 hF h0 v1 v2 (by omega) (by omega) h167) (Nat.le_of_ble_eq_true rfl) rfl rfl (Nat.le_of_ble_eq_true rfl) ⟨Nat.le_refl _, Nat.le_refl _⟩ (fun M186 J187  hI188 h189 => ?_)
                    obtain ⟨hk190, h184, h185⟩ := h189
                    have hK191 := hK176.tr hk190 rfl rfl rfl
                    refine q_iload C dX12_doesLine_197 (n := 199) rfl rfl ?_
                    exact q_zret C dX12_doesLine_199 ⟨rfl, rfl⟩ (by omega) (by rw [hPo]; exact ⟨x174, M186, J187, rfl, rfl, hI188, hK191, by omega, h166.imp id (fun h => h.cg (fun j => (hk190.getA rfl rfl rfl)) (fun j => (hk190.getA rfl rfl rfl)) (fun j => (hk190.getA rfl rfl rfl)) (fun j => (hk190.getA rfl rfl rfl)) (fun j => (hk190.getA rfl rfl rfl)) (hk190.getS rfl rfl) (hk190.getS rfl rfl)), h184, (by have hw : M186 (a + 18) 3 = M170 (a + 18) 3 := (h185); have hv := h168; omega), by have hz192 : M186 a 99 = M a 99 := ((hk190.getS rfl rfl).trans ((hk175.getS rfl rfl).trans ((zup_n e81 (by omega)).trans (hk77.getS rfl rfl)))); have hz193 : M186 a 100 = M a 100 := ((hk190.getS rfl rfl).trans ((hk175.getS rfl rfl).trans ((zup_n e81 (by omega)).trans (hk77.getS rfl rfl)))); omega, h169.imp id (fun h => by have h1 := (Int.le_of_eq (zRu_cg ((zup_p e81 (by omega) _).trans (hk77.getP rfl rfl rfl)) ((zup_n e81 (by omega)).trans (hk77.getS rfl rfl)) (fun j => ((zup_p e81 (by omega) _).trans (hk77.getA rfl rfl rfl))))); have h2 : zRu M186 a = zRu M170 a := zRu_cg (h185) (hk190.getS rfl rfl) (fun j => (hk190.getA rfl rfl rfl)); omega)⟩)
          · refine q_iconst C dX12_doesLine_143 (n := 144) rfl ?_
            have hp194 : zMe M72 a := p2.cg (fun j j0 j1 => (hk77.getW rfl rfl (by omega))) (fun j => (hk77.getA rfl rfl rfl))
            exact q_zret C dX12_doesLine_144 ⟨rfl, rfl⟩ (by omega) (by rw [hPo]; exact ⟨0, M72, J73, rfl, rfl, hI74, hK78, by omega, Or.inl rfl, hp194, (by have hw : M72 (a + 18) 3 = M (a + 18) 3 := (hk77.getP rfl rfl rfl); omega), by have hz195 : M72 a 99 = M a 99 := (hk77.getS rfl rfl); have hz196 : M72 a 100 = M a 100 := (hk77.getS rfl rfl); omega, Or.inl rfl⟩)
        · refine q_aload_n C dX12_doesLine_126 (n := 127) rfl rfl ?_
          refine q_iload_n C dX12_doesLine_127 (n := 128) rfl rfl ?_
          refine q_iload_n C dX12_doesLine_128 (n := 129) rfl rfl ?_
          refine q_iload_n C dX12_doesLine_129 (n := 130) rfl rfl ?_
          refine q_callVi C dX12_doesLine_130 (n := 133) rfl m_X12_682 v_yX12_doesGroup (zM0 h0) ⟨by decide, rfl⟩ (c_X12_doesGroup (w := w) (J := J) hI hF h0 v1 v2 x2 p1 p2 p3 (by omega) (by omega) (by omega) (by omega)) (Nat.le_of_ble_eq_true rfl) rfl rfl (Nat.le_of_ble_eq_true rfl) ⟨Nat.le_refl _, Nat.le_refl _⟩ (fun x205 M201 J202  hI203 h204 => ?_)
          obtain ⟨hk206, h197, h198, h199, h200⟩ := h204
          have hK207 := hK0.tr hk206 rfl rfl rfl
          exact q_zret C dX12_doesLine_133 ⟨rfl, rfl⟩ (by omega) (by rw [hPo]; exact ⟨x205, M201, J202, rfl, rfl, hI203, hK207, by omega, h198, h199, (by have hw : M201 (a + 18) 3 = M (a + 18) 3 := (h200); omega), by have hz208 : M201 a 99 = M a 99 := (hk206.getS rfl rfl); have hz209 : M201 a 100 = M a 100 := (hk206.getS rfl rfl); omega, Or.inr (Int.le_of_eq (zRu_cg (h200) (hk206.getS rfl rfl) (fun j => (hk206.getA rfl rfl rfl))))⟩)
      refine q_if_eq C 121 dX12_doesLine_60 (n := 63) rfl rfl (by omega) (fun h210 => ?_) (fun h210 => ?_)
      · exact zK.weak (J_63 (by omega)) (zwk_c (zwk_c (zwk_c (zwk_c (zwk_n (zwk_n zwk_e))))))
      · refine q_aload_n C dX12_doesLine_63 (n := 64) rfl rfl ?_
        refine q_getR C dX12_doesLine_64 (n := 67) rfl f_X12_184 (zM0 h0) (hF _ _ _ (zM192 h0)) ?_
        refine q_aload_n C dX12_doesLine_67 (n := 68) rfl rfl ?_
        have g211 := zI.at hI (zM202 h0)
        refine q_getI C dX12_doesLine_68 (n := 71) rfl f_X12_642 (zM0 h0) (v := M a 89) rfl ?_
        refine q_iconst C dX12_doesLine_71 (n := 72) rfl ?_
        refine q_isub C dX12_doesLine_72 (n := 73) rfl (v := (M a 89) - 1) rfl ?_
        have g212 := zI.at hI ((zM194 h0) ((M a 89) - 1))
        refine q_iald C dX12_doesLine_73 (n := 74) rfl (zM193 h0) (by omega) (v := M (a + 56) ((M a 89) - 1)) rfl ?_
        refine q_if_ne C 121 dX12_doesLine_74 (n := 77) rfl rfl (by omega) (fun h213 => ?_) (fun h213 => ?_)
        · exact zK.weak (J_63 (by omega)) (zwk_c (zwk_c (zwk_c (zwk_c (zwk_n (zwk_n zwk_e))))))
        · refine q_iload_n C dX12_doesLine_77 (n := 78) rfl rfl ?_
          refine q_iconst C dX12_doesLine_78 (n := 79) rfl ?_
          refine q_icmp_ge C 121 dX12_doesLine_79 (n := 82) rfl rfl (by omega) (fun h214 => ?_) (fun h214 => ?_)
          · exact zK.weak (J_63 (by omega)) (zwk_c (zwk_c (zwk_c (zwk_c (zwk_n (zwk_n zwk_e))))))
          · exact zK.weak (J_12 (by omega)) (zwk_c (zwk_n (zwk_c (zwk_c (zwk_n (zwk_n zwk_e))))))
    refine q_if_eq C 58 dX12_doesLine_40 (n := 43) rfl rfl (by omega) (fun h215 => ?_) (fun h215 => ?_)
    · exact zK.weak (J_61) (zwk_c (zwk_c (zwk_c (zwk_c (zwk_c (zwk_n zwk_e))))))
    · refine q_aload_n C dX12_doesLine_43 (n := 44) rfl rfl ?_
      refine q_getR C dX12_doesLine_44 (n := 47) rfl f_X12_190 (zM0 h0) (hF _ _ _ (zM198 h0)) ?_
      refine q_aload_n C dX12_doesLine_47 (n := 48) rfl rfl ?_
      have g216 := zI.at hI (zM202 h0)
      refine q_getI C dX12_doesLine_48 (n := 51) rfl f_X12_642 (zM0 h0) (v := M a 89) rfl ?_
      refine q_iconst C dX12_doesLine_51 (n := 52) rfl ?_
      refine q_isub C dX12_doesLine_52 (n := 53) rfl (v := (M a 89) - 1) rfl ?_
      have g217 := zI.at hI ((zM200 h0) ((M a 89) - 1))
      refine q_iald C dX12_doesLine_53 (n := 54) rfl (zM199 h0) (by omega) (v := M (a + 58) ((M a 89) - 1)) rfl ?_
      refine q_iconst C dX12_doesLine_54 (n := 55) rfl ?_
      refine q_icmp_eq C 82 dX12_doesLine_55 (n := 58) rfl rfl (by omega) (fun h218 => ?_) (fun h218 => ?_)
      · exact zK.weak (J_12 (by omega)) (zwk_c (zwk_n (zwk_c (zwk_c (zwk_n (zwk_n zwk_e))))))
      · exact zK.weak (J_61) (zwk_c (zwk_c (zwk_c (zwk_c (zwk_c (zwk_n zwk_e))))))
  refine q_icmp_le C 38 dX12_doesLine_15 (n := 18) rfl rfl (by omega) (fun h219 => ?_) (fun h219 => ?_)
  · exact zK.weak (J_10 (by omega)) (zwk_c (zwk_c (zwk_c (zwk_c (zwk_c (zwk_n zwk_e))))))
  · refine q_iload C dX12_doesLine_18 (n := 20) rfl rfl ?_
    refine q_if_ne C 38 dX12_doesLine_20 (n := 23) rfl rfl (by omega) (fun h220 => ?_) (fun h220 => ?_)
    · exact zK.weak (J_10 (by omega)) (zwk_c (zwk_c (zwk_c (zwk_c (zwk_c (zwk_n zwk_e))))))
    · refine q_aload_n C dX12_doesLine_23 (n := 24) rfl rfl ?_
      refine q_bipush C dX12_doesLine_24 (n := 26) rfl (x := 10) (by decide) ?_
      refine q_iload_n C dX12_doesLine_26 (n := 27) rfl rfl ?_
      refine q_iload_n C dX12_doesLine_27 (n := 28) rfl rfl ?_
      refine q_aload_n C dX12_doesLine_28 (n := 29) rfl rfl ?_
      refine q_iload_n C dX12_doesLine_29 (n := 30) rfl rfl ?_
      refine q_iload_n C dX12_doesLine_30 (n := 31) rfl rfl ?_
      refine q_callVp C dX12_doesLine_31 (n := 34) rfl m_X12_330 v_yX12_hashOf (zM0 h0) ⟨by decide, rfl⟩ (c_X12_hashOf (w := w) (J := J) hI hF h0 v1 v2 p3 (by omega) (by omega)) (Nat.le_of_ble_eq_true rfl) rfl rfl (Nat.le_of_ble_eq_true rfl) ⟨Nat.le_refl _, Nat.le_refl _⟩ (fun x223 h224 => ?_)
      obtain ⟨h221, h222⟩ := h224
      refine q_callVi C dX12_doesLine_34 (n := 37) rfl m_X12_373 v_yX12_bad (zM0 h0) ⟨by decide, rfl⟩ (c_X12_bad (w := w) (J := J) hI hF h0 10 v1 v2 x223 (by omega) (by omega) (by omega) (by omega)) (Nat.le_of_ble_eq_true rfl) rfl rfl (Nat.le_of_ble_eq_true rfl) ⟨Nat.le_refl _, Nat.le_refl _⟩ (fun x231 M227 J228  hI229 h230 => ?_)
      obtain ⟨hk232, h225, h226⟩ := h230
      have hK233 := hK0.tr hk232 rfl rfl rfl
      have hp234 : zMe M227 a := p2.cg (fun j j0 j1 => (hk232.getW rfl rfl (by omega))) (fun j => (hk232.getA rfl rfl rfl))
      exact q_zret C dX12_doesLine_37 ⟨rfl, rfl⟩ (by omega) (by rw [hPo]; exact ⟨x231, M227, J228, rfl, rfl, hI229, hK233, by omega, Or.inl (by omega), hp234, (by have hw : M227 (a + 18) 3 = M (a + 18) 3 := (hk232.getP rfl rfl rfl); omega), by have hz235 : M227 a 99 = M a 99 := (hk232.getS rfl rfl); have hz236 : M227 a 100 = M a 100 := (hk232.getS rfl rfl); omega, Or.inr (Int.le_of_eq (zRu_cg (hk232.getP rfl rfl rfl) (hk232.getS rfl rfl) (fun j => (hk232.getA rfl rfl rfl))))⟩)
