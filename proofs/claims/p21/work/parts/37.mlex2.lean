theorem c_X12_lexes {w : zWp} {T : zTl} {M : zMm} {J : zJm} {R : zRm'} {G : zGt} {F : zRm'} {a : Nat} (hI : zI G M) (hF : zF F R) (h0 : zModel T F G a) (v1 : Int) (v2 : Int) (p1 : zFi M a) (p2 : 0 ≤ v1 ∧ v1 ≤ 3) (p3 : 0 ≤ v2 ∧ v2 < M (a + 2) (4 + v1) ∧ v2 ≤ 39) : zCt w 4 0 0 yX12_lexes cX12_lexes 6 (some .boolean) [.ref (w.2.1 + a), zi v1, zi v2] (T, M, J, R) (zPi T R G (fun x M2 => (zMd a [9, 10, 11, 12, 13, 14, 15, 16, 17] [23, 24, 25, 26, 27, 28, 29, 34] [(18, 11), (18, 12), (18, 13), (18, 14)] M M2) ∧ (x = 0 ∨ x = 1) ∧ (M2 a 25 = 440) ∧ (M2 a 26 = 3500) ∧ (0 ≤ M2 a 24 ∧ M2 a 24 ≤ 440) ∧ (M2 a 28 = v1) ∧ (M2 a 29 = v2) ∧ (zLy M2 a 440))) := by
  refine zCt.of rfl (Nat.le_of_ble_eq_true rfl) ?_
  intro p e s m args below meth c C
  obtain ⟨Po, hPo⟩ : ∃ Po, Po = zPi T R G (fun x M2 => (zMd a [9, 10, 11, 12, 13, 14, 15, 16, 17] [23, 24, 25, 26, 27, 28, 29, 34] [(18, 11), (18, 12), (18, 13), (18, 14)] M M2) ∧ (x = 0 ∨ x = 1) ∧ (M2 a 25 = 440) ∧ (M2 a 26 = 3500) ∧ (0 ≤ M2 a 24 ∧ M2 a 24 ≤ 440) ∧ (M2 a 28 = v1) ∧ (M2 a 29 = v2) ∧ (zLy M2 a 440)) := ⟨_, rfl⟩
  rw [← hPo]
  have hK0 : zMd a [9, 10, 11, 12, 13, 14, 15, 16, 17] [23, 24, 25, 26, 27, 28, 29, 34] [(18, 11), (18, 12), (18, 13), (18, 14)] M M := zMd.rf
  show zK w p e 4 0 0 s m args below meth c 6 T Po 0 [.ref (w.2.1 + a), zi v1, zi v2, .null, .null, .null] [] (T, M, J, R)
  refine q_aload_n C dX12_lexes_0 (n := 1) rfl rfl ?_
  refine q_iload_n C dX12_lexes_1 (n := 2) rfl rfl ?_
  refine q_iload_n C dX12_lexes_2 (n := 3) rfl rfl ?_
  refine q_callVp C dX12_lexes_3 (n := 6) rfl m_X12_321 v_yX12_beginOf (zM0 h0) ⟨by decide, rfl⟩ (c_X12_beginOf (w := w) (J := J) hI hF h0 v1 v2 p1 (by omega) (by omega)) (Nat.le_of_ble_eq_true rfl) rfl rfl (Nat.le_of_ble_eq_true rfl) ⟨Nat.le_refl _, Nat.le_refl _⟩ (fun x4 h5 => ?_)
  obtain ⟨h1, h2, h3⟩ := h5
  refine q_istore_n C [.ref (w.2.1 + a), zi v1, zi v2, zi x4, .null, .null] dX12_lexes_6 (n := 7) rfl rfl rfl ?_
  refine q_aload_n C dX12_lexes_7 (n := 8) rfl rfl ?_
  refine q_iload_n C dX12_lexes_8 (n := 9) rfl rfl ?_
  refine q_iload_n C dX12_lexes_9 (n := 10) rfl rfl ?_
  refine q_callVp C dX12_lexes_10 (n := 13) rfl m_X12_289 v_yX12_lengthOf (zM0 h0) ⟨by decide, rfl⟩ (c_X12_lengthOf (w := w) (J := J) hI hF h0 v1 v2 (by omega) (by omega)) (Nat.le_of_ble_eq_true rfl) rfl rfl (Nat.le_of_ble_eq_true rfl) ⟨Nat.le_refl _, Nat.le_refl _⟩ (fun x8 h9 => ?_)
  obtain ⟨h6, h7⟩ := h9
  refine q_istore C [.ref (w.2.1 + a), zi v1, zi v2, zi x4, zi x8, .null] dX12_lexes_13 (n := 15) rfl rfl rfl ?_
  refine q_iconst C dX12_lexes_15 (n := 16) rfl ?_
  refine q_istore C [.ref (w.2.1 + a), zi v1, zi v2, zi x4, zi x8, zi 0] dX12_lexes_16 (n := 18) rfl rfl rfl ?_
  have L_19 : ∀ n20 : Nat, ∀ (u10 : Int) (M12 : zMm) (J13 : zJm), zI G M12 → zMd a [9, 10, 11, 12, 13, 14, 15, 16, 17] [23, 24, 25, 26, 27, 28, 29, 34] [(18, 11), (18, 12), (18, 13), (18, 14)] M M12 → zMd a [17] [] [] M M12 → (-2147483648 ≤ u10 ∧ u10 ≤ 2147483647) → (0 ≤ u10 ∧ u10 ≤ x8) → (x8 - u10 + 1 ≤ (n20 : Int)) → zK w p e 4 0 0 s m args below meth c 6 T Po 18 [.ref (w.2.1 + a), zi v1, zi v2, zi x4, zi x8, zi u10] [] (T, M12, J13, R) := by
    intro n20
    induction n20 with
    | zero =>
      intro u10 M12 J13 hI14 hK15 hK16 h17 h18 hm22
      exfalso
      omega
    | succ n20 ih21 =>
      intro u10 M12 J13 hI14 hK15 hK16 h17 h18 hm22
      refine q_iload C dX12_lexes_18 (n := 20) rfl rfl ?_
      refine q_iload C dX12_lexes_20 (n := 22) rfl rfl ?_
      refine q_icmp_ge C 47 dX12_lexes_22 (n := 25) rfl rfl (by omega) (fun h23 => ?_) (fun h23 => ?_)
      · refine q_aload_n C dX12_lexes_47 (n := 48) rfl rfl ?_
        refine q_iload C dX12_lexes_48 (n := 50) rfl rfl ?_
        refine q_iload_n C dX12_lexes_50 (n := 51) rfl rfl ?_
        refine q_iload_n C dX12_lexes_51 (n := 52) rfl rfl ?_
        refine q_callVi C dX12_lexes_52 (n := 55) rfl m_X12_403 v_yX12_lexesPool (zM0 h0) ⟨by decide, rfl⟩ (c_X12_lexesPool (w := w) (J := J13) hI14 hF h0 x8 v1 v2 (by omega) (by omega) (by omega)) (Nat.le_of_ble_eq_true rfl) rfl rfl (Nat.le_of_ble_eq_true rfl) ⟨Nat.le_refl _, Nat.le_refl _⟩ (fun x35 M31 J32  hI33 h34 => ?_)
        obtain ⟨hk36, h24, h25, h26, h27, h28, h29, h30⟩ := h34
        have hK37 := hK15.tr hk36 rfl rfl rfl
        exact q_zret C dX12_lexes_55 ⟨rfl, rfl⟩ (by omega) (by rw [hPo]; exact ⟨x35, M31, J32, rfl, rfl, hI33, hK37, by omega, by omega, by omega, by omega, by omega, by omega, h30⟩)
      · refine q_aload_n C dX12_lexes_25 (n := 26) rfl rfl ?_
        refine q_getR C dX12_lexes_26 (n := 29) rfl f_X12_65 (zM0 h0) (hF _ _ _ (zM55 h0)) ?_
        refine q_iload C dX12_lexes_29 (n := 31) rfl rfl ?_
        refine q_aload_n C dX12_lexes_31 (n := 32) rfl rfl ?_
        refine q_getR C dX12_lexes_32 (n := 35) rfl f_X12_24 (zM0 h0) (hF _ _ _ (zM13 h0)) ?_
        refine q_iload_n C dX12_lexes_35 (n := 36) rfl rfl ?_
        refine q_iload C dX12_lexes_36 (n := 38) rfl rfl ?_
        refine q_iadd C dX12_lexes_38 (n := 39) rfl (v := x4 + u10) rfl ?_
        have g38 := zI.at hI ((zM15 h0) (x4 + u10))
        refine q_bald C dX12_lexes_39 (n := 40) rfl (zM14 h0) (by omega) (v := M (a + 4) (x4 + u10)) (hK16.getA rfl rfl rfl) ?_
        refine q_bast C dX12_lexes_40 (n := 41) rfl (zM56 h0) (by omega) (by omega) (fun M39 e40 => ?_)
        have hI41 : zI G M39 := hI14.put e40 ((zM57 h0) u10) rfl (by omega)
        have hK42 := hK15.upA e40 rfl
        have hK43 := hK16.upA e40 rfl
        refine q_iinc C [.ref (w.2.1 + a), zi v1, zi v2, zi x4, zi x8, zi (u10 + 1)] dX12_lexes_41 (n := 44) rfl rfl rfl rfl ?_
        refine q_goto C 18 dX12_lexes_44 rfl ?_
        exact zK.weak (ih21 (u10 + 1) M39 J13 hI41 hK42 hK43 (by omega) (by omega) (by omega)) (zwk_c (zwk_c (zwk_c (zwk_c (zwk_c (zwk_c zwk_e))))))
  exact zK.weak (L_19 _ 0 M J hI hK0 (zMd.rf : zMd a [17] [] [] M M) (by omega) (by omega) (Int.self_le_toNat _)) (zwk_c (zwk_c (zwk_c (zwk_c (zwk_c (zwk_c zwk_e))))))
theorem c_X12_lexesTape {w : zWp} {T : zTl} {M : zMm} {J : zJm} {R : zRm'} {G : zGt} {F : zRm'} {a : Nat} (hI : zI G M) (hF : zF F R) (h0 : zModel T F G a) : zCt w 4 0 0 yX12_lexesTape cX12_lexesTape 3 (some .boolean) [.ref (w.2.1 + a)] (T, M, J, R) (zPi T R G (fun x M2 => (zMd a [9, 10, 11, 12, 13, 14, 15, 16, 17] [23, 24, 25, 26, 27, 28, 29, 34] [(18, 11), (18, 12), (18, 13), (18, 14)] M M2) ∧ (x = 0 ∨ x = 1) ∧ (x = 0 ∨ M2 a 25 = 440 ∧ M2 a 26 = 3500 ∧ 0 ≤ M2 a 24 ∧ M2 a 24 ≤ 440) ∧ (x = 0 ∨ zLy M2 a 440))) := by
  refine zCt.of rfl (Nat.le_of_ble_eq_true rfl) ?_
  intro p e s m args below meth c C
  obtain ⟨Po, hPo⟩ : ∃ Po, Po = zPi T R G (fun x M2 => (zMd a [9, 10, 11, 12, 13, 14, 15, 16, 17] [23, 24, 25, 26, 27, 28, 29, 34] [(18, 11), (18, 12), (18, 13), (18, 14)] M M2) ∧ (x = 0 ∨ x = 1) ∧ (x = 0 ∨ M2 a 25 = 440 ∧ M2 a 26 = 3500 ∧ 0 ≤ M2 a 24 ∧ M2 a 24 ≤ 440) ∧ (x = 0 ∨ zLy M2 a 440)) := ⟨_, rfl⟩
  rw [← hPo]
  have hK0 : zMd a [9, 10, 11, 12, 13, 14, 15, 16, 17] [23, 24, 25, 26, 27, 28, 29, 34] [(18, 11), (18, 12), (18, 13), (18, 14)] M M := zMd.rf
  have gk_size := zI.at hI (zM6 h0)
  show zK w p e 4 0 0 s m args below meth c 3 T Po 0 [.ref (w.2.1 + a), .null, .null] [] (T, M, J, R)
  refine q_aload_n C dX12_lexesTape_0 (n := 1) rfl rfl ?_
  refine q_iconst C dX12_lexesTape_1 (n := 2) rfl ?_
  refine q_callVp C dX12_lexesTape_2 (n := 5) rfl m_X12_296 v_yX12_badByte (zM0 h0) ⟨by decide, rfl⟩ (c_X12_badByte (w := w) (J := J) hI hF h0 0 (by omega)) (Nat.le_of_ble_eq_true rfl) rfl rfl (Nat.le_of_ble_eq_true rfl) ⟨Nat.le_refl _, Nat.le_refl _⟩ (fun x3 h4 => ?_)
  obtain ⟨h1, h2⟩ := h4
  refine q_istore_n C [.ref (w.2.1 + a), zi x3, .null] dX12_lexesTape_5 (n := 6) rfl rfl rfl ?_
  refine q_iload_n C dX12_lexesTape_6 (n := 7) rfl rfl ?_
  refine q_if_lt C 19 dX12_lexesTape_7 (n := 10) rfl rfl (by omega) (fun h5 => ?_) (fun h5 => ?_)
  · refine q_iconst C dX12_lexesTape_19 (n := 20) rfl ?_
    refine q_istore_n C [.ref (w.2.1 + a), zi x3, zi 0] dX12_lexesTape_20 (n := 21) rfl rfl rfl ?_
    have L_15 : ∀ n16 : Nat, ∀ (u6 : Int) (M8 : zMm) (J9 : zJm), zI G M8 → zMd a [9, 10, 11, 12, 13, 14, 15, 16, 17] [23, 24, 25, 26, 27, 28, 29, 34] [(18, 11), (18, 12), (18, 13), (18, 14)] M M8 → zMd a [17] [] [] M M8 → (-2147483648 ≤ u6 ∧ u6 ≤ 2147483647) → (0 ≤ u6 ∧ u6 ≤ M a 3) → (M a 3 - u6 + 1 ≤ (n16 : Int)) → zK w p e 4 0 0 s m args below meth c 3 T Po 21 [.ref (w.2.1 + a), .null, zi u6] [] (T, M8, J9, R) := by
      intro n16
      induction n16 with
      | zero =>
        intro u6 M8 J9 hI10 hK11 hK12 h13 h14 hm18
        exfalso
        omega
      | succ n16 ih17 =>
        intro u6 M8 J9 hI10 hK11 hK12 h13 h14 hm18
        refine q_iload_n C dX12_lexesTape_21 (n := 22) rfl rfl ?_
        refine q_aload_n C dX12_lexesTape_22 (n := 23) rfl rfl ?_
        have g19 := zI.at hI (zM6 h0)
        refine q_getI C dX12_lexesTape_23 (n := 26) rfl f_X12_274 (zM0 h0) (v := M a 3) (hK12.getS rfl rfl) ?_
        refine q_icmp_ge C 47 dX12_lexesTape_26 (n := 29) rfl rfl (by omega) (fun h20 => ?_) (fun h20 => ?_)
        · refine q_aload_n C dX12_lexesTape_47 (n := 48) rfl rfl ?_
          refine q_aload_n C dX12_lexesTape_48 (n := 49) rfl rfl ?_
          refine q_getI C dX12_lexesTape_49 (n := 52) rfl f_X12_274 (zM0 h0) (v := M a 3) (hK12.getS rfl rfl) ?_
          refine q_iconst C dX12_lexesTape_52 (n := 53) rfl ?_
          refine q_iconst C dX12_lexesTape_53 (n := 54) rfl ?_
          refine q_callVi C dX12_lexesTape_54 (n := 57) rfl m_X12_403 v_yX12_lexesPool (zM0 h0) ⟨by decide, rfl⟩ (c_X12_lexesPool (w := w) (J := J9) hI10 hF h0 (M a 3) (-1) (-1) (by omega) (by omega) (by omega)) (Nat.le_of_ble_eq_true rfl) rfl rfl (Nat.le_of_ble_eq_true rfl) ⟨Nat.le_refl _, Nat.le_refl _⟩ (fun x32 M28 J29  hI30 h31 => ?_)
          obtain ⟨hk33, h21, h22, h23, h24, h25, h26, h27⟩ := h31
          have hK34 := hK11.tr hk33 rfl rfl rfl
          exact q_zret C dX12_lexesTape_57 ⟨rfl, rfl⟩ (by omega) (by rw [hPo]; exact ⟨x32, M28, J29, rfl, rfl, hI30, hK34, by omega, by omega, Or.inr h27⟩)
        · refine q_aload_n C dX12_lexesTape_29 (n := 30) rfl rfl ?_
          refine q_getR C dX12_lexesTape_30 (n := 33) rfl f_X12_65 (zM0 h0) (hF _ _ _ (zM55 h0)) ?_
          refine q_iload_n C dX12_lexesTape_33 (n := 34) rfl rfl ?_
          refine q_aload_n C dX12_lexesTape_34 (n := 35) rfl rfl ?_
          refine q_getR C dX12_lexesTape_35 (n := 38) rfl f_X12_13 (zM0 h0) (hF _ _ _ (zM2 h0)) ?_
          refine q_iload_n C dX12_lexesTape_38 (n := 39) rfl rfl ?_
          have g35 := zI.at hI ((zM4 h0) u6)
          refine q_bald C dX12_lexesTape_39 (n := 40) rfl (zM3 h0) (by omega) (v := M (a + 1) u6) (hK12.getA rfl rfl rfl) ?_
          refine q_bast C dX12_lexesTape_40 (n := 41) rfl (zM56 h0) (by omega) (by omega) (fun M36 e37 => ?_)
          have hI38 : zI G M36 := hI10.put e37 ((zM57 h0) u6) rfl (by omega)
          have hK39 := hK11.upA e37 rfl
          have hK40 := hK12.upA e37 rfl
          refine q_iinc C [.ref (w.2.1 + a), .null, zi (u6 + 1)] dX12_lexesTape_41 (n := 44) rfl rfl rfl rfl ?_
          refine q_goto C 21 dX12_lexesTape_44 rfl ?_
          exact zK.weak (ih17 (u6 + 1) M36 J9 hI38 hK39 hK40 (by omega) (by omega) (by omega)) (zwk_c (zwk_n (zwk_c zwk_e)))
    exact zK.weak (L_15 _ 0 M J hI hK0 (zMd.rf : zMd a [17] [] [] M M) (by omega) (by omega) (Int.self_le_toNat _)) (zwk_c (zwk_n (zwk_c zwk_e)))
  · refine q_aload_n C dX12_lexesTape_10 (n := 11) rfl rfl ?_
    refine q_iconst C dX12_lexesTape_11 (n := 12) rfl ?_
    refine q_iconst C dX12_lexesTape_12 (n := 13) rfl ?_
    refine q_iconst C dX12_lexesTape_13 (n := 14) rfl ?_
    refine q_iload_n C dX12_lexesTape_14 (n := 15) rfl rfl ?_
    refine q_callVi C dX12_lexesTape_15 (n := 18) rfl m_X12_373 v_yX12_bad (zM0 h0) ⟨by decide, rfl⟩ (c_X12_bad (w := w) (J := J) hI hF h0 1 (-1) (-1) x3 (by omega) (by omega) (by omega) (by omega)) (Nat.le_of_ble_eq_true rfl) rfl rfl (Nat.le_of_ble_eq_true rfl) ⟨Nat.le_refl _, Nat.le_refl _⟩ (fun x47 M43 J44  hI45 h46 => ?_)
    obtain ⟨hk48, h41, h42⟩ := h46
    have hK49 := hK0.tr hk48 rfl rfl rfl
    exact q_zret C dX12_lexesTape_18 ⟨rfl, rfl⟩ (by omega) (by rw [hPo]; exact ⟨x47, M43, J44, rfl, rfl, hI45, hK49, by omega, by have hz50 : M43 a 25 = M a 25 := (hk48.getS rfl rfl); have hz51 : M43 a 26 = M a 26 := (hk48.getS rfl rfl); have hz52 : M43 a 24 = M a 24 := (hk48.getS rfl rfl); omega, Or.inl (by omega)⟩)
theorem c_X12_isSign {w : zWp} {T : zTl} {M : zMm} {J : zJm} {R : zRm'} {G : zGt} {F : zRm'} {a : Nat} (hI : zI G M) (hF : zF F R) (h0 : zModel T F G a) (v1 : Int) (v2 : Int) (p1 : 0 ≤ v1 ∧ v1 ≤ 18599) (p2 : -2147483648 ≤ v2 ∧ v2 ≤ 2147483647) : zCt w 2 0 0 yX12_isSign cX12_isSign 3 (some .boolean) [.ref (w.2.1 + a), zi v1, zi v2] (T, M, J, R) (zPp T M J R (fun x => (x = 0 ∨ x = 1) ∧ (x = 0 ∨ M (a + 9) v1 = 3 ∧ M (a + 11) v1 = 1) ∧ (zSgn M a v1 v2 x))) := by
  refine zCt.of rfl (Nat.le_of_ble_eq_true rfl) ?_
  intro p e s m args below meth c C
  obtain ⟨Po, hPo⟩ : ∃ Po, Po = zPp T M J R (fun x => (x = 0 ∨ x = 1) ∧ (x = 0 ∨ M (a + 9) v1 = 3 ∧ M (a + 11) v1 = 1) ∧ (zSgn M a v1 v2 x)) := ⟨_, rfl⟩
  rw [← hPo]
  show zK w p e 2 0 0 s m args below meth c 3 T Po 0 [.ref (w.2.1 + a), zi v1, zi v2] [] (T, M, J, R)
  refine q_aload_n C dX12_isSign_0 (n := 1) rfl rfl ?_
  refine q_getR C dX12_isSign_1 (n := 4) rfl f_X12_40 (zM0 h0) (hF _ _ _ (zM31 h0)) ?_
  refine q_iload_n C dX12_isSign_4 (n := 5) rfl rfl ?_
  have g1 := zI.at hI ((zM33 h0) v1)
  refine q_iald C dX12_isSign_5 (n := 6) rfl (zM32 h0) (by omega) (v := M (a + 9) v1) rfl ?_
  refine q_iconst C dX12_isSign_6 (n := 7) rfl ?_
  refine q_icmp_ne C 34 dX12_isSign_7 (n := 10) rfl rfl (by omega) (fun h2 => ?_) (fun h2 => ?_)
  · refine q_iconst C dX12_isSign_34 (n := 35) rfl ?_
    exact q_zret C dX12_isSign_35 ⟨rfl, rfl⟩ (by omega) (by rw [hPo]; exact ⟨0, rfl, rfl, by omega, by omega, ⟨fun q => absurd rfl q, fun q => by unfold zHash at q; omega⟩⟩)
  · refine q_aload_n C dX12_isSign_10 (n := 11) rfl rfl ?_
    refine q_getR C dX12_isSign_11 (n := 14) rfl f_X12_46 (zM0 h0) (hF _ _ _ (zM37 h0)) ?_
    refine q_iload_n C dX12_isSign_14 (n := 15) rfl rfl ?_
    have g3 := zI.at hI ((zM39 h0) v1)
    refine q_iald C dX12_isSign_15 (n := 16) rfl (zM38 h0) (by omega) (v := M (a + 11) v1) rfl ?_
    refine q_iconst C dX12_isSign_16 (n := 17) rfl ?_
    refine q_icmp_ne C 34 dX12_isSign_17 (n := 20) rfl rfl (by omega) (fun h4 => ?_) (fun h4 => ?_)
    · refine q_iconst C dX12_isSign_34 (n := 35) rfl ?_
      exact q_zret C dX12_isSign_35 ⟨rfl, rfl⟩ (by omega) (by rw [hPo]; exact ⟨0, rfl, rfl, by omega, by omega, ⟨fun q => absurd rfl q, fun q => by unfold zHash at q; omega⟩⟩)
    · refine q_aload_n C dX12_isSign_20 (n := 21) rfl rfl ?_
      refine q_iload_n C dX12_isSign_21 (n := 22) rfl rfl ?_
      refine q_iconst C dX12_isSign_22 (n := 23) rfl ?_
      refine q_callVp C dX12_isSign_23 (n := 26) rfl m_X12_370 v_yX12_byteIn (zM0 h0) ⟨by decide, rfl⟩ (c_X12_byteIn (w := w) (J := J) hI hF h0 v1 0 (by omega) (by omega)) (Nat.le_of_ble_eq_true rfl) rfl rfl (Nat.le_of_ble_eq_true rfl) ⟨Nat.le_refl _, Nat.le_refl _⟩ (fun x7 h8 => ?_)
      obtain ⟨h5, h6⟩ := h8
      have gy9 : x7 = zBy M a v1 0 := h6
      refine q_iload_n C dX12_isSign_26 (n := 27) rfl rfl ?_
      refine q_icmp_ne C 34 dX12_isSign_27 (n := 30) rfl rfl (by omega) (fun h10 => ?_) (fun h10 => ?_)
      · refine q_iconst C dX12_isSign_34 (n := 35) rfl ?_
        exact q_zret C dX12_isSign_35 ⟨rfl, rfl⟩ (by omega) (by rw [hPo]; exact ⟨0, rfl, rfl, by omega, by omega, ⟨fun q => absurd rfl q, fun q => by unfold zHash at q; omega⟩⟩)
      · refine q_iconst C dX12_isSign_30 (n := 31) rfl ?_
        refine q_goto C 35 dX12_isSign_31 rfl ?_
        exact q_zret C dX12_isSign_35 ⟨rfl, rfl⟩ (by omega) (by rw [hPo]; exact ⟨1, rfl, rfl, by omega, by omega, ⟨fun _ => by unfold zHash; omega, fun _ => by decide⟩⟩)
theorem c_X12_isTwo {w : zWp} {T : zTl} {M : zMm} {J : zJm} {R : zRm'} {G : zGt} {F : zRm'} {a : Nat} (hI : zI G M) (hF : zF F R) (h0 : zModel T F G a) (v1 : Int) (v2 : Int) (v3 : Int) (p1 : 0 ≤ v1 ∧ v1 ≤ 18599) (p2 : -2147483648 ≤ v2 ∧ v2 ≤ 2147483647) (p3 : -2147483648 ≤ v3 ∧ v3 ≤ 2147483647) : zCt w 2 0 0 yX12_isTwo cX12_isTwo 4 (some .boolean) [.ref (w.2.1 + a), zi v1, zi v2, zi v3] (T, M, J, R) (zPp T M J R (fun x => (x = 0 ∨ x = 1))) := by
  refine zCt.of rfl (Nat.le_of_ble_eq_true rfl) ?_
  intro p e s m args below meth c C
  obtain ⟨Po, hPo⟩ : ∃ Po, Po = zPp T M J R (fun x => (x = 0 ∨ x = 1)) := ⟨_, rfl⟩
  rw [← hPo]
  show zK w p e 2 0 0 s m args below meth c 4 T Po 0 [.ref (w.2.1 + a), zi v1, zi v2, zi v3] [] (T, M, J, R)
  refine q_aload_n C dX12_isTwo_0 (n := 1) rfl rfl ?_
  refine q_getR C dX12_isTwo_1 (n := 4) rfl f_X12_40 (zM0 h0) (hF _ _ _ (zM31 h0)) ?_
  refine q_iload_n C dX12_isTwo_4 (n := 5) rfl rfl ?_
  have g1 := zI.at hI ((zM33 h0) v1)
  refine q_iald C dX12_isTwo_5 (n := 6) rfl (zM32 h0) (by omega) (v := M (a + 9) v1) rfl ?_
  refine q_iconst C dX12_isTwo_6 (n := 7) rfl ?_
  refine q_icmp_ne C 44 dX12_isTwo_7 (n := 10) rfl rfl (by omega) (fun h2 => ?_) (fun h2 => ?_)
  · refine q_iconst C dX12_isTwo_44 (n := 45) rfl ?_
    exact q_zret C dX12_isTwo_45 ⟨rfl, rfl⟩ (by omega) (by rw [hPo]; exact ⟨0, rfl, rfl, by omega⟩)
  · refine q_aload_n C dX12_isTwo_10 (n := 11) rfl rfl ?_
    refine q_getR C dX12_isTwo_11 (n := 14) rfl f_X12_46 (zM0 h0) (hF _ _ _ (zM37 h0)) ?_
    refine q_iload_n C dX12_isTwo_14 (n := 15) rfl rfl ?_
    have g3 := zI.at hI ((zM39 h0) v1)
    refine q_iald C dX12_isTwo_15 (n := 16) rfl (zM38 h0) (by omega) (v := M (a + 11) v1) rfl ?_
    refine q_iconst C dX12_isTwo_16 (n := 17) rfl ?_
    refine q_icmp_ne C 44 dX12_isTwo_17 (n := 20) rfl rfl (by omega) (fun h4 => ?_) (fun h4 => ?_)
    · refine q_iconst C dX12_isTwo_44 (n := 45) rfl ?_
      exact q_zret C dX12_isTwo_45 ⟨rfl, rfl⟩ (by omega) (by rw [hPo]; exact ⟨0, rfl, rfl, by omega⟩)
    · refine q_aload_n C dX12_isTwo_20 (n := 21) rfl rfl ?_
      refine q_iload_n C dX12_isTwo_21 (n := 22) rfl rfl ?_
      refine q_iconst C dX12_isTwo_22 (n := 23) rfl ?_
      refine q_callVp C dX12_isTwo_23 (n := 26) rfl m_X12_370 v_yX12_byteIn (zM0 h0) ⟨by decide, rfl⟩ (c_X12_byteIn (w := w) (J := J) hI hF h0 v1 0 (by omega) (by omega)) (Nat.le_of_ble_eq_true rfl) rfl rfl (Nat.le_of_ble_eq_true rfl) ⟨Nat.le_refl _, Nat.le_refl _⟩ (fun x7 h8 => ?_)
      obtain ⟨h5, h6⟩ := h8
      refine q_iload_n C dX12_isTwo_26 (n := 27) rfl rfl ?_
      refine q_icmp_ne C 44 dX12_isTwo_27 (n := 30) rfl rfl (by omega) (fun h9 => ?_) (fun h9 => ?_)
      · refine q_iconst C dX12_isTwo_44 (n := 45) rfl ?_
        exact q_zret C dX12_isTwo_45 ⟨rfl, rfl⟩ (by omega) (by rw [hPo]; exact ⟨0, rfl, rfl, by omega⟩)
      · refine q_aload_n C dX12_isTwo_30 (n := 31) rfl rfl ?_
        refine q_iload_n C dX12_isTwo_31 (n := 32) rfl rfl ?_
        refine q_iconst C dX12_isTwo_32 (n := 33) rfl ?_
        refine q_callVp C dX12_isTwo_33 (n := 36) rfl m_X12_370 v_yX12_byteIn (zM0 h0) ⟨by decide, rfl⟩ (c_X12_byteIn (w := w) (J := J) hI hF h0 v1 1 (by omega) (by omega)) (Nat.le_of_ble_eq_true rfl) rfl rfl (Nat.le_of_ble_eq_true rfl) ⟨Nat.le_refl _, Nat.le_refl _⟩ (fun x12 h13 => ?_)
        obtain ⟨h10, h11⟩ := h13
        refine q_iload_n C dX12_isTwo_36 (n := 37) rfl rfl ?_
        refine q_icmp_ne C 44 dX12_isTwo_37 (n := 40) rfl rfl (by omega) (fun h14 => ?_) (fun h14 => ?_)
        · refine q_iconst C dX12_isTwo_44 (n := 45) rfl ?_
          exact q_zret C dX12_isTwo_45 ⟨rfl, rfl⟩ (by omega) (by rw [hPo]; exact ⟨0, rfl, rfl, by omega⟩)
        · refine q_iconst C dX12_isTwo_40 (n := 41) rfl ?_
          refine q_goto C 45 dX12_isTwo_41 rfl ?_
          exact q_zret C dX12_isTwo_45 ⟨rfl, rfl⟩ (by omega) (by rw [hPo]; exact ⟨1, rfl, rfl, by omega⟩)
theorem c_X12_isHash {w : zWp} {T : zTl} {M : zMm} {J : zJm} {R : zRm'} {G : zGt} {F : zRm'} {a : Nat} (hI : zI G M) (hF : zF F R) (h0 : zModel T F G a) (v1 : Int) (p1 : 0 ≤ v1 ∧ v1 ≤ 18599) : zCt w 3 0 0 yX12_isHash cX12_isHash 2 (some .boolean) [.ref (w.2.1 + a), zi v1] (T, M, J, R) (zPp T M J R (fun x => (x = 0 ∨ x = 1) ∧ (zSgn M a v1 35 x))) := by
  refine zCt.of rfl (Nat.le_of_ble_eq_true rfl) ?_
  intro p e s m args below meth c C
  obtain ⟨Po, hPo⟩ : ∃ Po, Po = zPp T M J R (fun x => (x = 0 ∨ x = 1) ∧ (zSgn M a v1 35 x)) := ⟨_, rfl⟩
  rw [← hPo]
  show zK w p e 3 0 0 s m args below meth c 2 T Po 0 [.ref (w.2.1 + a), zi v1] [] (T, M, J, R)
  refine q_aload_n C dX12_isHash_0 (n := 1) rfl rfl ?_
  refine q_iload_n C dX12_isHash_1 (n := 2) rfl rfl ?_
  refine q_bipush C dX12_isHash_2 (n := 4) rfl (x := 35) (by decide) ?_
  refine q_callVp C dX12_isHash_4 (n := 7) rfl m_X12_406 v_yX12_isSign (zM0 h0) ⟨by decide, rfl⟩ (c_X12_isSign (w := w) (J := J) hI hF h0 v1 35 (by omega) (by omega)) (Nat.le_of_ble_eq_true rfl) rfl rfl (Nat.le_of_ble_eq_true rfl) ⟨Nat.le_refl _, Nat.le_refl _⟩ (fun x4 h5 => ?_)
  obtain ⟨h1, h2, h3⟩ := h5
  exact q_zret C dX12_isHash_7 ⟨rfl, rfl⟩ (by omega) (by rw [hPo]; exact ⟨x4, rfl, rfl, by omega, h3⟩)
theorem c_X12_isLike {w : zWp} {T : zTl} {M : zMm} {J : zJm} {R : zRm'} {G : zGt} {F : zRm'} {a : Nat} (hI : zI G M) (hF : zF F R) (h0 : zModel T F G a) (v1 : Int) (v2 : Int) (p1 : 0 ≤ v1 ∧ v1 ≤ 18599) (p2 : 0 ≤ v2 ∧ v2 ≤ 18599) : zCt w 2 0 0 yX12_isLike cX12_isLike 5 (some .boolean) [.ref (w.2.1 + a), zi v1, zi v2] (T, M, J, R) (zPp T M J R (fun x => (x = 0 ∨ x = 1) ∧ (zLkp M a v1 v2 x))) := by
  refine zCt.of rfl (Nat.le_of_ble_eq_true rfl) ?_
  intro p e s m args below meth c C
  obtain ⟨Po, hPo⟩ : ∃ Po, Po = zPp T M J R (fun x => (x = 0 ∨ x = 1) ∧ (zLkp M a v1 v2 x)) := ⟨_, rfl⟩
  rw [← hPo]
  show zK w p e 2 0 0 s m args below meth c 5 T Po 0 [.ref (w.2.1 + a), zi v1, zi v2, .null, .null] [] (T, M, J, R)
  refine q_aload_n C dX12_isLike_0 (n := 1) rfl rfl ?_
  refine q_getR C dX12_isLike_1 (n := 4) rfl f_X12_46 (zM0 h0) (hF _ _ _ (zM37 h0)) ?_
  refine q_iload_n C dX12_isLike_4 (n := 5) rfl rfl ?_
  have g1 := zI.at hI ((zM39 h0) v1)
  refine q_iald C dX12_isLike_5 (n := 6) rfl (zM38 h0) (by omega) (v := M (a + 11) v1) rfl ?_
  refine q_aload_n C dX12_isLike_6 (n := 7) rfl rfl ?_
  refine q_getR C dX12_isLike_7 (n := 10) rfl f_X12_46 (zM0 h0) (hF _ _ _ (zM37 h0)) ?_
  refine q_iload_n C dX12_isLike_10 (n := 11) rfl rfl ?_
  have g2 := zI.at hI ((zM39 h0) v2)
  refine q_iald C dX12_isLike_11 (n := 12) rfl (zM38 h0) (by omega) (v := M (a + 11) v2) rfl ?_
  have J_7 : ∀ (u3 : Int), (-2147483648 ≤ u3 ∧ u3 ≤ 2147483647) → (u3 = 0 ∨ u3 = 1) → (zLkq M a v1 v2 0 u3) → zK w p e 2 0 0 s m args below meth c 5 T Po 20 [.ref (w.2.1 + a), zi v1, zi v2, .null, .null] [zi u3] (T, M, J, R) := by
    intro u3 h4 h5 h6
    refine q_istore_n C [.ref (w.2.1 + a), zi v1, zi v2, zi u3, .null] dX12_isLike_20 (n := 21) rfl rfl rfl ?_
    refine q_iconst C dX12_isLike_21 (n := 22) rfl ?_
    refine q_istore C [.ref (w.2.1 + a), zi v1, zi v2, zi u3, zi 0] dX12_isLike_22 (n := 24) rfl rfl rfl ?_
    have L_15 : ∀ n16 : Nat, ∀ (u8 : Int) (u9 : Int), (-2147483648 ≤ u8 ∧ u8 ≤ 2147483647) → (-2147483648 ≤ u9 ∧ u9 ≤ 2147483647) → (0 ≤ u9 ∧ u9 ≤ 30 ∧ u9 ≤ M (a + 11) v1) → (u8 = 0 ∨ u8 = 1) → (zLkq M a v1 v2 u9 u8) → (30 - u9 + 1 ≤ (n16 : Int)) → zK w p e 2 0 0 s m args below meth c 5 T Po 24 [.ref (w.2.1 + a), zi v1, zi v2, zi u8, zi u9] [] (T, M, J, R) := by
      intro n16
      induction n16 with
      | zero =>
        intro u8 u9 h10 h11 h12 h13 h14 hm18
        exfalso
        omega
      | succ n16 ih17 =>
        intro u8 u9 h10 h11 h12 h13 h14 hm18
        refine q_iload C dX12_isLike_24 (n := 26) rfl rfl ?_
        refine q_aload_n C dX12_isLike_26 (n := 27) rfl rfl ?_
        refine q_getR C dX12_isLike_27 (n := 30) rfl f_X12_46 (zM0 h0) (hF _ _ _ (zM37 h0)) ?_
        refine q_iload_n C dX12_isLike_30 (n := 31) rfl rfl ?_
        refine q_iald C dX12_isLike_31 (n := 32) rfl (zM38 h0) (by omega) (v := M (a + 11) v1) rfl ?_
        refine q_icmp_ge C 68 dX12_isLike_32 (n := 35) rfl rfl (by omega) (fun h19 => ?_) (fun h19 => ?_)
        · refine q_iload_n C dX12_isLike_68 (n := 69) rfl rfl ?_
          exact q_zret C dX12_isLike_69 ⟨rfl, rfl⟩ (by omega) (by rw [hPo]; exact ⟨u8, rfl, rfl, by omega, (zLkq.end h14 (by omega) (by omega))⟩)
        · refine q_iload_n C dX12_isLike_35 (n := 36) rfl rfl ?_
          refine q_if_eq C 68 dX12_isLike_36 (n := 39) rfl rfl (by omega) (fun h20 => ?_) (fun h20 => ?_)
          · refine q_iload_n C dX12_isLike_68 (n := 69) rfl rfl ?_
            exact q_zret C dX12_isLike_69 ⟨rfl, rfl⟩ (by omega) (by rw [hPo]; exact ⟨u8, rfl, rfl, by omega, (zLkq.end h14 (by omega) (by omega))⟩)
          · refine q_aload_n C dX12_isLike_39 (n := 40) rfl rfl ?_
            refine q_iload_n C dX12_isLike_40 (n := 41) rfl rfl ?_
            refine q_iload C dX12_isLike_41 (n := 43) rfl rfl ?_
            refine q_callVp C dX12_isLike_43 (n := 46) rfl m_X12_370 v_yX12_byteIn (zM0 h0) ⟨by decide, rfl⟩ (c_X12_byteIn (w := w) (J := J) hI hF h0 v1 u9 (by omega) (by omega)) (Nat.le_of_ble_eq_true rfl) rfl rfl (Nat.le_of_ble_eq_true rfl) ⟨Nat.le_refl _, Nat.le_refl _⟩ (fun x23 h24 => ?_)
            obtain ⟨h21, h22⟩ := h24
            refine q_aload_n C dX12_isLike_46 (n := 47) rfl rfl ?_
            refine q_iload_n C dX12_isLike_47 (n := 48) rfl rfl ?_
            refine q_iload C dX12_isLike_48 (n := 50) rfl rfl ?_
            refine q_callVp C dX12_isLike_50 (n := 53) rfl m_X12_370 v_yX12_byteIn (zM0 h0) ⟨by decide, rfl⟩ (c_X12_byteIn (w := w) (J := J) hI hF h0 v2 u9 (by omega) (by omega)) (Nat.le_of_ble_eq_true rfl) rfl rfl (Nat.le_of_ble_eq_true rfl) ⟨Nat.le_refl _, Nat.le_refl _⟩ (fun x27 h28 => ?_)
            obtain ⟨h25, h26⟩ := h28
            have J_33 : ∀ (u29 : Int), (-2147483648 ≤ u29 ∧ u29 ≤ 2147483647) → (u29 = 0 ∨ u29 = 1) → (zLkq M a v1 v2 (u9 + 1) u29) → zK w p e 2 0 0 s m args below meth c 5 T Po 61 [.ref (w.2.1 + a), zi v1, zi v2, .null, zi u9] [zi u29] (T, M, J, R) := by
              intro u29 h30 h31 h32
              refine q_istore_n C [.ref (w.2.1 + a), zi v1, zi v2, zi u29, zi u9] dX12_isLike_61 (n := 62) rfl rfl rfl ?_
              refine q_iinc C [.ref (w.2.1 + a), zi v1, zi v2, zi u29, zi (u9 + 1)] dX12_isLike_62 (n := 65) rfl rfl rfl rfl ?_
              refine q_goto C 24 dX12_isLike_65 rfl ?_
              exact zK.weak (ih17 u29 (u9 + 1) (by omega) (by omega) (by omega) (by omega) h32 (by omega)) (zwk_c (zwk_c (zwk_c (zwk_c (zwk_c zwk_e)))))
            refine q_icmp_ne C 60 dX12_isLike_53 (n := 56) rfl rfl (by omega) (fun h34 => ?_) (fun h34 => ?_)
            · refine q_iconst C dX12_isLike_60 (n := 61) rfl ?_
              exact zK.weak (J_33 0 (by omega) (by omega) (zLkq.st0 (by omega) h22 h26 (by omega))) (zwk_c (zwk_c (zwk_c (zwk_n (zwk_c zwk_e)))))
            · refine q_iconst C dX12_isLike_56 (n := 57) rfl ?_
              refine q_goto C 61 dX12_isLike_57 rfl ?_
              exact zK.weak (J_33 1 (by omega) (by omega) (zLkq.st1 h14 (by omega) h22 h26 (by omega))) (zwk_c (zwk_c (zwk_c (zwk_n (zwk_c zwk_e)))))
    exact zK.weak (L_15 _ u3 0 (by omega) (by omega) (by omega) (by omega) h6 (Int.self_le_toNat _)) (zwk_c (zwk_c (zwk_c (zwk_c (zwk_c zwk_e)))))
  refine q_icmp_ne C 19 dX12_isLike_12 (n := 15) rfl rfl (by omega) (fun h35 => ?_) (fun h35 => ?_)
  · refine q_iconst C dX12_isLike_19 (n := 20) rfl ?_
    exact zK.weak (J_7 0 (by omega) (by omega) (zLkq.zero (by omega))) (zwk_c (zwk_c (zwk_c (zwk_n (zwk_n zwk_e)))))
  · refine q_iconst C dX12_isLike_15 (n := 16) rfl ?_
    refine q_goto C 20 dX12_isLike_16 rfl ?_
    exact zK.weak (J_7 1 (by omega) (by omega) (zLkq.one (by omega))) (zwk_c (zwk_c (zwk_c (zwk_n (zwk_n zwk_e)))))
theorem c_X12_isDefined {w : zWp} {T : zTl} {M : zMm} {J : zJm} {R : zRm'} {G : zGt} {F : zRm'} {a : Nat} (hI : zI G M) (hF : zF F R) (h0 : zModel T F G a) (v1 : Int) (p1 : 0 ≤ v1 ∧ v1 ≤ 18599) : zCt w 2 0 0 yX12_isDefined cX12_isDefined 4 (some .boolean) [.ref (w.2.1 + a), zi v1] (T, M, J, R) (zPp T M J R (fun x => (x = 0 ∨ x = 1) ∧ (x = 0 ∨ M (a + 11) v1 = 7))) := by
  refine zCt.of rfl (Nat.le_of_ble_eq_true rfl) ?_
  intro p e s m args below meth c C
  obtain ⟨Po, hPo⟩ : ∃ Po, Po = zPp T M J R (fun x => (x = 0 ∨ x = 1) ∧ (x = 0 ∨ M (a + 11) v1 = 7)) := ⟨_, rfl⟩
  rw [← hPo]
  show zK w p e 2 0 0 s m args below meth c 4 T Po 0 [.ref (w.2.1 + a), zi v1, .null, .null] [] (T, M, J, R)
  refine q_aload_n C dX12_isDefined_0 (n := 1) rfl rfl ?_
  refine q_getR C dX12_isDefined_1 (n := 4) rfl f_X12_40 (zM0 h0) (hF _ _ _ (zM31 h0)) ?_
  refine q_iload_n C dX12_isDefined_4 (n := 5) rfl rfl ?_
  have g1 := zI.at hI ((zM33 h0) v1)
  refine q_iald C dX12_isDefined_5 (n := 6) rfl (zM32 h0) (by omega) (v := M (a + 9) v1) rfl ?_
  have J_6 : ∀ (u2 : Int), (-2147483648 ≤ u2 ∧ u2 ≤ 2147483647) → (u2 = 0 ∨ u2 = 1) → (u2 = 0 ∨ M (a + 11) v1 = 7) → zK w p e 2 0 0 s m args below meth c 4 T Po 25 [.ref (w.2.1 + a), zi v1, .null, .null] [zi u2] (T, M, J, R) := by
    intro u2 h3 h4 h5
    refine q_istore_n C [.ref (w.2.1 + a), zi v1, zi u2, .null] dX12_isDefined_25 (n := 26) rfl rfl rfl ?_
    refine q_iconst C dX12_isDefined_26 (n := 27) rfl ?_
    refine q_istore_n C [.ref (w.2.1 + a), zi v1, zi u2, zi 0] dX12_isDefined_27 (n := 28) rfl rfl rfl ?_
    have L_14 : ∀ n15 : Nat, ∀ (u7 : Int) (u8 : Int), (-2147483648 ≤ u7 ∧ u7 ≤ 2147483647) → (-2147483648 ≤ u8 ∧ u8 ≤ 2147483647) → (0 ≤ u8 ∧ u8 ≤ 7) → (u7 = 0 ∨ u7 = 1) → (u7 = 0 ∨ M (a + 11) v1 = 7) → (7 - u8 + 1 ≤ (n15 : Int)) → zK w p e 2 0 0 s m args below meth c 4 T Po 28 [.ref (w.2.1 + a), zi v1, zi u7, zi u8] [] (T, M, J, R) := by
      intro n15
      induction n15 with
      | zero =>
        intro u7 u8 h9 h10 h11 h12 h13 hm17
        exfalso
        omega
      | succ n15 ih16 =>
        intro u7 u8 h9 h10 h11 h12 h13 hm17
        refine q_iload_n C dX12_isDefined_28 (n := 29) rfl rfl ?_
        refine q_bipush C dX12_isDefined_29 (n := 31) rfl (x := 7) (by decide) ?_
        refine q_icmp_ge C 64 dX12_isDefined_31 (n := 34) rfl rfl (by omega) (fun h18 => ?_) (fun h18 => ?_)
        · refine q_iload_n C dX12_isDefined_64 (n := 65) rfl rfl ?_
          exact q_zret C dX12_isDefined_65 ⟨rfl, rfl⟩ (by omega) (by rw [hPo]; exact ⟨u7, rfl, rfl, by omega, by omega⟩)
        · refine q_iload_n C dX12_isDefined_34 (n := 35) rfl rfl ?_
          refine q_if_eq C 64 dX12_isDefined_35 (n := 38) rfl rfl (by omega) (fun h19 => ?_) (fun h19 => ?_)
          · refine q_iload_n C dX12_isDefined_64 (n := 65) rfl rfl ?_
            exact q_zret C dX12_isDefined_65 ⟨rfl, rfl⟩ (by omega) (by rw [hPo]; exact ⟨u7, rfl, rfl, by omega, by omega⟩)
          · refine q_aload_n C dX12_isDefined_38 (n := 39) rfl rfl ?_
            refine q_iload_n C dX12_isDefined_39 (n := 40) rfl rfl ?_
            refine q_iload_n C dX12_isDefined_40 (n := 41) rfl rfl ?_
            refine q_callVp C dX12_isDefined_41 (n := 44) rfl m_X12_370 v_yX12_byteIn (zM0 h0) ⟨by decide, rfl⟩ (c_X12_byteIn (w := w) (J := J) hI hF h0 v1 u8 (by omega) (by omega)) (Nat.le_of_ble_eq_true rfl) rfl rfl (Nat.le_of_ble_eq_true rfl) ⟨Nat.le_refl _, Nat.le_refl _⟩ (fun x22 h23 => ?_)
            obtain ⟨h20, h21⟩ := h23
            refine q_gst C dX12_isDefined_44 (n := 47) rfl (k := 200) (by decide) ?_
            refine q_iload_n C dX12_isDefined_47 (n := 48) rfl rfl ?_
            refine q_baldT C dX12_isDefined_48 (n := 49) rfl (k := 200) (N := 7) (by decide) (by omega) (fun u24 h25 => ?_)
            have J_29 : ∀ (u26 : Int), (-2147483648 ≤ u26 ∧ u26 ≤ 2147483647) → (u26 = 0 ∨ u26 = 1) → zK w p e 2 0 0 s m args below meth c 4 T Po 57 [.ref (w.2.1 + a), zi v1, .null, zi u8] [zi u26] (T, M, J, R) := by
              intro u26 h27 h28
              refine q_istore_n C [.ref (w.2.1 + a), zi v1, zi u26, zi u8] dX12_isDefined_57 (n := 58) rfl rfl rfl ?_
              refine q_iinc C [.ref (w.2.1 + a), zi v1, zi u26, zi (u8 + 1)] dX12_isDefined_58 (n := 61) rfl rfl rfl rfl ?_
              refine q_goto C 28 dX12_isDefined_61 rfl ?_
              exact zK.weak (ih16 u26 (u8 + 1) (by omega) (by omega) (by omega) (by omega) (by omega) (by omega)) (zwk_c (zwk_c (zwk_c (zwk_c zwk_e))))
            refine q_icmp_ne C 56 dX12_isDefined_49 (n := 52) rfl rfl (by omega) (fun h30 => ?_) (fun h30 => ?_)
            · refine q_iconst C dX12_isDefined_56 (n := 57) rfl ?_
              exact zK.weak (J_29 0 (by omega) (by omega)) (zwk_c (zwk_c (zwk_n (zwk_c zwk_e))))
            · refine q_iconst C dX12_isDefined_52 (n := 53) rfl ?_
              refine q_goto C 57 dX12_isDefined_53 rfl ?_
              exact zK.weak (J_29 1 (by omega) (by omega)) (zwk_c (zwk_c (zwk_n (zwk_c zwk_e))))
    exact zK.weak (L_14 _ u2 0 (by omega) (by omega) (by omega) (by omega) (by omega) (Int.self_le_toNat _)) (zwk_c (zwk_c (zwk_c (zwk_c zwk_e))))
  have J_31 : zK w p e 2 0 0 s m args below meth c 4 T Po 24 [.ref (w.2.1 + a), zi v1, .null, .null] [] (T, M, J, R) := by
    refine q_iconst C dX12_isDefined_24 (n := 25) rfl ?_
    exact zK.weak (J_6 0 (by omega) (by omega) (by omega)) (zwk_c (zwk_c (zwk_n (zwk_n zwk_e))))
  refine q_if_ne C 24 dX12_isDefined_6 (n := 9) rfl rfl (by omega) (fun h32 => ?_) (fun h32 => ?_)
  · exact zK.weak (J_31) (zwk_c (zwk_c (zwk_n (zwk_n zwk_e))))
  · refine q_aload_n C dX12_isDefined_9 (n := 10) rfl rfl ?_
    refine q_getR C dX12_isDefined_10 (n := 13) rfl f_X12_46 (zM0 h0) (hF _ _ _ (zM37 h0)) ?_
    refine q_iload_n C dX12_isDefined_13 (n := 14) rfl rfl ?_
    have g33 := zI.at hI ((zM39 h0) v1)
    refine q_iald C dX12_isDefined_14 (n := 15) rfl (zM38 h0) (by omega) (v := M (a + 11) v1) rfl ?_
    refine q_bipush C dX12_isDefined_15 (n := 17) rfl (x := 7) (by decide) ?_
    refine q_icmp_ne C 24 dX12_isDefined_17 (n := 20) rfl rfl (by omega) (fun h34 => ?_) (fun h34 => ?_)
    · exact zK.weak (J_31) (zwk_c (zwk_c (zwk_n (zwk_n zwk_e))))
    · refine q_iconst C dX12_isDefined_20 (n := 21) rfl ?_
      refine q_goto C 25 dX12_isDefined_21 rfl ?_
      exact zK.weak (J_6 1 (by omega) (by omega) (by omega)) (zwk_c (zwk_c (zwk_n (zwk_n zwk_e))))
theorem c_X12_wordOf {w : zWp} {T : zTl} {M : zMm} {J : zJm} {R : zRm'} {G : zGt} {F : zRm'} {a : Nat} (hI : zI G M) (hF : zF F R) (h0 : zModel T F G a) (v1 : Int) (p1 : 0 ≤ v1 ∧ v1 ≤ 1000) : zCt w 2 0 0 yX12_wordOf cX12_wordOf 3 (some .int) [.ref (w.2.1 + a), zi v1] (T, M, J, R) (zPi T R G (fun x M2 => (zMd a [22] [] [] M M2) ∧ (-1 ≤ x ∧ x ≤ 60) ∧ (x = -1 ∨ v1 < M a 23))) := by
  refine zCt.of rfl (Nat.le_of_ble_eq_true rfl) ?_
  intro p e s m args below meth c C
  obtain ⟨Po, hPo⟩ : ∃ Po, Po = zPi T R G (fun x M2 => (zMd a [22] [] [] M M2) ∧ (-1 ≤ x ∧ x ≤ 60) ∧ (x = -1 ∨ v1 < M a 23)) := ⟨_, rfl⟩
  rw [← hPo]
  have hK0 : zMd a [22] [] [] M M := zMd.rf
  show zK w p e 2 0 0 s m args below meth c 3 T Po 0 [.ref (w.2.1 + a), zi v1, .null] [] (T, M, J, R)
  refine q_iload_n C dX12_wordOf_0 (n := 1) rfl rfl ?_
  refine q_aload_n C dX12_wordOf_1 (n := 2) rfl rfl ?_
  have g1 := zI.at hI (zM58 h0)
  refine q_getI C dX12_wordOf_2 (n := 5) rfl f_X12_355 (zM0 h0) (v := M a 23) rfl ?_
  refine q_icmp_ge C 17 dX12_wordOf_5 (n := 8) rfl rfl (by omega) (fun h2 => ?_) (fun h2 => ?_)
  · refine q_iconst C dX12_wordOf_17 (n := 18) rfl ?_
    exact q_iret C dX12_wordOf_18 ⟨rfl, rfl⟩ (by rw [hPo]; exact ⟨(-1), M, J, rfl, rfl, hI, hK0, by omega, by omega⟩)
  · refine q_aload_n C dX12_wordOf_8 (n := 9) rfl rfl ?_
    refine q_getR C dX12_wordOf_9 (n := 12) rfl f_X12_40 (zM0 h0) (hF _ _ _ (zM31 h0)) ?_
    refine q_iload_n C dX12_wordOf_12 (n := 13) rfl rfl ?_
    have g3 := zI.at hI ((zM33 h0) v1)
    refine q_iald C dX12_wordOf_13 (n := 14) rfl (zM32 h0) (by omega) (v := M (a + 9) v1) rfl ?_
    refine q_if_eq C 19 dX12_wordOf_14 (n := 17) rfl rfl (by omega) (fun h4 => ?_) (fun h4 => ?_)
    · refine q_iconst C dX12_wordOf_19 (n := 20) rfl ?_
      refine q_istore_n C [.ref (w.2.1 + a), zi v1, zi 0] dX12_wordOf_20 (n := 21) rfl rfl rfl ?_
      have L_14 : ∀ n15 : Nat, ∀ (u5 : Int) (M7 : zMm) (J8 : zJm), zI G M7 → zMd a [22] [] [] M M7 → zMd a [22] [] [] M M7 → (-2147483648 ≤ u5 ∧ u5 ≤ 2147483647) → (0 ≤ u5 ∧ u5 ≤ 30) → (30 - u5 + 1 ≤ (n15 : Int)) → zK w p e 2 0 0 s m args below meth c 3 T Po 21 [.ref (w.2.1 + a), zi v1, zi u5] [] (T, M7, J8, R) := by
        intro n15
        induction n15 with
        | zero =>
          intro u5 M7 J8 hI9 hK10 hK11 h12 h13 hm17
          exfalso
          omega
        | succ n15 ih16 =>
          intro u5 M7 J8 hI9 hK10 hK11 h12 h13 hm17
          refine q_iload_n C dX12_wordOf_21 (n := 22) rfl rfl ?_
          refine q_aload_n C dX12_wordOf_22 (n := 23) rfl rfl ?_
          refine q_getR C dX12_wordOf_23 (n := 26) rfl f_X12_46 (zM0 h0) (hF _ _ _ (zM37 h0)) ?_
          refine q_iload_n C dX12_wordOf_26 (n := 27) rfl rfl ?_
          have g18 := zI.at hI ((zM39 h0) v1)
          refine q_iald C dX12_wordOf_27 (n := 28) rfl (zM38 h0) (by omega) (v := M (a + 11) v1) (hK11.getA rfl rfl rfl) ?_
          refine q_icmp_ge C 50 dX12_wordOf_28 (n := 31) rfl rfl (by omega) (fun h19 => ?_) (fun h19 => ?_)
          · refine q_aload_n C dX12_wordOf_50 (n := 51) rfl rfl ?_
            refine q_aload_n C dX12_wordOf_51 (n := 52) rfl rfl ?_
            refine q_getR C dX12_wordOf_52 (n := 55) rfl f_X12_80 (zM0 h0) (hF _ _ _ (zM78 h0)) ?_
            refine q_iconst C dX12_wordOf_55 (n := 56) rfl ?_
            refine q_aload_n C dX12_wordOf_56 (n := 57) rfl rfl ?_
            refine q_getR C dX12_wordOf_57 (n := 60) rfl f_X12_46 (zM0 h0) (hF _ _ _ (zM37 h0)) ?_
            refine q_iload_n C dX12_wordOf_60 (n := 61) rfl rfl ?_
            refine q_iald C dX12_wordOf_61 (n := 62) rfl (zM38 h0) (by omega) (v := M (a + 11) v1) (hK11.getA rfl rfl rfl) ?_
            refine q_callVp C dX12_wordOf_62 (n := 65) rfl m_X12_333 v_yX12_wordIn (zM0 h0) ⟨by decide, rfl⟩ (c_X12_wordIn (w := w) (J := J8) hI9 hF h0 (zM79 h0) (zM80 h0) 0 (M (a + 11) v1) (by omega) (by omega)) (Nat.le_of_ble_eq_true rfl) rfl rfl (Nat.le_of_ble_eq_true rfl) ⟨Nat.le_refl _, Nat.le_refl _⟩ (fun x21 h22 => ?_)
            exact q_iret C dX12_wordOf_65 ⟨rfl, rfl⟩ (by rw [hPo]; exact ⟨x21, M7, J8, rfl, rfl, hI9, hK10, by omega, by omega⟩)
          · refine q_aload_n C dX12_wordOf_31 (n := 32) rfl rfl ?_
            refine q_getR C dX12_wordOf_32 (n := 35) rfl f_X12_80 (zM0 h0) (hF _ _ _ (zM78 h0)) ?_
            refine q_iload_n C dX12_wordOf_35 (n := 36) rfl rfl ?_
            refine q_aload_n C dX12_wordOf_36 (n := 37) rfl rfl ?_
            refine q_iload_n C dX12_wordOf_37 (n := 38) rfl rfl ?_
            refine q_iload_n C dX12_wordOf_38 (n := 39) rfl rfl ?_
            refine q_callVp C dX12_wordOf_39 (n := 42) rfl m_X12_370 v_yX12_byteIn (zM0 h0) ⟨by decide, rfl⟩ (c_X12_byteIn (w := w) (J := J8) hI9 hF h0 v1 u5 (by omega) (by omega)) (Nat.le_of_ble_eq_true rfl) rfl rfl (Nat.le_of_ble_eq_true rfl) ⟨Nat.le_refl _, Nat.le_refl _⟩ (fun x25 h26 => ?_)
            obtain ⟨h23, h24⟩ := h26
            refine q_i2b C dX12_wordOf_42 (n := 43) rfl (v := zi2b x25) rfl ?_
            have g27 := z8_r x25
            refine q_bast C dX12_wordOf_43 (n := 44) rfl (zM79 h0) (by omega) (by omega) (fun M28 e29 => ?_)
            have hI30 : zI G M28 := hI9.put e29 ((zM80 h0) u5) rfl (by omega)
            have hK31 := hK10.upA e29 rfl
            have hK32 := hK11.upA e29 rfl
            refine q_iinc C [.ref (w.2.1 + a), zi v1, zi (u5 + 1)] dX12_wordOf_44 (n := 47) rfl rfl rfl rfl ?_
            refine q_goto C 21 dX12_wordOf_47 rfl ?_
            exact zK.weak (ih16 (u5 + 1) M28 J8 hI30 hK31 hK32 (by omega) (by omega) (by omega)) (zwk_c (zwk_c (zwk_c zwk_e)))
      exact zK.weak (L_14 _ 0 M J hI hK0 (zMd.rf : zMd a [22] [] [] M M) (by omega) (by omega) (Int.self_le_toNat _)) (zwk_c (zwk_c (zwk_c zwk_e)))
    · refine q_iconst C dX12_wordOf_17 (n := 18) rfl ?_
      exact q_iret C dX12_wordOf_18 ⟨rfl, rfl⟩ (by rw [hPo]; exact ⟨(-1), M, J, rfl, rfl, hI, hK0, by omega, by omega⟩)
theorem c_X12_numberOf {w : zWp} {T : zTl} {M : zMm} {J : zJm} {R : zRm'} {G : zGt} {F : zRm'} {a : Nat} (hI : zI G M) (hF : zF F R) (h0 : zModel T F G a) (v1 : Int) (p1 : 0 ≤ v1 ∧ v1 ≤ 18599) : zCt w 2 0 0 yX12_numberOf cX12_numberOf 5 (some .int) [.ref (w.2.1 + a), zi v1] (T, M, J, R) (zPp T M J R (fun x => (-1 ≤ x ∧ x ≤ 11 ∧ x < M (a + 18) 0))) := by
  refine zCt.of rfl (Nat.le_of_ble_eq_true rfl) ?_
  intro p e s m args below meth c C
  obtain ⟨Po, hPo⟩ : ∃ Po, Po = zPp T M J R (fun x => (-1 ≤ x ∧ x ≤ 11 ∧ x < M (a + 18) 0)) := ⟨_, rfl⟩
  rw [← hPo]
  have gk_w_0 := zI.at hI (((zM67 h0) 0).trans (zwG_0 (by omega)))
  show zK w p e 2 0 0 s m args below meth c 5 T Po 0 [.ref (w.2.1 + a), zi v1, .null, .null, .null] [] (T, M, J, R)
  refine q_iconst C dX12_numberOf_0 (n := 1) rfl ?_
  refine q_istore_n C [.ref (w.2.1 + a), zi v1, zi 0, .null, .null] dX12_numberOf_1 (n := 2) rfl rfl rfl ?_
  have L_4 : ∀ n5 : Nat, ∀ (u1 : Int), (-2147483648 ≤ u1 ∧ u1 ≤ 2147483647) → (0 ≤ u1 ∧ u1 ≤ 12 ∧ u1 ≤ M (a + 18) 0) → (12 - u1 + 1 ≤ (n5 : Int)) → zK w p e 2 0 0 s m args below meth c 5 T Po 2 [.ref (w.2.1 + a), zi v1, zi u1, .null, .null] [] (T, M, J, R) := by
    intro n5
    induction n5 with
    | zero =>
      intro u1 h2 h3 hm7
      exfalso
      omega
    | succ n5 ih6 =>
      intro u1 h2 h3 hm7
      refine q_iload_n C dX12_numberOf_2 (n := 3) rfl rfl ?_
      refine q_aload_n C dX12_numberOf_3 (n := 4) rfl rfl ?_
      refine q_getR C dX12_numberOf_4 (n := 7) rfl f_X12_68 (zM0 h0) (hF _ _ _ (zM65 h0)) ?_
      refine q_iconst C dX12_numberOf_7 (n := 8) rfl ?_
      have g8 := zI.at hI (((zM67 h0) 0).trans (zwG_0 (by omega)))
      refine q_iald C dX12_numberOf_8 (n := 9) rfl (zM66 h0) (by omega) (v := M (a + 18) 0) rfl ?_
      refine q_icmp_ge C 101 dX12_numberOf_9 (n := 12) rfl rfl (by omega) (fun h9 => ?_) (fun h9 => ?_)
      · refine q_iconst C dX12_numberOf_101 (n := 102) rfl ?_
        exact q_iret C dX12_numberOf_102 ⟨rfl, rfl⟩ (by rw [hPo]; exact ⟨(-1), rfl, rfl, by omega⟩)
      · refine q_aload_n C dX12_numberOf_12 (n := 13) rfl rfl ?_
        refine q_getR C dX12_numberOf_13 (n := 16) rfl f_X12_68 (zM0 h0) (hF _ _ _ (zM65 h0)) ?_
        refine q_sipush C dX12_numberOf_16 (n := 19) rfl (x := 175) (by decide) ?_
        refine q_iload_n C dX12_numberOf_19 (n := 20) rfl rfl ?_
        refine q_iadd C dX12_numberOf_20 (n := 21) rfl (v := 175 + u1) rfl ?_
        have g10 := zI.at hI (((zM67 h0) (175 + u1)).trans (zwG_175 (by omega)))
        refine q_iald C dX12_numberOf_21 (n := 22) rfl (zM66 h0) (by omega) (v := M (a + 18) (175 + u1)) rfl ?_
        refine q_aload_n C dX12_numberOf_22 (n := 23) rfl rfl ?_
        refine q_getR C dX12_numberOf_23 (n := 26) rfl f_X12_46 (zM0 h0) (hF _ _ _ (zM37 h0)) ?_
        refine q_iload_n C dX12_numberOf_26 (n := 27) rfl rfl ?_
        have g11 := zI.at hI ((zM39 h0) v1)
        refine q_iald C dX12_numberOf_27 (n := 28) rfl (zM38 h0) (by omega) (v := M (a + 11) v1) rfl ?_
        have J_15 : ∀ (u12 : Int), (-2147483648 ≤ u12 ∧ u12 ≤ 2147483647) → (u12 = 0 ∨ u12 = 1) → zK w p e 2 0 0 s m args below meth c 5 T Po 36 [.ref (w.2.1 + a), zi v1, zi u1, .null, .null] [zi u12] (T, M, J, R) := by
          intro u12 h13 h14
          refine q_istore_n C [.ref (w.2.1 + a), zi v1, zi u1, zi u12, .null] dX12_numberOf_36 (n := 37) rfl rfl rfl ?_
          refine q_iconst C dX12_numberOf_37 (n := 38) rfl ?_
          refine q_istore C [.ref (w.2.1 + a), zi v1, zi u1, zi u12, zi 0] dX12_numberOf_38 (n := 40) rfl rfl rfl ?_
          have L_22 : ∀ n23 : Nat, ∀ (u16 : Int) (u17 : Int), (-2147483648 ≤ u16 ∧ u16 ≤ 2147483647) → (-2147483648 ≤ u17 ∧ u17 ≤ 2147483647) → (0 ≤ u17 ∧ u17 ≤ 30) → (u16 = 0 ∨ u16 = 1) → (30 - u17 + 1 ≤ (n23 : Int)) → zK w p e 2 0 0 s m args below meth c 5 T Po 40 [.ref (w.2.1 + a), zi v1, zi u1, zi u16, zi u17] [] (T, M, J, R) := by
            intro n23
            induction n23 with
            | zero =>
              intro u16 u17 h18 h19 h20 h21 hm25
              exfalso
              omega
            | succ n23 ih24 =>
              intro u16 u17 h18 h19 h20 h21 hm25
              refine q_iload C dX12_numberOf_40 (n := 42) rfl rfl ?_
              refine q_aload_n C dX12_numberOf_42 (n := 43) rfl rfl ?_
              refine q_getR C dX12_numberOf_43 (n := 46) rfl f_X12_46 (zM0 h0) (hF _ _ _ (zM37 h0)) ?_
              refine q_iload_n C dX12_numberOf_46 (n := 47) rfl rfl ?_
              refine q_iald C dX12_numberOf_47 (n := 48) rfl (zM38 h0) (by omega) (v := M (a + 11) v1) rfl ?_
              have J_26 : zK w p e 2 0 0 s m args below meth c 5 T Po 89 [.ref (w.2.1 + a), zi v1, zi u1, zi u16, .null] [] (T, M, J, R) := by
                refine q_iload_n C dX12_numberOf_89 (n := 90) rfl rfl ?_
                refine q_if_eq C 95 dX12_numberOf_90 (n := 93) rfl rfl (by omega) (fun h27 => ?_) (fun h27 => ?_)
                · refine q_iinc C [.ref (w.2.1 + a), zi v1, zi (u1 + 1), zi u16, .null] dX12_numberOf_95 (n := 98) rfl rfl rfl rfl ?_
                  refine q_goto C 2 dX12_numberOf_98 rfl ?_
                  exact zK.weak (ih6 (u1 + 1) (by omega) (by omega) (by omega)) (zwk_c (zwk_c (zwk_c (zwk_n (zwk_n zwk_e)))))
                · refine q_iload_n C dX12_numberOf_93 (n := 94) rfl rfl ?_
                  exact q_iret C dX12_numberOf_94 ⟨rfl, rfl⟩ (by rw [hPo]; exact ⟨u1, rfl, rfl, by omega⟩)
              refine q_icmp_ge C 89 dX12_numberOf_48 (n := 51) rfl rfl (by omega) (fun h28 => ?_) (fun h28 => ?_)
              · exact zK.weak (J_26) (zwk_c (zwk_c (zwk_c (zwk_c (zwk_n zwk_e)))))
              · refine q_iload_n C dX12_numberOf_51 (n := 52) rfl rfl ?_
                refine q_if_eq C 89 dX12_numberOf_52 (n := 55) rfl rfl (by omega) (fun h29 => ?_) (fun h29 => ?_)
                · exact zK.weak (J_26) (zwk_c (zwk_c (zwk_c (zwk_c (zwk_n zwk_e)))))
                · refine q_aload_n C dX12_numberOf_55 (n := 56) rfl rfl ?_
                  refine q_getR C dX12_numberOf_56 (n := 59) rfl f_X12_74 (zM0 h0) (hF _ _ _ (zM71 h0)) ?_
                  refine q_bipush C dX12_numberOf_59 (n := 61) rfl (x := 30) (by decide) ?_
                  refine q_iload_n C dX12_numberOf_61 (n := 62) rfl rfl ?_
                  refine q_imul C dX12_numberOf_62 (n := 63) rfl (v := 30 * u1) rfl ?_
                  refine q_iload C dX12_numberOf_63 (n := 65) rfl rfl ?_
                  refine q_iadd C dX12_numberOf_65 (n := 66) rfl (v := (30 * u1) + u17) rfl ?_
                  have g30 := zI.at hI ((zM73 h0) ((30 * u1) + u17))
                  refine q_bald C dX12_numberOf_66 (n := 67) rfl (zM72 h0) (by omega) (v := M (a + 20) ((30 * u1) + u17)) rfl ?_
                  refine q_aload_n C dX12_numberOf_67 (n := 68) rfl rfl ?_
                  refine q_iload_n C dX12_numberOf_68 (n := 69) rfl rfl ?_
                  refine q_iload C dX12_numberOf_69 (n := 71) rfl rfl ?_
                  refine q_callVp C dX12_numberOf_71 (n := 74) rfl m_X12_370 v_yX12_byteIn (zM0 h0) ⟨by decide, rfl⟩ (c_X12_byteIn (w := w) (J := J) hI hF h0 v1 u17 (by omega) (by omega)) (Nat.le_of_ble_eq_true rfl) rfl rfl (Nat.le_of_ble_eq_true rfl) ⟨Nat.le_refl _, Nat.le_refl _⟩ (fun x33 h34 => ?_)
                  obtain ⟨h31, h32⟩ := h34
                  have J_38 : ∀ (u35 : Int), (-2147483648 ≤ u35 ∧ u35 ≤ 2147483647) → (u35 = 0 ∨ u35 = 1) → zK w p e 2 0 0 s m args below meth c 5 T Po 82 [.ref (w.2.1 + a), zi v1, zi u1, .null, zi u17] [zi u35] (T, M, J, R) := by
                    intro u35 h36 h37
                    refine q_istore_n C [.ref (w.2.1 + a), zi v1, zi u1, zi u35, zi u17] dX12_numberOf_82 (n := 83) rfl rfl rfl ?_
                    refine q_iinc C [.ref (w.2.1 + a), zi v1, zi u1, zi u35, zi (u17 + 1)] dX12_numberOf_83 (n := 86) rfl rfl rfl rfl ?_
                    refine q_goto C 40 dX12_numberOf_86 rfl ?_
                    exact zK.weak (ih24 u35 (u17 + 1) (by omega) (by omega) (by omega) (by omega) (by omega)) (zwk_c (zwk_c (zwk_c (zwk_c (zwk_c zwk_e)))))
                  refine q_icmp_ne C 81 dX12_numberOf_74 (n := 77) rfl rfl (by omega) (fun h39 => ?_) (fun h39 => ?_)
                  · refine q_iconst C dX12_numberOf_81 (n := 82) rfl ?_
                    exact zK.weak (J_38 0 (by omega) (by omega)) (zwk_c (zwk_c (zwk_c (zwk_n (zwk_c zwk_e)))))
                  · refine q_iconst C dX12_numberOf_77 (n := 78) rfl ?_
                    refine q_goto C 82 dX12_numberOf_78 rfl ?_
                    exact zK.weak (J_38 1 (by omega) (by omega)) (zwk_c (zwk_c (zwk_c (zwk_n (zwk_c zwk_e)))))
          exact zK.weak (L_22 _ u12 0 (by omega) (by omega) (by omega) (by omega) (Int.self_le_toNat _)) (zwk_c (zwk_c (zwk_c (zwk_c (zwk_c zwk_e)))))
        refine q_icmp_ne C 35 dX12_numberOf_28 (n := 31) rfl rfl (by omega) (fun h40 => ?_) (fun h40 => ?_)
        · refine q_iconst C dX12_numberOf_35 (n := 36) rfl ?_
          exact zK.weak (J_15 0 (by omega) (by omega)) (zwk_c (zwk_c (zwk_c (zwk_n (zwk_n zwk_e)))))
        · refine q_iconst C dX12_numberOf_31 (n := 32) rfl ?_
          refine q_goto C 36 dX12_numberOf_32 rfl ?_
          exact zK.weak (J_15 1 (by omega) (by omega)) (zwk_c (zwk_c (zwk_c (zwk_n (zwk_n zwk_e)))))
  exact zK.weak (L_4 _ 0 (by omega) (by omega) (Int.self_le_toNat _)) (zwk_c (zwk_c (zwk_c (zwk_n (zwk_n zwk_e)))))
theorem c_X12_macroOf {w : zWp} {T : zTl} {M : zMm} {J : zJm} {R : zRm'} {G : zGt} {F : zRm'} {a : Nat} (hI : zI G M) (hF : zF F R) (h0 : zModel T F G a) (v1 : Int) (p1 : 0 ≤ v1 ∧ v1 ≤ 18599) : zCt w 3 0 0 yX12_macroOf cX12_macroOf 3 (some .int) [.ref (w.2.1 + a), zi v1] (T, M, J, R) (zPp T M J R (fun x => (-1 ≤ x ∧ x ≤ 11 ∧ x < M (a + 18) 0))) := by
  refine zCt.of rfl (Nat.le_of_ble_eq_true rfl) ?_
  intro p e s m args below meth c C
  obtain ⟨Po, hPo⟩ : ∃ Po, Po = zPp T M J R (fun x => (-1 ≤ x ∧ x ≤ 11 ∧ x < M (a + 18) 0)) := ⟨_, rfl⟩
  rw [← hPo]
  have gk_w_0 := zI.at hI (((zM67 h0) 0).trans (zwG_0 (by omega)))
  show zK w p e 3 0 0 s m args below meth c 3 T Po 0 [.ref (w.2.1 + a), zi v1, .null] [] (T, M, J, R)
  refine q_aload_n C dX12_macroOf_0 (n := 1) rfl rfl ?_
  refine q_getR C dX12_macroOf_1 (n := 4) rfl f_X12_40 (zM0 h0) (hF _ _ _ (zM31 h0)) ?_
  refine q_iload_n C dX12_macroOf_4 (n := 5) rfl rfl ?_
  have g1 := zI.at hI ((zM33 h0) v1)
  refine q_iald C dX12_macroOf_5 (n := 6) rfl (zM32 h0) (by omega) (v := M (a + 9) v1) rfl ?_
  have J_5 : ∀ (u2 : Int), (-2147483648 ≤ u2 ∧ u2 ≤ 2147483647) → (-1 ≤ u2 ∧ u2 ≤ 11 ∧ u2 < M (a + 18) 0) → zK w p e 3 0 0 s m args below meth c 3 T Po 18 [.ref (w.2.1 + a), .null, .null] [zi u2] (T, M, J, R) := by
    intro u2 h3 h4
    refine q_istore_n C [.ref (w.2.1 + a), .null, zi u2] dX12_macroOf_18 (n := 19) rfl rfl rfl ?_
    refine q_iload_n C dX12_macroOf_19 (n := 20) rfl rfl ?_
    refine q_if_lt C 41 dX12_macroOf_20 (n := 23) rfl rfl (by omega) (fun h6 => ?_) (fun h6 => ?_)
    · refine q_iconst C dX12_macroOf_41 (n := 42) rfl ?_
      exact q_iret C dX12_macroOf_42 ⟨rfl, rfl⟩ (by rw [hPo]; exact ⟨(-1), rfl, rfl, by omega⟩)
    · refine q_aload_n C dX12_macroOf_23 (n := 24) rfl rfl ?_
      refine q_getR C dX12_macroOf_24 (n := 27) rfl f_X12_68 (zM0 h0) (hF _ _ _ (zM65 h0)) ?_
      refine q_sipush C dX12_macroOf_27 (n := 30) rfl (x := 187) (by decide) ?_
      refine q_iload_n C dX12_macroOf_30 (n := 31) rfl rfl ?_
      refine q_iadd C dX12_macroOf_31 (n := 32) rfl (v := 187 + u2) rfl ?_
      have g7 := zI.at hI (((zM67 h0) (187 + u2)).trans (zwG_187 (by omega)))
      refine q_iald C dX12_macroOf_32 (n := 33) rfl (zM66 h0) (by omega) (v := M (a + 18) (187 + u2)) rfl ?_
      refine q_iconst C dX12_macroOf_33 (n := 34) rfl ?_
      refine q_icmp_ne C 41 dX12_macroOf_34 (n := 37) rfl rfl (by omega) (fun h8 => ?_) (fun h8 => ?_)
      · refine q_iconst C dX12_macroOf_41 (n := 42) rfl ?_
        exact q_iret C dX12_macroOf_42 ⟨rfl, rfl⟩ (by rw [hPo]; exact ⟨(-1), rfl, rfl, by omega⟩)
      · refine q_iload_n C dX12_macroOf_37 (n := 38) rfl rfl ?_
        refine q_goto C 42 dX12_macroOf_38 rfl ?_
        exact q_iret C dX12_macroOf_42 ⟨rfl, rfl⟩ (by rw [hPo]; exact ⟨u2, rfl, rfl, by omega⟩)
  refine q_if_ne C 17 dX12_macroOf_6 (n := 9) rfl rfl (by omega) (fun h9 => ?_) (fun h9 => ?_)
  · refine q_iconst C dX12_macroOf_17 (n := 18) rfl ?_
    exact zK.weak (J_5 (-1) (by omega) (by omega)) (zwk_c (zwk_n (zwk_n zwk_e)))
  · refine q_aload_n C dX12_macroOf_9 (n := 10) rfl rfl ?_
    refine q_iload_n C dX12_macroOf_10 (n := 11) rfl rfl ?_
    refine q_callVp C dX12_macroOf_11 (n := 14) rfl m_X12_409 v_yX12_numberOf (zM0 h0) ⟨by decide, rfl⟩ (c_X12_numberOf (w := w) (J := J) hI hF h0 v1 (by omega)) (Nat.le_of_ble_eq_true rfl) rfl rfl (Nat.le_of_ble_eq_true rfl) ⟨Nat.le_refl _, Nat.le_refl _⟩ (fun x11 h12 => ?_)
    refine q_goto C 18 dX12_macroOf_14 rfl ?_
    exact zK.weak (J_5 x11 (by omega) (by omega)) (zwk_c (zwk_n (zwk_n zwk_e)))
theorem c_X12_isBodySign {w : zWp} {T : zTl} {M : zMm} {J : zJm} {R : zRm'} {G : zGt} {F : zRm'} {a : Nat} (hI : zI G M) (hF : zF F R) (h0 : zModel T F G a) (v1 : Int) (v2 : Int) (v3 : Int) (v4 : Int) (p1 : 0 ≤ v1 ∧ v1 ≤ 11) (p2 : -1 ≤ v2 ∧ v2 ≤ 30) (p3 : -2147483648 ≤ v3 ∧ v3 ≤ 2147483647) (p4 : 1 ≤ v4 ∧ v4 ≤ 2) : zCt w 3 0 0 yX12_isBodySign cX12_isBodySign 7 (some .boolean) [.ref (w.2.1 + a), zi v1, zi v2, zi v3, zi v4] (T, M, J, R) (zPp T M J R (fun x => (x = 0 ∨ x = 1) ∧ (x = 0 ∨ 0 ≤ v2 ∧ v2 ≤ 19 ∧ v2 < M (a + 18) (211 + v1)) ∧ (x = 0 ∨ M (a + 18) (259 + (20 * v1 + v2)) = 3 ∧ M (a + 18) (499 + (20 * v1 + v2)) = v4) ∧ (x = 0 ∨ M (a + 20) (360 + 30 * (20 * v1 + v2)) = v3))) := by
  refine zCt.of rfl (Nat.le_of_ble_eq_true rfl) ?_
  intro p e s m args below meth c C
  obtain ⟨Po, hPo⟩ : ∃ Po, Po = zPp T M J R (fun x => (x = 0 ∨ x = 1) ∧ (x = 0 ∨ 0 ≤ v2 ∧ v2 ≤ 19 ∧ v2 < M (a + 18) (211 + v1)) ∧ (x = 0 ∨ M (a + 18) (259 + (20 * v1 + v2)) = 3 ∧ M (a + 18) (499 + (20 * v1 + v2)) = v4) ∧ (x = 0 ∨ M (a + 20) (360 + 30 * (20 * v1 + v2)) = v3)) := ⟨_, rfl⟩
  rw [← hPo]
  show zK w p e 3 0 0 s m args below meth c 7 T Po 0 [.ref (w.2.1 + a), zi v1, zi v2, zi v3, zi v4, .null, .null] [] (T, M, J, R)
  refine q_iload_n C dX12_isBodySign_0 (n := 1) rfl rfl ?_
  have J_6 : ∀ (u1 : Int), (-2147483648 ≤ u1 ∧ u1 ≤ 2147483647) → (u1 = 0 ∨ u1 = 1) → (u1 = 0 ∨ 0 ≤ v2 ∧ v2 ≤ 19 ∧ v2 < M (a + 18) (211 + v1)) → (u1 = 0 ∨ M (a + 18) (259 + (20 * v1 + v2)) = 3 ∧ M (a + 18) (499 + (20 * v1 + v2)) = v4) → zK w p e 3 0 0 s m args below meth c 7 T Po 60 [.ref (w.2.1 + a), zi v1, zi v2, zi v3, zi v4, .null, .null] [zi u1] (T, M, J, R) := by
    intro u1 h2 h3 h4 h5
    refine q_istore C [.ref (w.2.1 + a), zi v1, zi v2, zi v3, zi v4, zi u1, .null] dX12_isBodySign_60 (n := 62) rfl rfl rfl ?_
    refine q_iconst C dX12_isBodySign_62 (n := 63) rfl ?_
    refine q_istore C [.ref (w.2.1 + a), zi v1, zi v2, zi v3, zi v4, zi u1, zi 0] dX12_isBodySign_63 (n := 65) rfl rfl rfl ?_
    have L_16 : ∀ n17 : Nat, ∀ (u7 : Int) (u8 : Int), (-2147483648 ≤ u7 ∧ u7 ≤ 2147483647) → (-2147483648 ≤ u8 ∧ u8 ≤ 2147483647) → (0 ≤ u8 ∧ u8 ≤ v4) → (u7 = 0 ∨ u7 = 1) → (u7 = 0 ∨ 0 ≤ v2 ∧ v2 ≤ 19 ∧ v2 < M (a + 18) (211 + v1)) → (u7 = 0 ∨ M (a + 18) (259 + (20 * v1 + v2)) = 3 ∧ M (a + 18) (499 + (20 * v1 + v2)) = v4) → (u8 = 0 ∨ u7 = 0 ∨ M (a + 20) (360 + 30 * (20 * v1 + v2)) = v3) → (v4 - u8 + 1 ≤ (n17 : Int)) → zK w p e 3 0 0 s m args below meth c 7 T Po 65 [.ref (w.2.1 + a), zi v1, zi v2, zi v3, zi v4, zi u7, zi u8] [] (T, M, J, R) := by
      intro n17
      induction n17 with
      | zero =>
        intro u7 u8 h9 h10 h11 h12 h13 h14 h15 hm19
        exfalso
        omega
      | succ n17 ih18 =>
        intro u7 u8 h9 h10 h11 h12 h13 h14 h15 hm19
        refine q_iload C dX12_isBodySign_65 (n := 67) rfl rfl ?_
        refine q_iload C dX12_isBodySign_67 (n := 69) rfl rfl ?_
        refine q_icmp_ge C 107 dX12_isBodySign_69 (n := 72) rfl rfl (by omega) (fun h20 => ?_) (fun h20 => ?_)
        · refine q_iload C dX12_isBodySign_107 (n := 109) rfl rfl ?_
          exact q_zret C dX12_isBodySign_109 ⟨rfl, rfl⟩ (by omega) (by rw [hPo]; exact ⟨u7, rfl, rfl, by omega, by omega, by omega, by omega⟩)
        · refine q_iload C dX12_isBodySign_72 (n := 74) rfl rfl ?_
          refine q_if_eq C 107 dX12_isBodySign_74 (n := 77) rfl rfl (by omega) (fun h21 => ?_) (fun h21 => ?_)
          · refine q_iload C dX12_isBodySign_107 (n := 109) rfl rfl ?_
            exact q_zret C dX12_isBodySign_109 ⟨rfl, rfl⟩ (by omega) (by rw [hPo]; exact ⟨u7, rfl, rfl, by omega, by omega, by omega, by omega⟩)
          · refine q_aload_n C dX12_isBodySign_77 (n := 78) rfl rfl ?_
            refine q_getR C dX12_isBodySign_78 (n := 81) rfl f_X12_74 (zM0 h0) (hF _ _ _ (zM71 h0)) ?_
            refine q_iload_n C dX12_isBodySign_81 (n := 82) rfl rfl ?_
            refine q_iload_n C dX12_isBodySign_82 (n := 83) rfl rfl ?_
            refine q_callSp C dX12_isBodySign_83 (n := 86) rfl m_X12_415 s_yX12_bodyByte (c_X12_bodyByte (w := w) (J := J) hI hF v1 v2) (Nat.le_of_ble_eq_true rfl) rfl rfl (Nat.le_of_ble_eq_true rfl) ⟨Nat.le_refl _, Nat.le_refl _⟩ (fun x23 h24 => ?_)
            obtain rfl : x23 = 360 + 30 * (20 * v1 + v2) := h24
            refine q_iload C dX12_isBodySign_86 (n := 88) rfl rfl ?_
            refine q_iadd C dX12_isBodySign_88 (n := 89) rfl (v := (360 + 30 * (20 * v1 + v2)) + u8) rfl ?_
            have g25 := zI.at hI ((zM73 h0) ((360 + 30 * (20 * v1 + v2)) + u8))
            refine q_bald C dX12_isBodySign_89 (n := 90) rfl (zM72 h0) (by omega) (v := M (a + 20) ((360 + 30 * (20 * v1 + v2)) + u8)) rfl ?_
            refine q_iload_n C dX12_isBodySign_90 (n := 91) rfl rfl ?_
            have gk0 : ¬ (u8 : Int) = 0 ∨ M (a + 20) (360 + 30 * (20 * v1 + v2) + u8) = M (a + 20) (360 + 30 * (20 * v1 + v2)) := (Decidable.em ((u8 : Int) = 0)).symm.imp id (fun h => by rw [h, Int.add_zero])
            have J_30 : ∀ (u26 : Int), (-2147483648 ≤ u26 ∧ u26 ≤ 2147483647) → (u26 = 0 ∨ u26 = 1) → (u26 = 0 ∨ u8 ≠ 0 ∨ M (a + 20) (360 + 30 * (20 * v1 + v2)) = v3) → zK w p e 3 0 0 s m args below meth c 7 T Po 99 [.ref (w.2.1 + a), zi v1, zi v2, zi v3, zi v4, .null, zi u8] [zi u26] (T, M, J, R) := by
              intro u26 h27 h28 h29
              refine q_istore C [.ref (w.2.1 + a), zi v1, zi v2, zi v3, zi v4, zi u26, zi u8] dX12_isBodySign_99 (n := 101) rfl rfl rfl ?_
              refine q_iinc C [.ref (w.2.1 + a), zi v1, zi v2, zi v3, zi v4, zi u26, zi (u8 + 1)] dX12_isBodySign_101 (n := 104) rfl rfl rfl rfl ?_
              refine q_goto C 65 dX12_isBodySign_104 rfl ?_
              exact zK.weak (ih18 u26 (u8 + 1) (by omega) (by omega) (by omega) (by omega) (by omega) (by omega) (by omega) (by omega)) (zwk_c (zwk_c (zwk_c (zwk_c (zwk_c (zwk_c (zwk_c zwk_e)))))))
            refine q_icmp_ne C 98 dX12_isBodySign_91 (n := 94) rfl rfl (by omega) (fun h31 => ?_) (fun h31 => ?_)
            · refine q_iconst C dX12_isBodySign_98 (n := 99) rfl ?_
              exact zK.weak (J_30 0 (by omega) (by omega) (by omega)) (zwk_c (zwk_c (zwk_c (zwk_c (zwk_c (zwk_n (zwk_c zwk_e)))))))
            · refine q_iconst C dX12_isBodySign_94 (n := 95) rfl ?_
              refine q_goto C 99 dX12_isBodySign_95 rfl ?_
              exact zK.weak (J_30 1 (by omega) (by omega) (by omega)) (zwk_c (zwk_c (zwk_c (zwk_c (zwk_c (zwk_n (zwk_c zwk_e)))))))
    exact zK.weak (L_16 _ u1 0 (by omega) (by omega) (by omega) (by omega) (by omega) (by omega) (by omega) (Int.self_le_toNat _)) (zwk_c (zwk_c (zwk_c (zwk_c (zwk_c (zwk_c (zwk_c zwk_e)))))))
  have J_32 : zK w p e 3 0 0 s m args below meth c 7 T Po 59 [.ref (w.2.1 + a), zi v1, zi v2, zi v3, zi v4, .null, .null] [] (T, M, J, R) := by
    refine q_iconst C dX12_isBodySign_59 (n := 60) rfl ?_
    exact zK.weak (J_6 0 (by omega) (by omega) (by omega) (by omega)) (zwk_c (zwk_c (zwk_c (zwk_c (zwk_c (zwk_n (zwk_n zwk_e)))))))
  refine q_if_lt C 59 dX12_isBodySign_1 (n := 4) rfl rfl (by omega) (fun h33 => ?_) (fun h33 => ?_)
  · exact zK.weak (J_32) (zwk_c (zwk_c (zwk_c (zwk_c (zwk_c (zwk_n (zwk_n zwk_e)))))))
  · refine q_iload_n C dX12_isBodySign_4 (n := 5) rfl rfl ?_
    refine q_aload_n C dX12_isBodySign_5 (n := 6) rfl rfl ?_
    refine q_getR C dX12_isBodySign_6 (n := 9) rfl f_X12_68 (zM0 h0) (hF _ _ _ (zM65 h0)) ?_
    refine q_sipush C dX12_isBodySign_9 (n := 12) rfl (x := 211) (by decide) ?_
    refine q_iload_n C dX12_isBodySign_12 (n := 13) rfl rfl ?_
    refine q_iadd C dX12_isBodySign_13 (n := 14) rfl (v := 211 + v1) rfl ?_
    have g34 := zI.at hI (((zM67 h0) (211 + v1)).trans (zwG_211 (by omega)))
    refine q_iald C dX12_isBodySign_14 (n := 15) rfl (zM66 h0) (by omega) (v := M (a + 18) (211 + v1)) rfl ?_
    refine q_icmp_ge C 59 dX12_isBodySign_15 (n := 18) rfl rfl (by omega) (fun h35 => ?_) (fun h35 => ?_)
    · exact zK.weak (J_32) (zwk_c (zwk_c (zwk_c (zwk_c (zwk_c (zwk_n (zwk_n zwk_e)))))))
    · refine q_aload_n C dX12_isBodySign_18 (n := 19) rfl rfl ?_
      refine q_getR C dX12_isBodySign_19 (n := 22) rfl f_X12_68 (zM0 h0) (hF _ _ _ (zM65 h0)) ?_
      refine q_sipush C dX12_isBodySign_22 (n := 25) rfl (x := 259) (by decide) ?_
      refine q_iload_n C dX12_isBodySign_25 (n := 26) rfl rfl ?_
      refine q_iload_n C dX12_isBodySign_26 (n := 27) rfl rfl ?_
      refine q_callSp C dX12_isBodySign_27 (n := 30) rfl m_X12_412 s_yX12_bodyAt (c_X12_bodyAt (w := w) (J := J) hI hF v1 v2) (Nat.le_of_ble_eq_true rfl) rfl rfl (Nat.le_of_ble_eq_true rfl) ⟨Nat.le_refl _, Nat.le_refl _⟩ (fun x37 h38 => ?_)
      obtain rfl : x37 = 20 * v1 + v2 := h38
      refine q_iadd C dX12_isBodySign_30 (n := 31) rfl (v := 259 + (20 * v1 + v2)) rfl ?_
      have g39 := zI.at hI (((zM67 h0) (259 + (20 * v1 + v2))).trans (zwG_259 (by omega)))
      refine q_iald C dX12_isBodySign_31 (n := 32) rfl (zM66 h0) (by omega) (v := M (a + 18) (259 + (20 * v1 + v2))) rfl ?_
      refine q_iconst C dX12_isBodySign_32 (n := 33) rfl ?_
      refine q_icmp_ne C 59 dX12_isBodySign_33 (n := 36) rfl rfl (by omega) (fun h40 => ?_) (fun h40 => ?_)
      · exact zK.weak (J_32) (zwk_c (zwk_c (zwk_c (zwk_c (zwk_c (zwk_n (zwk_n zwk_e)))))))
      · refine q_aload_n C dX12_isBodySign_36 (n := 37) rfl rfl ?_
        refine q_getR C dX12_isBodySign_37 (n := 40) rfl f_X12_68 (zM0 h0) (hF _ _ _ (zM65 h0)) ?_
        refine q_sipush C dX12_isBodySign_40 (n := 43) rfl (x := 499) (by decide) ?_
        refine q_iload_n C dX12_isBodySign_43 (n := 44) rfl rfl ?_
        refine q_iload_n C dX12_isBodySign_44 (n := 45) rfl rfl ?_
        refine q_callSp C dX12_isBodySign_45 (n := 48) rfl m_X12_412 s_yX12_bodyAt (c_X12_bodyAt (w := w) (J := J) hI hF v1 v2) (Nat.le_of_ble_eq_true rfl) rfl rfl (Nat.le_of_ble_eq_true rfl) ⟨Nat.le_refl _, Nat.le_refl _⟩ (fun x42 h43 => ?_)
        obtain rfl : x42 = 20 * v1 + v2 := h43
        refine q_iadd C dX12_isBodySign_48 (n := 49) rfl (v := 499 + (20 * v1 + v2)) rfl ?_
        have g44 := zI.at hI (((zM67 h0) (499 + (20 * v1 + v2))).trans (zwG_499 (by omega)))
        refine q_iald C dX12_isBodySign_49 (n := 50) rfl (zM66 h0) (by omega) (v := M (a + 18) (499 + (20 * v1 + v2))) rfl ?_
        refine q_iload C dX12_isBodySign_50 (n := 52) rfl rfl ?_
        refine q_icmp_ne C 59 dX12_isBodySign_52 (n := 55) rfl rfl (by omega) (fun h45 => ?_) (fun h45 => ?_)
        · exact zK.weak (J_32) (zwk_c (zwk_c (zwk_c (zwk_c (zwk_c (zwk_n (zwk_n zwk_e)))))))
        · refine q_iconst C dX12_isBodySign_55 (n := 56) rfl ?_
          refine q_goto C 60 dX12_isBodySign_56 rfl ?_
          exact zK.weak (J_6 1 (by omega) (by omega) (by omega) (by omega)) (zwk_c (zwk_c (zwk_c (zwk_c (zwk_c (zwk_n (zwk_n zwk_e)))))))
theorem c_X12_isPaste {w : zWp} {T : zTl} {M : zMm} {J : zJm} {R : zRm'} {G : zGt} {F : zRm'} {a : Nat} (hI : zI G M) (hF : zF F R) (h0 : zModel T F G a) (v1 : Int) (v2 : Int) (p1 : 0 ≤ v1 ∧ v1 ≤ 11) (p2 : -1 ≤ v2 ∧ v2 ≤ 30) : zCt w 4 0 0 yX12_isPaste cX12_isPaste 3 (some .boolean) [.ref (w.2.1 + a), zi v1, zi v2] (T, M, J, R) (zPp T M J R (fun x => (x = 0 ∨ x = 1))) := by
  refine zCt.of rfl (Nat.le_of_ble_eq_true rfl) ?_
  intro p e s m args below meth c C
  obtain ⟨Po, hPo⟩ : ∃ Po, Po = zPp T M J R (fun x => (x = 0 ∨ x = 1)) := ⟨_, rfl⟩
  rw [← hPo]
  show zK w p e 4 0 0 s m args below meth c 3 T Po 0 [.ref (w.2.1 + a), zi v1, zi v2] [] (T, M, J, R)
  refine q_aload_n C dX12_isPaste_0 (n := 1) rfl rfl ?_
  refine q_iload_n C dX12_isPaste_1 (n := 2) rfl rfl ?_
  refine q_iload_n C dX12_isPaste_2 (n := 3) rfl rfl ?_
  refine q_bipush C dX12_isPaste_3 (n := 5) rfl (x := 35) (by decide) ?_
  refine q_iconst C dX12_isPaste_5 (n := 6) rfl ?_
  refine q_callVp C dX12_isPaste_6 (n := 9) rfl m_X12_418 v_yX12_isBodySign (zM0 h0) ⟨by decide, rfl⟩ (c_X12_isBodySign (w := w) (J := J) hI hF h0 v1 v2 35 2 (by omega) (by omega) (by omega) (by omega)) (Nat.le_of_ble_eq_true rfl) rfl rfl (Nat.le_of_ble_eq_true rfl) ⟨Nat.le_refl _, Nat.le_refl _⟩ (fun x5 h6 => ?_)
  obtain ⟨h1, h2, h3, h4⟩ := h6
  exact q_zret C dX12_isPaste_9 ⟨rfl, rfl⟩ (by omega) (by rw [hPo]; exact ⟨x5, rfl, rfl, by omega⟩)
theorem c_X12_isMaking {w : zWp} {T : zTl} {M : zMm} {J : zJm} {R : zRm'} {G : zGt} {F : zRm'} {a : Nat} (hI : zI G M) (hF : zF F R) (h0 : zModel T F G a) (v1 : Int) (v2 : Int) (p1 : 0 ≤ v1 ∧ v1 ≤ 11) (p2 : -1 ≤ v2 ∧ v2 ≤ 30) : zCt w 4 0 0 yX12_isMaking cX12_isMaking 3 (some .boolean) [.ref (w.2.1 + a), zi v1, zi v2] (T, M, J, R) (zPp T M J R (fun x => (x = 0 ∨ x = 1) ∧ (x = 0 ∨ 0 ≤ v2 ∧ v2 ≤ 19 ∧ v2 < M (a + 18) (211 + v1)) ∧ (x = 0 ∨ 0 ≤ M (a + 18) (199 + v1)) ∧ (x = 0 ∨ M (a + 18) (259 + (20 * v1 + v2)) = 3 ∧ M (a + 18) (499 + (20 * v1 + v2)) = 1) ∧ (x = 0 ∨ M (a + 20) (360 + 30 * (20 * v1 + v2)) = 35))) := by
  refine zCt.of rfl (Nat.le_of_ble_eq_true rfl) ?_
  intro p e s m args below meth c C
  obtain ⟨Po, hPo⟩ : ∃ Po, Po = zPp T M J R (fun x => (x = 0 ∨ x = 1) ∧ (x = 0 ∨ 0 ≤ v2 ∧ v2 ≤ 19 ∧ v2 < M (a + 18) (211 + v1)) ∧ (x = 0 ∨ 0 ≤ M (a + 18) (199 + v1)) ∧ (x = 0 ∨ M (a + 18) (259 + (20 * v1 + v2)) = 3 ∧ M (a + 18) (499 + (20 * v1 + v2)) = 1) ∧ (x = 0 ∨ M (a + 20) (360 + 30 * (20 * v1 + v2)) = 35)) := ⟨_, rfl⟩
  rw [← hPo]
  show zK w p e 4 0 0 s m args below meth c 3 T Po 0 [.ref (w.2.1 + a), zi v1, zi v2] [] (T, M, J, R)
  refine q_aload_n C dX12_isMaking_0 (n := 1) rfl rfl ?_
  refine q_getR C dX12_isMaking_1 (n := 4) rfl f_X12_68 (zM0 h0) (hF _ _ _ (zM65 h0)) ?_
  refine q_sipush C dX12_isMaking_4 (n := 7) rfl (x := 199) (by decide) ?_
  refine q_iload_n C dX12_isMaking_7 (n := 8) rfl rfl ?_
  refine q_iadd C dX12_isMaking_8 (n := 9) rfl (v := 199 + v1) rfl ?_
  have g1 := zI.at hI (((zM67 h0) (199 + v1)).trans (zwG_199 (by omega)))
  refine q_iald C dX12_isMaking_9 (n := 10) rfl (zM66 h0) (by omega) (v := M (a + 18) (199 + v1)) rfl ?_
  refine q_if_lt C 29 dX12_isMaking_10 (n := 13) rfl rfl (by omega) (fun h2 => ?_) (fun h2 => ?_)
  · refine q_iconst C dX12_isMaking_29 (n := 30) rfl ?_
    exact q_zret C dX12_isMaking_30 ⟨rfl, rfl⟩ (by omega) (by rw [hPo]; exact ⟨0, rfl, rfl, by omega, by omega, by omega, by omega, by omega⟩)
  · refine q_aload_n C dX12_isMaking_13 (n := 14) rfl rfl ?_
    refine q_iload_n C dX12_isMaking_14 (n := 15) rfl rfl ?_
    refine q_iload_n C dX12_isMaking_15 (n := 16) rfl rfl ?_
    refine q_bipush C dX12_isMaking_16 (n := 18) rfl (x := 35) (by decide) ?_
    refine q_iconst C dX12_isMaking_18 (n := 19) rfl ?_
    refine q_callVp C dX12_isMaking_19 (n := 22) rfl m_X12_418 v_yX12_isBodySign (zM0 h0) ⟨by decide, rfl⟩ (c_X12_isBodySign (w := w) (J := J) hI hF h0 v1 v2 35 1 (by omega) (by omega) (by omega) (by omega)) (Nat.le_of_ble_eq_true rfl) rfl rfl (Nat.le_of_ble_eq_true rfl) ⟨Nat.le_refl _, Nat.le_refl _⟩ (fun x7 h8 => ?_)
    obtain ⟨h3, h4, h5, h6⟩ := h8
    refine q_if_eq C 29 dX12_isMaking_22 (n := 25) rfl rfl (by omega) (fun h9 => ?_) (fun h9 => ?_)
    · refine q_iconst C dX12_isMaking_29 (n := 30) rfl ?_
      exact q_zret C dX12_isMaking_30 ⟨rfl, rfl⟩ (by omega) (by rw [hPo]; exact ⟨0, rfl, rfl, by omega, by omega, by omega, by omega, by omega⟩)
    · refine q_iconst C dX12_isMaking_25 (n := 26) rfl ?_
      refine q_goto C 30 dX12_isMaking_26 rfl ?_
      exact q_zret C dX12_isMaking_30 ⟨rfl, rfl⟩ (by omega) (by rw [hPo]; exact ⟨1, rfl, rfl, by omega, by omega, by omega, by omega, by omega⟩)
theorem c_X12_parameterOf {w : zWp} {T : zTl} {M : zMm} {J : zJm} {R : zRm'} {G : zGt} {F : zRm'} {a : Nat} (hI : zI G M) (hF : zF F R) (h0 : zModel T F G a) (v1 : Int) (p1 : 0 ≤ v1 ∧ v1 ≤ 1000) : zCt w 3 0 0 yX12_parameterOf cX12_parameterOf 3 (some .int) [.ref (w.2.1 + a), zi v1] (T, M, J, R) (zPp T M J R (fun x => (-1 ≤ x ∧ x ≤ 3 ∧ x < M a 37) ∧ (zPqp M a v1 x))) := by
  refine zCt.of rfl (Nat.le_of_ble_eq_true rfl) ?_
  intro p e s m args below meth c C
  obtain ⟨Po, hPo⟩ : ∃ Po, Po = zPp T M J R (fun x => (-1 ≤ x ∧ x ≤ 3 ∧ x < M a 37) ∧ (zPqp M a v1 x)) := ⟨_, rfl⟩
  rw [← hPo]
  have gk_parameters := zI.at hI (zM84 h0)
  show zK w p e 3 0 0 s m args below meth c 3 T Po 0 [.ref (w.2.1 + a), zi v1, .null] [] (T, M, J, R)
  refine q_iload_n C dX12_parameterOf_0 (n := 1) rfl rfl ?_
  refine q_aload_n C dX12_parameterOf_1 (n := 2) rfl rfl ?_
  have g1 := zI.at hI (zM58 h0)
  refine q_getI C dX12_parameterOf_2 (n := 5) rfl f_X12_355 (zM0 h0) (v := M a 23) rfl ?_
  refine q_icmp_ge C 17 dX12_parameterOf_5 (n := 8) rfl rfl (by omega) (fun h2 => ?_) (fun h2 => ?_)
  · refine q_iconst C dX12_parameterOf_17 (n := 18) rfl ?_
    exact q_iret C dX12_parameterOf_18 ⟨rfl, rfl⟩ (by rw [hPo]; exact ⟨(-1), rfl, rfl, by omega, (by first | exact zPqp.no1 (by omega) | exact zPqp.no2 (by omega))⟩)
  · refine q_aload_n C dX12_parameterOf_8 (n := 9) rfl rfl ?_
    refine q_getR C dX12_parameterOf_9 (n := 12) rfl f_X12_40 (zM0 h0) (hF _ _ _ (zM31 h0)) ?_
    refine q_iload_n C dX12_parameterOf_12 (n := 13) rfl rfl ?_
    have g3 := zI.at hI ((zM33 h0) v1)
    refine q_iald C dX12_parameterOf_13 (n := 14) rfl (zM32 h0) (by omega) (v := M (a + 9) v1) rfl ?_
    refine q_if_eq C 19 dX12_parameterOf_14 (n := 17) rfl rfl (by omega) (fun h4 => ?_) (fun h4 => ?_)
    · refine q_iconst C dX12_parameterOf_19 (n := 20) rfl ?_
      refine q_istore_n C [.ref (w.2.1 + a), zi v1, zi 0] dX12_parameterOf_20 (n := 21) rfl rfl rfl ?_
      have L_9 : ∀ n10 : Nat, ∀ (u5 : Int), (-2147483648 ≤ u5 ∧ u5 ≤ 2147483647) → (0 ≤ u5 ∧ u5 ≤ 4 ∧ u5 ≤ M a 37) → (zPqn M a v1 u5) → (4 - u5 + 1 ≤ (n10 : Int)) → zK w p e 3 0 0 s m args below meth c 3 T Po 21 [.ref (w.2.1 + a), zi v1, zi u5] [] (T, M, J, R) := by
        intro n10
        induction n10 with
        | zero =>
          intro u5 h6 h7 h8 hm12
          exfalso
          omega
        | succ n10 ih11 =>
          intro u5 h6 h7 h8 hm12
          refine q_iload_n C dX12_parameterOf_21 (n := 22) rfl rfl ?_
          refine q_aload_n C dX12_parameterOf_22 (n := 23) rfl rfl ?_
          have g13 := zI.at hI (zM84 h0)
          refine q_getI C dX12_parameterOf_23 (n := 26) rfl f_X12_421 (zM0 h0) (v := M a 37) rfl ?_
          refine q_icmp_ge C 51 dX12_parameterOf_26 (n := 29) rfl rfl (by omega) (fun h14 => ?_) (fun h14 => ?_)
          · refine q_iconst C dX12_parameterOf_51 (n := 52) rfl ?_
            exact q_iret C dX12_parameterOf_52 ⟨rfl, rfl⟩ (by rw [hPo]; exact ⟨(-1), rfl, rfl, by omega, (by first | exact zPqp.no1 (by omega) | exact zPqp.no2 (by omega) | exact zPqp.no3 h8 (by omega))⟩)
          · refine q_aload_n C dX12_parameterOf_29 (n := 30) rfl rfl ?_
            refine q_aload_n C dX12_parameterOf_30 (n := 31) rfl rfl ?_
            refine q_getR C dX12_parameterOf_31 (n := 34) rfl f_X12_83 (zM0 h0) (hF _ _ _ (zM81 h0)) ?_
            refine q_iload_n C dX12_parameterOf_34 (n := 35) rfl rfl ?_
            have g15 := zI.at hI ((zM83 h0) u5)
            refine q_iald C dX12_parameterOf_35 (n := 36) rfl (zM82 h0) (by omega) (v := M (a + 23) u5) rfl ?_
            refine q_iload_n C dX12_parameterOf_36 (n := 37) rfl rfl ?_
            refine q_callVp C dX12_parameterOf_37 (n := 40) rfl m_X12_424 v_yX12_isLike (zM0 h0) ⟨by decide, rfl⟩ (c_X12_isLike (w := w) (J := J) hI hF h0 (M (a + 23) u5) v1 (by omega) (by omega)) (Nat.le_of_ble_eq_true rfl) rfl rfl (Nat.le_of_ble_eq_true rfl) ⟨Nat.le_refl _, Nat.le_refl _⟩ (fun x18 h19 => ?_)
            obtain ⟨h16, h17⟩ := h19
            refine q_if_eq C 45 dX12_parameterOf_40 (n := 43) rfl rfl (by omega) (fun h20 => ?_) (fun h20 => ?_)
            · refine q_iinc C [.ref (w.2.1 + a), zi v1, zi (u5 + 1)] dX12_parameterOf_45 (n := 48) rfl rfl rfl rfl ?_
              refine q_goto C 21 dX12_parameterOf_48 rfl ?_
              exact zK.weak (ih11 (u5 + 1) (by omega) (by omega) (zPqn.st h8 (by omega) h17) (by omega)) (zwk_c (zwk_c (zwk_c zwk_e)))
            · refine q_iload_n C dX12_parameterOf_43 (n := 44) rfl rfl ?_
              exact q_iret C dX12_parameterOf_44 ⟨rfl, rfl⟩ (by rw [hPo]; exact ⟨u5, rfl, rfl, by omega, (zPqp.yes (by omega) (by omega) (by omega) (by omega) (by omega) h17)⟩)
      exact zK.weak (L_9 _ 0 (by omega) (by omega) zPqn.zero (Int.self_le_toNat _)) (zwk_c (zwk_c (zwk_c zwk_e)))
    · refine q_iconst C dX12_parameterOf_17 (n := 18) rfl ?_
      exact q_iret C dX12_parameterOf_18 ⟨rfl, rfl⟩ (by rw [hPo]; exact ⟨(-1), rfl, rfl, by omega, (by first | exact zPqp.no1 (by omega) | exact zPqp.no2 (by omega))⟩)
theorem c_X12_readParameters {w : zWp} {T : zTl} {M : zMm} {J : zJm} {R : zRm'} {G : zGt} {F : zRm'} {a : Nat} (hI : zI G M) (hF : zF F R) (h0 : zModel T F G a) (v1 : Int) (p1 : 0 ≤ v1 ∧ v1 ≤ 441 ∧ v1 ≤ M a 23) (p2 : zLy M a 440) (p3 : zPo M a) : zCt w 4 0 0 yX12_readParameters cX12_readParameters 4 (some .int) [.ref (w.2.1 + a), zi v1] (T, M, J, R) (zPi T R G (fun x M2 => (zMd a [23] [37] [(18, 11), (18, 12), (18, 13), (18, 14)] M M2) ∧ (x = -1 ∨ v1 ≤ x ∧ x ≤ 441 ∧ x ≤ M a 23) ∧ (zPo M2 a))) := by
  refine zCt.of rfl (Nat.le_of_ble_eq_true rfl) ?_
  intro p e s m args below meth c C
  obtain ⟨Po, hPo⟩ : ∃ Po, Po = zPi T R G (fun x M2 => (zMd a [23] [37] [(18, 11), (18, 12), (18, 13), (18, 14)] M M2) ∧ (x = -1 ∨ v1 ≤ x ∧ x ≤ 441 ∧ x ≤ M a 23) ∧ (zPo M2 a)) := ⟨_, rfl⟩
  rw [← hPo]
  have hK0 : zMd a [23] [37] [(18, 11), (18, 12), (18, 13), (18, 14)] M M := zMd.rf
  have gk_tokens := zI.at hI (zM58 h0)
  have gk_parameters := zI.at hI (zM84 h0)
  show zK w p e 4 0 0 s m args below meth c 4 T Po 0 [.ref (w.2.1 + a), zi v1, .null, .null] [] (T, M, J, R)
  refine q_iload_n C dX12_readParameters_0 (n := 1) rfl rfl ?_
  refine q_istore_n C [.ref (w.2.1 + a), zi v1, zi v1, .null] dX12_readParameters_1 (n := 2) rfl rfl rfl ?_
  refine q_iload_n C dX12_readParameters_2 (n := 3) rfl rfl ?_
  refine q_aload_n C dX12_readParameters_3 (n := 4) rfl rfl ?_
  have g1 := zI.at hI (zM58 h0)
  refine q_getI C dX12_readParameters_4 (n := 7) rfl f_X12_355 (zM0 h0) (v := M a 23) rfl ?_
  have J_2 : zK w p e 4 0 0 s m args below meth c 4 T Po 24 [.ref (w.2.1 + a), .null, zi v1, .null] [] (T, M, J, R) := by
    refine q_iconst C dX12_readParameters_24 (n := 25) rfl ?_
    refine q_istore_n C [.ref (w.2.1 + a), .null, zi v1, zi 1] dX12_readParameters_25 (n := 26) rfl rfl rfl ?_
    have L_16 : ∀ n17 : Nat, ∀ (u3 : Int) (u4 : Int) (M6 : zMm) (J7 : zJm), zI G M6 → zMd a [23] [37] [(18, 11), (18, 12), (18, 13), (18, 14)] M M6 → zMd a [23] [37] [] M M6 → (-2147483648 ≤ u3 ∧ u3 ≤ 2147483647) → (-2147483648 ≤ u4 ∧ u4 ≤ 2147483647) → (v1 ≤ u3 ∧ u3 ≤ 441 ∧ u3 ≤ M a 23) → (u4 = 0 ∨ u4 = 1) → (zPo M6 a) → (500 - u3 ≤ (n17 : Int)) → zK w p e 4 0 0 s m args below meth c 4 T Po 26 [.ref (w.2.1 + a), .null, zi u3, zi u4] [] (T, M6, J7, R) := by
      intro n17
      induction n17 with
      | zero =>
        intro u3 u4 M6 J7 hI8 hK9 hK10 h11 h12 h13 h14 h15 hm19
        exfalso
        omega
      | succ n17 ih18 =>
        intro u3 u4 M6 J7 hI8 hK9 hK10 h11 h12 h13 h14 h15 hm19
        refine q_iload_n C dX12_readParameters_26 (n := 27) rfl rfl ?_
        refine q_if_eq C 166 dX12_readParameters_27 (n := 30) rfl rfl (by omega) (fun h20 => ?_) (fun h20 => ?_)
        · refine q_iload_n C dX12_readParameters_166 (n := 167) rfl rfl ?_
          exact q_iret C dX12_readParameters_167 ⟨rfl, rfl⟩ (by rw [hPo]; exact ⟨u3, M6, J7, rfl, rfl, hI8, hK9, by omega, h15⟩)
        · refine q_iload_n C dX12_readParameters_30 (n := 31) rfl rfl ?_
          refine q_aload_n C dX12_readParameters_31 (n := 32) rfl rfl ?_
          refine q_getI C dX12_readParameters_32 (n := 35) rfl f_X12_355 (zM0 h0) (v := M a 23) (hK10.getS rfl rfl) ?_
          have J_21 : zK w p e 4 0 0 s m args below meth c 4 T Po 55 [.ref (w.2.1 + a), .null, zi u3, .null] [] (T, M6, J7, R) := by
            refine q_aload_n C dX12_readParameters_55 (n := 56) rfl rfl ?_
            refine q_iconst C dX12_readParameters_56 (n := 57) rfl ?_
            refine q_iload_n C dX12_readParameters_57 (n := 58) rfl rfl ?_
            refine q_callVi C dX12_readParameters_58 (n := 61) rfl m_X12_430 v_yX12_badToken (zM0 h0) ⟨by decide, rfl⟩ (c_X12_badToken (w := w) (J := J7) hI8 hF h0 2 u3 (by omega) (by omega)) (Nat.le_of_ble_eq_true rfl) rfl rfl (Nat.le_of_ble_eq_true rfl) ⟨Nat.le_refl _, Nat.le_refl _⟩ (fun x28 M24 J25  hI26 h27 => ?_)
            obtain ⟨hk29, h22, h23⟩ := h27
            have hK30 := hK9.tr hk29 rfl rfl rfl
            refine q_pop C dX12_readParameters_61 (n := 62) rfl rfl ?_
            refine q_iconst C dX12_readParameters_62 (n := 63) rfl ?_
            have hp31 : zPo M24 a := h15.cg (fun j => (hk29.getA rfl rfl rfl)) (fun j => (hk29.getA rfl rfl rfl)) (hk29.getS rfl rfl)
            exact q_iret C dX12_readParameters_63 ⟨rfl, rfl⟩ (by rw [hPo]; exact ⟨(-1), M24, J25, rfl, rfl, hI26, hK30, by omega, hp31⟩)
          refine q_icmp_ge C 55 dX12_readParameters_35 (n := 38) rfl rfl (by omega) (fun h32 => ?_) (fun h32 => ?_)
          · exact zK.weak (J_21) (zwk_c (zwk_n (zwk_c (zwk_n zwk_e))))
          · refine q_aload_n C dX12_readParameters_38 (n := 39) rfl rfl ?_
            refine q_getR C dX12_readParameters_39 (n := 42) rfl f_X12_40 (zM0 h0) (hF _ _ _ (zM31 h0)) ?_
            refine q_iload_n C dX12_readParameters_42 (n := 43) rfl rfl ?_
            have g33 := zI.at hI ((zM33 h0) u3)
            refine q_iald C dX12_readParameters_43 (n := 44) rfl (zM32 h0) (by omega) (v := M (a + 9) u3) (hK10.getA rfl rfl rfl) ?_
            refine q_if_ne C 55 dX12_readParameters_44 (n := 47) rfl rfl (by omega) (fun h34 => ?_) (fun h34 => ?_)
            · exact zK.weak (J_21) (zwk_c (zwk_n (zwk_c (zwk_n zwk_e))))
            · refine q_aload_n C dX12_readParameters_47 (n := 48) rfl rfl ?_
              refine q_iload_n C dX12_readParameters_48 (n := 49) rfl rfl ?_
              refine q_callVp C dX12_readParameters_49 (n := 52) rfl m_X12_427 v_yX12_parameterOf (zM0 h0) ⟨by decide, rfl⟩ (c_X12_parameterOf (w := w) (J := J7) hI8 hF h0 u3 (by omega)) (Nat.le_of_ble_eq_true rfl) rfl rfl (Nat.le_of_ble_eq_true rfl) ⟨Nat.le_refl _, Nat.le_refl _⟩ (fun x37 h38 => ?_)
              obtain ⟨h35, h36⟩ := h38
              refine q_if_lt C 64 dX12_readParameters_52 (n := 55) rfl rfl (by omega) (fun h39 => ?_) (fun h39 => ?_)
              · refine q_aload_n C dX12_readParameters_64 (n := 65) rfl rfl ?_
                have g40 := zI.at hI8 (zM84 h0)
                refine q_getI C dX12_readParameters_65 (n := 68) rfl f_X12_421 (zM0 h0) (v := M6 a 37) rfl ?_
                refine q_iconst C dX12_readParameters_68 (n := 69) rfl ?_
                refine q_icmp_ne C 82 dX12_readParameters_69 (n := 72) rfl rfl (by omega) (fun h41 => ?_) (fun h41 => ?_)
                · refine q_aload_n C dX12_readParameters_82 (n := 83) rfl rfl ?_
                  refine q_getR C dX12_readParameters_83 (n := 86) rfl f_X12_83 (zM0 h0) (hF _ _ _ (zM81 h0)) ?_
                  refine q_aload_n C dX12_readParameters_86 (n := 87) rfl rfl ?_
                  refine q_getI C dX12_readParameters_87 (n := 90) rfl f_X12_421 (zM0 h0) (v := M6 a 37) rfl ?_
                  refine q_iload_n C dX12_readParameters_90 (n := 91) rfl rfl ?_
                  refine q_iast C dX12_readParameters_91 (n := 92) rfl (zM82 h0) (by omega)  (fun M42 e43 => ?_)
                  have hI44 : zI G M42 := hI8.put e43 ((zM83 h0) (M6 a 37)) rfl (by omega)
                  have hK45 := hK9.upA e43 rfl
                  have hK46 := hK10.upA e43 rfl
                  refine q_aload_n C dX12_readParameters_92 (n := 93) rfl rfl ?_
                  refine q_dup C dX12_readParameters_93 (n := 94) rfl rfl ?_
                  refine q_getI C dX12_readParameters_94 (n := 97) rfl f_X12_421 (zM0 h0) (v := M6 a 37) (zup_p e43 (by omega) _) ?_
                  refine q_iconst C dX12_readParameters_97 (n := 98) rfl ?_
                  refine q_iadd C dX12_readParameters_98 (n := 99) rfl (v := (M6 a 37) + 1) rfl ?_
                  refine q_putI C dX12_readParameters_99 (n := 102) rfl f_X12_421 (zM0 h0) ⟨rfl, rfl⟩ (fun M47 (e48 : M47 = zup M42 a 37 ((M6 a 37) + 1)) => ?_)
                  have hI49 : zI G M47 := hI44.put e48 (zM84 h0) rfl (by omega)
                  have hK50 := hK45.upS e48 rfl
                  have hK51 := hK46.upS e48 rfl
                  have hz52 : M6 a 23 = M a 23 := (hK10.getS rfl rfl)
                  have hp54 : zLy M6 a 440 := p2.cg (fun j => (hK10.getA rfl rfl rfl)) (fun j => (hK10.getA rfl rfl rfl)) (hK10.getS rfl rfl)
                  have hp53 : zPo M47 a := h15.add (n := (M6 a 37)) (t := u3) rfl (fun j => ((zup_p e48 (by omega) _).trans (zup_p e43 (by omega) _))) (fun j hj => ((zup_p e48 (by omega) _).trans (zup_n e43 (by omega)))) ((zup_p e48 (by omega) _).trans (zup_s e43)) (zup_s e48) (hp54 u3 (by omega) (by omega)).1
                  refine q_iinc C [.ref (w.2.1 + a), .null, zi (u3 + 1), zi u4] dX12_readParameters_102 (n := 105) rfl rfl rfl rfl ?_
                  refine q_iload_n C dX12_readParameters_105 (n := 106) rfl rfl ?_
                  refine q_aload_n C dX12_readParameters_106 (n := 107) rfl rfl ?_
                  refine q_getI C dX12_readParameters_107 (n := 110) rfl f_X12_355 (zM0 h0) (v := M a 23) ((zup_n e48 (by omega)).trans ((zup_p e43 (by omega) _).trans (hK10.getS rfl rfl))) ?_
                  have J_59 : ∀ (u55 : Int), (-2147483648 ≤ u55 ∧ u55 ≤ 2147483647) → (u55 = 0 ∨ u55 = 1) → (u55 = 0 ∨ (u3 + 1) < M a 23) → zK w p e 4 0 0 s m args below meth c 4 T Po 128 [.ref (w.2.1 + a), .null, zi (u3 + 1), .null] [zi u55] (T, M47, J7, R) := by
                    intro u55 h56 h57 h58
                    refine q_istore_n C [.ref (w.2.1 + a), .null, zi (u3 + 1), zi u55] dX12_readParameters_128 (n := 129) rfl rfl rfl ?_
                    refine q_iload_n C dX12_readParameters_129 (n := 130) rfl rfl ?_
                    have J_61 : ((u3 + 1) < M a 23) → zK w p e 4 0 0 s m args below meth c 4 T Po 160 [.ref (w.2.1 + a), .null, zi (u3 + 1), zi u55] [] (T, M47, J7, R) := by
                      intro h60
                      refine q_iinc C [.ref (w.2.1 + a), .null, zi ((u3 + 1) + 1), zi u55] dX12_readParameters_160 (n := 163) rfl rfl rfl rfl ?_
                      refine q_goto C 26 dX12_readParameters_163 rfl ?_
                      exact zK.weak (ih18 ((u3 + 1) + 1) u55 M47 J7 hI49 hK50 hK51 (by omega) (by omega) (by omega) (by omega) hp53 (by omega)) (zwk_c (zwk_n (zwk_c (zwk_c zwk_e))))
                    refine q_if_ne C 160 dX12_readParameters_130 (n := 133) rfl rfl (by omega) (fun h62 => ?_) (fun h62 => ?_)
                    · exact zK.weak (J_61 (by omega)) (zwk_c (zwk_n (zwk_c (zwk_c zwk_e))))
                    · refine q_iload_n C dX12_readParameters_133 (n := 134) rfl rfl ?_
                      refine q_aload_n C dX12_readParameters_134 (n := 135) rfl rfl ?_
                      refine q_getI C dX12_readParameters_135 (n := 138) rfl f_X12_355 (zM0 h0) (v := M a 23) ((zup_n e48 (by omega)).trans ((zup_p e43 (by omega) _).trans (hK10.getS rfl rfl))) ?_
                      have J_63 : zK w p e 4 0 0 s m args below meth c 4 T Po 151 [.ref (w.2.1 + a), .null, zi (u3 + 1), .null] [] (T, M47, J7, R) := by
                        refine q_aload_n C dX12_readParameters_151 (n := 152) rfl rfl ?_
                        refine q_iconst C dX12_readParameters_152 (n := 153) rfl ?_
                        refine q_iload_n C dX12_readParameters_153 (n := 154) rfl rfl ?_
                        refine q_callVi C dX12_readParameters_154 (n := 157) rfl m_X12_430 v_yX12_badToken (zM0 h0) ⟨by decide, rfl⟩ (c_X12_badToken (w := w) (J := J7) hI49 hF h0 2 (u3 + 1) (by omega) (by omega)) (Nat.le_of_ble_eq_true rfl) rfl rfl (Nat.le_of_ble_eq_true rfl) ⟨Nat.le_refl _, Nat.le_refl _⟩ (fun x70 M66 J67  hI68 h69 => ?_)
                        obtain ⟨hk71, h64, h65⟩ := h69
                        have hK72 := hK50.tr hk71 rfl rfl rfl
                        refine q_pop C dX12_readParameters_157 (n := 158) rfl rfl ?_
                        refine q_iconst C dX12_readParameters_158 (n := 159) rfl ?_
                        have hp73 : zPo M66 a := hp53.cg (fun j => (hk71.getA rfl rfl rfl)) (fun j => (hk71.getA rfl rfl rfl)) (hk71.getS rfl rfl)
                        exact q_iret C dX12_readParameters_159 ⟨rfl, rfl⟩ (by rw [hPo]; exact ⟨(-1), M66, J67, rfl, rfl, hI68, hK72, by omega, hp73⟩)
                      refine q_icmp_ge C 151 dX12_readParameters_138 (n := 141) rfl rfl (by omega) (fun h74 => ?_) (fun h74 => ?_)
                      · exact zK.weak (J_63) (zwk_c (zwk_n (zwk_c (zwk_n zwk_e))))
                      · refine q_aload_n C dX12_readParameters_141 (n := 142) rfl rfl ?_
                        refine q_iload_n C dX12_readParameters_142 (n := 143) rfl rfl ?_
                        refine q_bipush C dX12_readParameters_143 (n := 145) rfl (x := 41) (by decide) ?_
                        refine q_callVp C dX12_readParameters_145 (n := 148) rfl m_X12_406 v_yX12_isSign (zM0 h0) ⟨by decide, rfl⟩ (c_X12_isSign (w := w) (J := J7) hI49 hF h0 (u3 + 1) 41 (by omega) (by omega)) (Nat.le_of_ble_eq_true rfl) rfl rfl (Nat.le_of_ble_eq_true rfl) ⟨Nat.le_refl _, Nat.le_refl _⟩ (fun x78 h79 => ?_)
                        obtain ⟨h75, h76, h77⟩ := h79
                        have hz80 : M47 (a + 9) (u3 + 1) = M (a + 9) (u3 + 1) := ((zup_p e48 (by omega) _).trans ((zup_p e43 (by omega) _).trans (hK10.getA rfl rfl rfl)))
                        have hz81 : M47 (a + 11) (u3 + 1) = M (a + 11) (u3 + 1) := ((zup_p e48 (by omega) _).trans ((zup_p e43 (by omega) _).trans (hK10.getA rfl rfl rfl)))
                        refine q_if_ne C 160 dX12_readParameters_148 (n := 151) rfl rfl (by omega) (fun h82 => ?_) (fun h82 => ?_)
                        · exact zK.weak (J_61 (by omega)) (zwk_c (zwk_n (zwk_c (zwk_c zwk_e))))
                        · exact zK.weak (J_63) (zwk_c (zwk_n (zwk_c (zwk_n zwk_e))))
                  have J_83 : zK w p e 4 0 0 s m args below meth c 4 T Po 127 [.ref (w.2.1 + a), .null, zi (u3 + 1), .null] [] (T, M47, J7, R) := by
                    refine q_iconst C dX12_readParameters_127 (n := 128) rfl ?_
                    exact zK.weak (J_59 0 (by omega) (by omega) (by omega)) (zwk_c (zwk_n (zwk_c (zwk_n zwk_e))))
                  refine q_icmp_ge C 127 dX12_readParameters_110 (n := 113) rfl rfl (by omega) (fun h84 => ?_) (fun h84 => ?_)
                  · exact zK.weak (J_83) (zwk_c (zwk_n (zwk_c (zwk_n zwk_e))))
                  · refine q_aload_n C dX12_readParameters_113 (n := 114) rfl rfl ?_
                    refine q_iload_n C dX12_readParameters_114 (n := 115) rfl rfl ?_
                    refine q_bipush C dX12_readParameters_115 (n := 117) rfl (x := 44) (by decide) ?_
                    refine q_callVp C dX12_readParameters_117 (n := 120) rfl m_X12_406 v_yX12_isSign (zM0 h0) ⟨by decide, rfl⟩ (c_X12_isSign (w := w) (J := J7) hI49 hF h0 (u3 + 1) 44 (by omega) (by omega)) (Nat.le_of_ble_eq_true rfl) rfl rfl (Nat.le_of_ble_eq_true rfl) ⟨Nat.le_refl _, Nat.le_refl _⟩ (fun x88 h89 => ?_)
                    obtain ⟨h85, h86, h87⟩ := h89
                    have hz90 : M47 (a + 9) (u3 + 1) = M (a + 9) (u3 + 1) := ((zup_p e48 (by omega) _).trans ((zup_p e43 (by omega) _).trans (hK10.getA rfl rfl rfl)))
                    have hz91 : M47 (a + 11) (u3 + 1) = M (a + 11) (u3 + 1) := ((zup_p e48 (by omega) _).trans ((zup_p e43 (by omega) _).trans (hK10.getA rfl rfl rfl)))
                    refine q_if_eq C 127 dX12_readParameters_120 (n := 123) rfl rfl (by omega) (fun h92 => ?_) (fun h92 => ?_)
                    · exact zK.weak (J_83) (zwk_c (zwk_n (zwk_c (zwk_n zwk_e))))
                    · refine q_iconst C dX12_readParameters_123 (n := 124) rfl ?_
                      refine q_goto C 128 dX12_readParameters_124 rfl ?_
                      exact zK.weak (J_59 1 (by omega) (by omega) (by omega)) (zwk_c (zwk_n (zwk_c (zwk_n zwk_e))))
                · refine q_aload_n C dX12_readParameters_72 (n := 73) rfl rfl ?_
                  refine q_bipush C dX12_readParameters_73 (n := 75) rfl (x := 7) (by decide) ?_
                  refine q_iload_n C dX12_readParameters_75 (n := 76) rfl rfl ?_
                  refine q_callVi C dX12_readParameters_76 (n := 79) rfl m_X12_430 v_yX12_badToken (zM0 h0) ⟨by decide, rfl⟩ (c_X12_badToken (w := w) (J := J7) hI8 hF h0 7 u3 (by omega) (by omega)) (Nat.le_of_ble_eq_true rfl) rfl rfl (Nat.le_of_ble_eq_true rfl) ⟨Nat.le_refl _, Nat.le_refl _⟩ (fun x99 M95 J96  hI97 h98 => ?_)
                  obtain ⟨hk100, h93, h94⟩ := h98
                  have hK101 := hK9.tr hk100 rfl rfl rfl
                  refine q_pop C dX12_readParameters_79 (n := 80) rfl rfl ?_
                  refine q_iconst C dX12_readParameters_80 (n := 81) rfl ?_
                  have hp102 : zPo M95 a := h15.cg (fun j => (hk100.getA rfl rfl rfl)) (fun j => (hk100.getA rfl rfl rfl)) (hk100.getS rfl rfl)
                  exact q_iret C dX12_readParameters_81 ⟨rfl, rfl⟩ (by rw [hPo]; exact ⟨(-1), M95, J96, rfl, rfl, hI97, hK101, by omega, hp102⟩)
              · exact zK.weak (J_21) (zwk_c (zwk_n (zwk_c (zwk_n zwk_e))))
    exact zK.weak (L_16 _ v1 1 M J hI hK0 (zMd.rf : zMd a [23] [37] [] M M) (by omega) (by omega) (by omega) (by omega) p3 (Int.self_le_toNat _)) (zwk_c (zwk_n (zwk_c (zwk_c zwk_e))))
  refine q_icmp_ge C 24 dX12_readParameters_7 (n := 10) rfl rfl (by omega) (fun h103 => ?_) (fun h103 => ?_)
  · exact zK.weak (J_2) (zwk_c (zwk_n (zwk_c (zwk_n zwk_e))))
  · refine q_aload_n C dX12_readParameters_10 (n := 11) rfl rfl ?_
    refine q_iload_n C dX12_readParameters_11 (n := 12) rfl rfl ?_
    refine q_bipush C dX12_readParameters_12 (n := 14) rfl (x := 41) (by decide) ?_
    refine q_callVp C dX12_readParameters_14 (n := 17) rfl m_X12_406 v_yX12_isSign (zM0 h0) ⟨by decide, rfl⟩ (c_X12_isSign (w := w) (J := J) hI hF h0 v1 41 (by omega) (by omega)) (Nat.le_of_ble_eq_true rfl) rfl rfl (Nat.le_of_ble_eq_true rfl) ⟨Nat.le_refl _, Nat.le_refl _⟩ (fun x107 h108 => ?_)
    obtain ⟨h104, h105, h106⟩ := h108
    refine q_if_eq C 24 dX12_readParameters_17 (n := 20) rfl rfl (by omega) (fun h109 => ?_) (fun h109 => ?_)
    · exact zK.weak (J_2) (zwk_c (zwk_n (zwk_c (zwk_n zwk_e))))
    · refine q_iload_n C dX12_readParameters_20 (n := 21) rfl rfl ?_
      refine q_iconst C dX12_readParameters_21 (n := 22) rfl ?_
      refine q_iadd C dX12_readParameters_22 (n := 23) rfl (v := v1 + 1) rfl ?_
      exact q_iret C dX12_readParameters_23 ⟨rfl, rfl⟩ (by rw [hPo]; exact ⟨v1 + 1, M, J, rfl, rfl, hI, hK0, by omega, p3⟩)
