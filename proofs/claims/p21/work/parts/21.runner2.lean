theorem c_X6_prepare {w : zWp} {T : zTl} {M : zMm} {J : zJm} {R : zRm'} {G : zGt} {F : zRm'} {a L : Nat} (hI : zI G M) (hF : zF F R) (h0 : zRunner T F G a L) (v1 : Int) (v2 : Int) (v3 : Int) (p1 : L ≤ 1000000) (p2 : 0 ≤ M a 15) (p3 : -2147483648 ≤ v1 ∧ v1 ≤ 2147483647) (p4 : 0 ≤ v2 ∧ v2 ≤ 3000) (p5 : -1 ≤ v3 ∧ v3 ≤ 440) : zCt w 4 0 0 yX6_prepare cX6_prepare 4 (some .int) [.ref (w.2.1 + a), zi v1, zi v2, zi v3] (T, M, J, R) (zPi T R G (fun x M2 => (zKp G 13 M M2) ∧ (0 ≤ x ∧ x ≤ 3))) := by
  refine zCt.of rfl (Nat.le_of_ble_eq_true rfl) ?_
  intro p e s m args below meth c C
  obtain ⟨Po, hPo⟩ : ∃ Po, Po = zPi T R G (fun x M2 => (zKp G 13 M M2) ∧ (0 ≤ x ∧ x ≤ 3)) := ⟨_, rfl⟩
  rw [← hPo]
  have hK0 : zKp G 13 M M := zKp.rf
  show zK w p e 4 0 0 s m args below meth c 4 T Po 0 [.ref (w.2.1 + a), zi v1, zi v2, zi v3] [] (T, M, J, R)
  refine q_iload_n C dX6_prepare_0 (n := 1) rfl rfl ?_
  refine q_iconst C dX6_prepare_1 (n := 2) rfl ?_
  have J_1 : zK w p e 4 0 0 s m args below meth c 4 T Po 31 [.ref (w.2.1 + a), .null, zi v2, zi v3] [] (T, M, J, R) := by
    refine q_aload_n C dX6_prepare_31 (n := 32) rfl rfl ?_
    refine q_iload_n C dX6_prepare_32 (n := 33) rfl rfl ?_
    refine q_iload_n C dX6_prepare_33 (n := 34) rfl rfl ?_
    refine q_callVi C dX6_prepare_34 (n := 37) rfl m_X6_225 v_yX6_cutLine h0.1 ⟨by decide, rfl⟩ (c_X6_cutLine (w := w) (J := J) hI hF h0 v2 v3 (by omega) (by omega) (by omega)) (Nat.le_of_ble_eq_true rfl) rfl rfl (Nat.le_of_ble_eq_true rfl) ⟨Nat.le_refl _, Nat.le_refl _⟩ (fun x7 M3 J4  hI5 h6 => ?_)
    obtain ⟨hk8, h2⟩ := h6
    have hK9 := hK0.tr hk8 (by decide)
    refine q_if_ne C 42 dX6_prepare_37 (n := 40) rfl rfl (by omega) (fun h10 => ?_) (fun h10 => ?_)
    · refine q_aload_n C dX6_prepare_42 (n := 43) rfl rfl ?_
      refine q_getR C dX6_prepare_43 (n := 46) rfl f_X6_37 h0.1 (hF _ _ _ h0.2.2.2.2.2.2.2.2.2.2.2.2.2.2.2.2.2.2.2.2.2.2.1) ?_
      have g11 := zI.at hI5 h0.2.2.2.2.2.2.2.2.2.2.2.2.2.2.2.2.2.2.2.2.2.2.2.1.2.2.2.2.2.2.2.2.2.2
      refine q_getI C dX6_prepare_46 (n := 49) rfl f_X6_103 h0.2.2.2.2.2.2.2.2.2.2.2.2.2.2.2.2.2.2.2.2.2.2.2.1.1 (v := M3 (a + 9) 3) rfl ?_
      have J_12 : zK w p e 4 0 0 s m args below meth c 4 T Po 79 [.ref (w.2.1 + a), .null, .null, .null] [] (T, M3, J4, R) := by
        refine q_aload_n C dX6_prepare_79 (n := 80) rfl rfl ?_
        refine q_iconst C dX6_prepare_80 (n := 81) rfl ?_
        refine q_callVv C dX6_prepare_81 (n := 84) rfl m_X6_232 v_yX6_loadFrom h0.1 ⟨by decide, rfl⟩ (c_X6_loadFrom (w := w) (J := J4) hI5 hF h0 0 (by omega)) (Nat.le_of_ble_eq_true rfl) rfl rfl (Nat.le_of_ble_eq_true rfl) ⟨Nat.le_refl _, Nat.le_refl _⟩ (fun M13 J14  hI15 h16 => ?_)
        have hK18 := hK9.tr h16 (by decide)
        refine q_iconst C dX6_prepare_84 (n := 85) rfl ?_
        exact q_iret C dX6_prepare_85 ⟨rfl, rfl⟩ (by rw [hPo]; exact ⟨1, M13, J14, rfl, rfl, hI15, hK18, by omega⟩)
      refine q_if_le C 79 dX6_prepare_49 (n := 52) rfl rfl (by omega) (fun h19 => ?_) (fun h19 => ?_)
      · exact zK.weak (J_12) (zwk_c (zwk_n (zwk_n (zwk_n zwk_e))))
      · refine q_aload_n C dX6_prepare_52 (n := 53) rfl rfl ?_
        refine q_iconst C dX6_prepare_53 (n := 54) rfl ?_
        refine q_bipush C dX6_prepare_54 (n := 56) rfl (x := 35) (by decide) ?_
        refine q_callVp C dX6_prepare_56 (n := 59) rfl m_X6_229 v_yX6_isSign h0.1 ⟨by decide, rfl⟩ (c_X6_isSign (w := w) (J := J4) hI5 hF h0 0 35 (by omega) (by omega) (by omega)) (Nat.le_of_ble_eq_true rfl) rfl rfl (Nat.le_of_ble_eq_true rfl) ⟨Nat.le_refl _, Nat.le_refl _⟩ (fun x21 h22 => ?_)
        refine q_if_eq C 79 dX6_prepare_59 (n := 62) rfl rfl (by omega) (fun h23 => ?_) (fun h23 => ?_)
        · exact zK.weak (J_12) (zwk_c (zwk_n (zwk_n (zwk_n zwk_e))))
        · refine q_aload_n C dX6_prepare_62 (n := 63) rfl rfl ?_
          refine q_getR C dX6_prepare_63 (n := 66) rfl f_X6_37 h0.1 (hF _ _ _ h0.2.2.2.2.2.2.2.2.2.2.2.2.2.2.2.2.2.2.2.2.2.2.1) ?_
          refine q_getI C dX6_prepare_66 (n := 69) rfl f_X6_103 h0.2.2.2.2.2.2.2.2.2.2.2.2.2.2.2.2.2.2.2.2.2.2.2.1.1 (v := M3 (a + 9) 3) rfl ?_
          refine q_iconst C dX6_prepare_69 (n := 70) rfl ?_
          refine q_icmp_ne C 77 dX6_prepare_70 (n := 73) rfl rfl (by omega) (fun h24 => ?_) (fun h24 => ?_)
          · refine q_iconst C dX6_prepare_77 (n := 78) rfl ?_
            exact q_iret C dX6_prepare_78 ⟨rfl, rfl⟩ (by rw [hPo]; exact ⟨3, M3, J4, rfl, rfl, hI5, hK9, by omega⟩)
          · refine q_iconst C dX6_prepare_73 (n := 74) rfl ?_
            refine q_goto C 78 dX6_prepare_74 rfl ?_
            exact q_iret C dX6_prepare_78 ⟨rfl, rfl⟩ (by rw [hPo]; exact ⟨0, M3, J4, rfl, rfl, hI5, hK9, by omega⟩)
    · refine q_iconst C dX6_prepare_40 (n := 41) rfl ?_
      exact q_iret C dX6_prepare_41 ⟨rfl, rfl⟩ (by rw [hPo]; exact ⟨0, M3, J4, rfl, rfl, hI5, hK9, by omega⟩)
  refine q_icmp_ne C 31 dX6_prepare_2 (n := 5) rfl rfl (by omega) (fun h25 => ?_) (fun h25 => ?_)
  · exact zK.weak (J_1) (zwk_c (zwk_n (zwk_c (zwk_c zwk_e))))
  · refine q_aload_n C dX6_prepare_5 (n := 6) rfl rfl ?_
    refine q_iconst C dX6_prepare_6 (n := 7) rfl ?_
    refine q_callVp C dX6_prepare_7 (n := 10) rfl m_X6_188 v_yX6_topHas h0.1 ⟨by decide, rfl⟩ (c_X6_topHas (w := w) (J := J) hI hF h0 2 (by omega) (by omega)) (Nat.le_of_ble_eq_true rfl) rfl rfl (Nat.le_of_ble_eq_true rfl) ⟨Nat.le_refl _, Nat.le_refl _⟩ (fun x28 h29 => ?_)
    obtain ⟨h26, h27⟩ := h29
    refine q_if_eq C 31 dX6_prepare_10 (n := 13) rfl rfl (by omega) (fun h30 => ?_) (fun h30 => ?_)
    · exact zK.weak (J_1) (zwk_c (zwk_n (zwk_c (zwk_c zwk_e))))
    · refine q_aload_n C dX6_prepare_13 (n := 14) rfl rfl ?_
      refine q_getR C dX6_prepare_14 (n := 17) rfl f_X6_59 h0.1 (hF _ _ _ h0.2.2.2.2.2.2.2.2.2.2.2.2.2.2.2.2.2.2.2.2.2.2.2.2.2.2.2.2.2.2.2.2.2.2.2.2.2.2.2.2.1) ?_
      refine q_aload_n C dX6_prepare_17 (n := 18) rfl rfl ?_
      have g31 := zI.at hI h0.2.2.2.2.2.2.2.2.2.2.2.2.2.2.2.2.2.2.2.2.2.2.2.2.2.2.2.2.2.2.2.2.2.2.2.2.2.2.2.2.2.2.2.1
      refine q_getI C dX6_prepare_18 (n := 21) rfl f_X6_62 h0.1 (v := M a 18) rfl ?_
      refine q_iconst C dX6_prepare_21 (n := 22) rfl ?_
      refine q_isub C dX6_prepare_22 (n := 23) rfl (v := (M a 18) - 1) rfl ?_
      refine q_dup2 C dX6_prepare_23 (n := 24) rfl ⟨rfl, rfl⟩ ?_
      have g32 := zI.at hI (h0.2.2.2.2.2.2.2.2.2.2.2.2.2.2.2.2.2.2.2.2.2.2.2.2.2.2.2.2.2.2.2.2.2.2.2.2.2.2.2.2.2.2.1 ((M a 18) - 1))
      refine q_iald C dX6_prepare_24 (n := 25) rfl h0.2.2.2.2.2.2.2.2.2.2.2.2.2.2.2.2.2.2.2.2.2.2.2.2.2.2.2.2.2.2.2.2.2.2.2.2.2.2.2.2.2.1 (by omega) (v := M (a + 21) ((M a 18) - 1)) rfl ?_
      refine q_bipush C dX6_prepare_25 (n := 27) rfl (x := (-2)) (by decide) ?_
      refine q_iand C dX6_prepare_27 (n := 28) rfl (v := zand (M (a + 21) ((M a 18) - 1)) (-2)) rfl ?_
      have g33 := zr_and (M (a + 21) ((M a 18) - 1)) (-2)
      refine q_iast C dX6_prepare_28 (n := 29) rfl h0.2.2.2.2.2.2.2.2.2.2.2.2.2.2.2.2.2.2.2.2.2.2.2.2.2.2.2.2.2.2.2.2.2.2.2.2.2.2.2.2.2.1 (by omega)  (fun M34 e35 => ?_)
      have hI36 : zI G M34 := hI.put e35 (h0.2.2.2.2.2.2.2.2.2.2.2.2.2.2.2.2.2.2.2.2.2.2.2.2.2.2.2.2.2.2.2.2.2.2.2.2.2.2.2.2.2.2.1 ((M a 18) - 1)) rfl (by omega)
      have hK37 := hK0.put e35 (h0.2.2.2.2.2.2.2.2.2.2.2.2.2.2.2.2.2.2.2.2.2.2.2.2.2.2.2.2.2.2.2.2.2.2.2.2.2.2.2.2.2.2.1 ((M a 18) - 1)) (by decide)
      refine q_iconst C dX6_prepare_29 (n := 30) rfl ?_
      exact q_iret C dX6_prepare_30 ⟨rfl, rfl⟩ (by rw [hPo]; exact ⟨0, M34, J, rfl, rfl, hI36, hK37, by omega⟩)
theorem c_X6_finishLine {w : zWp} {T : zTl} {M : zMm} {J : zJm} {R : zRm'} {G : zGt} {F : zRm'} {a L : Nat} (hI : zI G M) (hF : zF F R) (h0 : zRunner T F G a L) (p1 : 0 ≤ M a 15) (p2 : M (a + 18) (M a 15) ≤ 39) (p3 : zLn M a) : zCt w 1 0 0 yX6_finishLine cX6_finishLine 2 none [.ref (w.2.1 + a)] (T, M, J, R) (zPv T R G (fun M2 => (zKp G 15 M M2) ∧ (zLn M2 a) ∧ (M2 a 15 = M a 15))) := by
  refine zCt.of rfl (Nat.le_of_ble_eq_true rfl) ?_
  intro p e s m args below meth c C
  obtain ⟨Po, hPo⟩ : ∃ Po, Po = zPv T R G (fun M2 => (zKp G 15 M M2) ∧ (zLn M2 a) ∧ (M2 a 15 = M a 15)) := ⟨_, rfl⟩
  rw [← hPo]
  have hK0 : zKp G 15 M M := zKp.rf
  show zK w p e 1 0 0 s m args below meth c 2 T Po 0 [.ref (w.2.1 + a), .null] [] (T, M, J, R)
  refine q_aload_n C dX6_finishLine_0 (n := 1) rfl rfl ?_
  refine q_getR C dX6_finishLine_1 (n := 4) rfl f_X6_43 h0.1 (hF _ _ _ h0.2.2.2.2.2.2.2.2.2.2.2.2.2.2.2.2.2.2.2.2.2.2.2.2.2.2.2.1) ?_
  refine q_aload_n C dX6_finishLine_4 (n := 5) rfl rfl ?_
  have g1 := zI.at hI h0.2.2.2.2.2.2.2.2.2.2.2.2.2.2.2.2.2.2.2.2.2.2.2.2.2.2.2.2.2.2.2.2.2.2.2.2.1
  refine q_getI C dX6_finishLine_5 (n := 8) rfl f_X6_52 h0.1 (v := M a 15) rfl ?_
  have g2 := zI.at hI (h0.2.2.2.2.2.2.2.2.2.2.2.2.2.2.2.2.2.2.2.2.2.2.2.2.2.2.2.2.2.1 (M a 15))
  refine q_iald C dX6_finishLine_8 (n := 9) rfl h0.2.2.2.2.2.2.2.2.2.2.2.2.2.2.2.2.2.2.2.2.2.2.2.2.2.2.2.2.1 (by omega) (v := M (a + 17) (M a 15)) rfl ?_
  refine q_bipush C dX6_finishLine_9 (n := 11) rfl (x := 40) (by decide) ?_
  refine q_imul C dX6_finishLine_11 (n := 12) rfl (v := (M (a + 17) (M a 15)) * 40) rfl ?_
  refine q_aload_n C dX6_finishLine_12 (n := 13) rfl rfl ?_
  refine q_getR C dX6_finishLine_13 (n := 16) rfl f_X6_46 h0.1 (hF _ _ _ h0.2.2.2.2.2.2.2.2.2.2.2.2.2.2.2.2.2.2.2.2.2.2.2.2.2.2.2.2.2.2.1) ?_
  refine q_aload_n C dX6_finishLine_16 (n := 17) rfl rfl ?_
  refine q_getI C dX6_finishLine_17 (n := 20) rfl f_X6_52 h0.1 (v := M a 15) rfl ?_
  have g3 := zI.at hI (h0.2.2.2.2.2.2.2.2.2.2.2.2.2.2.2.2.2.2.2.2.2.2.2.2.2.2.2.2.2.2.2.2.1 (M a 15))
  refine q_iald C dX6_finishLine_20 (n := 21) rfl h0.2.2.2.2.2.2.2.2.2.2.2.2.2.2.2.2.2.2.2.2.2.2.2.2.2.2.2.2.2.2.2.1 (by omega) (v := M (a + 18) (M a 15)) rfl ?_
  refine q_iadd C dX6_finishLine_21 (n := 22) rfl (v := ((M (a + 17) (M a 15)) * 40) + (M (a + 18) (M a 15))) rfl ?_
  refine q_istore_n C [.ref (w.2.1 + a), zi (((M (a + 17) (M a 15)) * 40) + (M (a + 18) (M a 15)))] dX6_finishLine_22 (n := 23) rfl rfl rfl ?_
  refine q_iload_n C dX6_finishLine_23 (n := 24) rfl rfl ?_
  have J_10 : ∀ (M5 : zMm) (J6 : zJm), zI G M5 → zKp G 15 M M5 → zKp G 14 M M5 → zK w p e 1 0 0 s m args below meth c 2 T Po 44 [.ref (w.2.1 + a), .null] [] (T, M5, J6, R) := by
    intro M5 J6 hI7 hK8 hK9
    refine q_aload_n C dX6_finishLine_44 (n := 45) rfl rfl ?_
    refine q_getR C dX6_finishLine_45 (n := 48) rfl f_X6_46 h0.1 (hF _ _ _ h0.2.2.2.2.2.2.2.2.2.2.2.2.2.2.2.2.2.2.2.2.2.2.2.2.2.2.2.2.2.2.1) ?_
    refine q_aload_n C dX6_finishLine_48 (n := 49) rfl rfl ?_
    refine q_getI C dX6_finishLine_49 (n := 52) rfl f_X6_52 h0.1 (v := M a 15) (hK9 _ _ (zle_t h0.2.2.2.2.2.2.2.2.2.2.2.2.2.2.2.2.2.2.2.2.2.2.2.2.2.2.2.2.2.2.2.2.2.2.2.2.1 (by decide))) ?_
    refine q_dup2 C dX6_finishLine_52 (n := 53) rfl ⟨rfl, rfl⟩ ?_
    refine q_iald C dX6_finishLine_53 (n := 54) rfl h0.2.2.2.2.2.2.2.2.2.2.2.2.2.2.2.2.2.2.2.2.2.2.2.2.2.2.2.2.2.2.2.1 (by omega) (v := M (a + 18) (M a 15)) (hK9 _ _ (zle_t (h0.2.2.2.2.2.2.2.2.2.2.2.2.2.2.2.2.2.2.2.2.2.2.2.2.2.2.2.2.2.2.2.2.1 (M a 15)) (by decide))) ?_
    refine q_iconst C dX6_finishLine_54 (n := 55) rfl ?_
    refine q_iadd C dX6_finishLine_55 (n := 56) rfl (v := (M (a + 18) (M a 15)) + 1) rfl ?_
    refine q_iast C dX6_finishLine_56 (n := 57) rfl h0.2.2.2.2.2.2.2.2.2.2.2.2.2.2.2.2.2.2.2.2.2.2.2.2.2.2.2.2.2.2.2.1 (by omega)  (fun M11 e12 => ?_)
    have hI13 : zI G M11 := hI7.put e12 (h0.2.2.2.2.2.2.2.2.2.2.2.2.2.2.2.2.2.2.2.2.2.2.2.2.2.2.2.2.2.2.2.2.1 (M a 15)) rfl (by omega)
    have hK14 := hK8.put e12 (h0.2.2.2.2.2.2.2.2.2.2.2.2.2.2.2.2.2.2.2.2.2.2.2.2.2.2.2.2.2.2.2.2.1 (M a 15)) (by decide)
    exact q_vret C dX6_finishLine_57 ⟨rfl, rfl⟩ (by rw [hPo]; exact ⟨M11, J6, rfl, rfl, hI13, hK14, (p3.pop (by have hz : M11 a 15 = M a 15 := ((zup_p e12 (by omega) _).trans (hK9 _ _ (zle_t h0.2.2.2.2.2.2.2.2.2.2.2.2.2.2.2.2.2.2.2.2.2.2.2.2.2.2.2.2.2.2.2.2.2.2.2.2.1 (by decide)))); omega) (fun j q => by have hz : M11 a 15 = M a 15 := ((zup_p e12 (by omega) _).trans (hK9 _ _ (zle_t h0.2.2.2.2.2.2.2.2.2.2.2.2.2.2.2.2.2.2.2.2.2.2.2.2.2.2.2.2.2.2.2.2.2.2.2.2.1 (by decide)))); exact ((zup_n e12 (by omega)).trans (hK9 _ _ (zle_t (h0.2.2.2.2.2.2.2.2.2.2.2.2.2.2.2.2.2.2.2.2.2.2.2.2.2.2.2.2.2.2.2.2.1 j) (by decide)))))), ((zup_p e12 (by omega) _).trans (hK9 _ _ (zle_t h0.2.2.2.2.2.2.2.2.2.2.2.2.2.2.2.2.2.2.2.2.2.2.2.2.2.2.2.2.2.2.2.2.2.2.2.2.1 (by decide))))⟩)
  refine q_if_lt C 44 dX6_finishLine_24 (n := 27) rfl rfl (by omega) (fun h15 => ?_) (fun h15 => ?_)
  · exact zK.weak (J_10 M J hI hK0 (zKp.rf (G := G) (n := 14) (M := M))) (zwk_c (zwk_n zwk_e))
  · refine q_iload_n C dX6_finishLine_27 (n := 28) rfl rfl ?_
    refine q_sipush C dX6_finishLine_28 (n := 31) rfl (x := 160) (by decide) ?_
    refine q_icmp_ge C 44 dX6_finishLine_31 (n := 34) rfl rfl (by omega) (fun h16 => ?_) (fun h16 => ?_)
    · exact zK.weak (J_10 M J hI hK0 (zKp.rf (G := G) (n := 14) (M := M))) (zwk_c (zwk_n zwk_e))
    · refine q_aload_n C dX6_finishLine_34 (n := 35) rfl rfl ?_
      refine q_getR C dX6_finishLine_35 (n := 38) rfl f_X6_31 h0.1 (hF _ _ _ h0.2.2.2.2.2.2.2.2.2.2.2.2.1) ?_
      refine q_iload_n C dX6_finishLine_38 (n := 39) rfl rfl ?_
      refine q_dup2 C dX6_finishLine_39 (n := 40) rfl ⟨rfl, rfl⟩ ?_
      have g17 := zI.at hI (h0.2.2.2.2.2.2.2.2.2.2.2.2.2.2.1 (((M (a + 17) (M a 15)) * 40) + (M (a + 18) (M a 15))))
      refine q_iald C dX6_finishLine_40 (n := 41) rfl h0.2.2.2.2.2.2.2.2.2.2.2.2.2.1 (by omega) (v := M (a + 7) (((M (a + 17) (M a 15)) * 40) + (M (a + 18) (M a 15)))) rfl ?_
      refine q_iconst C dX6_finishLine_41 (n := 42) rfl ?_
      refine q_iadd C dX6_finishLine_42 (n := 43) rfl (v := (M (a + 7) (((M (a + 17) (M a 15)) * 40) + (M (a + 18) (M a 15)))) + 1) rfl ?_
      refine q_wrap C ?_
      have g18 := zr_wr ((M (a + 7) (((M (a + 17) (M a 15)) * 40) + (M (a + 18) (M a 15)))) + 1)
      refine q_iast C dX6_finishLine_43 (n := 44) rfl h0.2.2.2.2.2.2.2.2.2.2.2.2.2.1 (by omega)  (fun M19 e20 => ?_)
      have hI21 : zI G M19 := hI.put e20 (h0.2.2.2.2.2.2.2.2.2.2.2.2.2.2.1 (((M (a + 17) (M a 15)) * 40) + (M (a + 18) (M a 15)))) rfl (by omega)
      have hK22 := hK0.put e20 (h0.2.2.2.2.2.2.2.2.2.2.2.2.2.2.1 (((M (a + 17) (M a 15)) * 40) + (M (a + 18) (M a 15)))) (by decide)
      have hK23 := (zKp.rf (G := G) (n := 14) (M := M)).put e20 (h0.2.2.2.2.2.2.2.2.2.2.2.2.2.2.1 (((M (a + 17) (M a 15)) * 40) + (M (a + 18) (M a 15)))) (by decide)
      exact zK.weak (J_10 M19 J hI21 hK22 hK23) (zwk_c (zwk_n zwk_e))
theorem c_X6_leaveFile {w : zWp} {T : zTl} {M : zMm} {J : zJm} {R : zRm'} {G : zGt} {F : zRm'} {a L : Nat} (hI : zI G M) (hF : zF F R) (h0 : zRunner T F G a L) (p1 : 0 ≤ M a 15) (p2 : zLn M a) : zCt w 2 0 0 yX6_leaveFile cX6_leaveFile 1 none [.ref (w.2.1 + a)] (T, M, J, R) (zPv T R G (fun M2 => (zKp G 15 M M2) ∧ (zLn M2 a))) := by
  refine zCt.of rfl (Nat.le_of_ble_eq_true rfl) ?_
  intro p e s m args below meth c C
  obtain ⟨Po, hPo⟩ : ∃ Po, Po = zPv T R G (fun M2 => (zKp G 15 M M2) ∧ (zLn M2 a)) := ⟨_, rfl⟩
  rw [← hPo]
  have hK0 : zKp G 15 M M := zKp.rf
  show zK w p e 2 0 0 s m args below meth c 1 T Po 0 [.ref (w.2.1 + a)] [] (T, M, J, R)
  refine q_aload_n C dX6_leaveFile_0 (n := 1) rfl rfl ?_
  have g1 := zI.at hI h0.2.2.2.2.2.2.2.2.2.2.2.2.2.2.2.2.2.2.2.2.2.2.2.2.2.2.2.2.2.2.2.2.2.2.2.2.2.2.2.2.2.2.2.1
  refine q_getI C dX6_leaveFile_1 (n := 4) rfl f_X6_62 h0.1 (v := M a 18) rfl ?_
  refine q_aload_n C dX6_leaveFile_4 (n := 5) rfl rfl ?_
  refine q_getR C dX6_leaveFile_5 (n := 8) rfl f_X6_49 h0.1 (hF _ _ _ h0.2.2.2.2.2.2.2.2.2.2.2.2.2.2.2.2.2.2.2.2.2.2.2.2.2.2.2.2.2.2.2.2.2.1) ?_
  refine q_aload_n C dX6_leaveFile_8 (n := 9) rfl rfl ?_
  have g2 := zI.at hI h0.2.2.2.2.2.2.2.2.2.2.2.2.2.2.2.2.2.2.2.2.2.2.2.2.2.2.2.2.2.2.2.2.2.2.2.2.1
  refine q_getI C dX6_leaveFile_9 (n := 12) rfl f_X6_52 h0.1 (v := M a 15) rfl ?_
  have g3 := zI.at hI (h0.2.2.2.2.2.2.2.2.2.2.2.2.2.2.2.2.2.2.2.2.2.2.2.2.2.2.2.2.2.2.2.2.2.2.2.1 (M a 15))
  refine q_iald C dX6_leaveFile_12 (n := 13) rfl h0.2.2.2.2.2.2.2.2.2.2.2.2.2.2.2.2.2.2.2.2.2.2.2.2.2.2.2.2.2.2.2.2.2.2.1 (by omega) (v := M (a + 19) (M a 15)) rfl ?_
  refine q_icmp_le C 37 dX6_leaveFile_13 (n := 16) rfl rfl (by omega) (fun h4 => ?_) (fun h4 => ?_)
  · refine q_aload_n C dX6_leaveFile_37 (n := 38) rfl rfl ?_
    refine q_dup C dX6_leaveFile_38 (n := 39) rfl rfl ?_
    refine q_getI C dX6_leaveFile_39 (n := 42) rfl f_X6_52 h0.1 (v := M a 15) rfl ?_
    refine q_iconst C dX6_leaveFile_42 (n := 43) rfl ?_
    refine q_isub C dX6_leaveFile_43 (n := 44) rfl (v := (M a 15) - 1) rfl ?_
    refine q_putI C dX6_leaveFile_44 (n := 47) rfl f_X6_52 h0.1 ⟨rfl, rfl⟩ (fun M5 (e6 : M5 = zup M a 15 ((M a 15) - 1)) => ?_)
    have hI7 : zI G M5 := hI.put e6 h0.2.2.2.2.2.2.2.2.2.2.2.2.2.2.2.2.2.2.2.2.2.2.2.2.2.2.2.2.2.2.2.2.2.2.2.2.1 rfl (by omega)
    have hK8 := hK0.put e6 h0.2.2.2.2.2.2.2.2.2.2.2.2.2.2.2.2.2.2.2.2.2.2.2.2.2.2.2.2.2.2.2.2.2.2.2.2.1 (by decide)
    refine q_aload_n C dX6_leaveFile_47 (n := 48) rfl rfl ?_
    refine q_getI C dX6_leaveFile_48 (n := 51) rfl f_X6_52 h0.1 (v := (M a 15) - 1) (zup_s e6) ?_
    refine q_if_lt C 58 dX6_leaveFile_51 (n := 54) rfl rfl (by omega) (fun h9 => ?_) (fun h9 => ?_)
    · exact q_vret C dX6_leaveFile_58 ⟨rfl, rfl⟩ (by rw [hPo]; exact ⟨M5, J, rfl, rfl, hI7, hK8, (p2.pop (by have hz : M5 a 15 = (M a 15) - 1 := (zup_s e6); omega) (fun j q => (zup_p e6 (by omega) _)))⟩)
    · refine q_aload_n C dX6_leaveFile_54 (n := 55) rfl rfl ?_
      refine q_callVv C dX6_leaveFile_55 (n := 58) rfl m_X6_216 v_yX6_finishLine h0.1 ⟨by decide, rfl⟩ (c_X6_finishLine (w := w) (J := J) hI7 hF h0 (by have hz : M5 a 15 = (M a 15) - 1 := (zup_s e6); omega) (by have hz : M5 a 15 = (M a 15) - 1 := (zup_s e6); rw [hz]; have h2 : ∀ j, M5 (a + 18) j = M (a + 18) j := (fun j => (zup_p e6 (by omega) _)); rw [h2]; exact p2 _ (by omega) (by omega)) (p2.pop (by have hz : M5 a 15 = (M a 15) - 1 := (zup_s e6); omega) (fun j q => (zup_p e6 (by omega) _)))) (Nat.le_of_ble_eq_true rfl) rfl rfl (Nat.le_of_ble_eq_true rfl) ⟨Nat.le_refl _, Nat.le_refl _⟩ (fun M12 J13  hI14 h15 => ?_)
      obtain ⟨hk16, h10, h11⟩ := h15
      have hK17 := hK8.tr hk16 (by decide)
      have hz18 : M5 a 15 = (M a 15) - 1 := (zup_s e6)
      exact q_vret C dX6_leaveFile_58 ⟨rfl, rfl⟩ (by rw [hPo]; exact ⟨M12, J13, rfl, rfl, hI14, hK17, h10⟩)
  · refine q_aload_n C dX6_leaveFile_16 (n := 17) rfl rfl ?_
    refine q_getR C dX6_leaveFile_17 (n := 20) rfl f_X6_12 h0.1 (hF _ _ _ h0.2.2.2.1) ?_
    refine q_bipush C dX6_leaveFile_20 (n := 22) rfl (x := 10) (by decide) ?_
    refine q_aload_n C dX6_leaveFile_22 (n := 23) rfl rfl ?_
    refine q_getR C dX6_leaveFile_23 (n := 26) rfl f_X6_56 h0.1 (hF _ _ _ h0.2.2.2.2.2.2.2.2.2.2.2.2.2.2.2.2.2.2.2.2.2.2.2.2.2.2.2.2.2.2.2.2.2.2.2.2.2.1) ?_
    refine q_aload_n C dX6_leaveFile_26 (n := 27) rfl rfl ?_
    refine q_getI C dX6_leaveFile_27 (n := 30) rfl f_X6_62 h0.1 (v := M a 18) rfl ?_
    refine q_iconst C dX6_leaveFile_30 (n := 31) rfl ?_
    refine q_isub C dX6_leaveFile_31 (n := 32) rfl (v := (M a 18) - 1) rfl ?_
    have g19 := zI.at hI (h0.2.2.2.2.2.2.2.2.2.2.2.2.2.2.2.2.2.2.2.2.2.2.2.2.2.2.2.2.2.2.2.2.2.2.2.2.2.2.2.1 ((M a 18) - 1))
    refine q_iald C dX6_leaveFile_32 (n := 33) rfl h0.2.2.2.2.2.2.2.2.2.2.2.2.2.2.2.2.2.2.2.2.2.2.2.2.2.2.2.2.2.2.2.2.2.2.2.2.2.2.1 (by omega) (v := M (a + 20) ((M a 18) - 1)) rfl ?_
    refine q_callVv C dX6_leaveFile_33 (n := 36) rfl m_X6_180 v_yX1_meet h0.2.2.2.2.1.1 ⟨by decide, rfl⟩ (c_X1_meet (w := w) (J := J) hI hF h0.2.2.2.2.1 10 (M (a + 20) ((M a 18) - 1)) (by omega) (by omega)) (Nat.le_of_ble_eq_true rfl) rfl rfl (Nat.le_of_ble_eq_true rfl) ⟨Nat.le_refl _, Nat.le_refl _⟩ (fun M20 J21  hI22 h23 => ?_)
    have hK25 := hK0.tr h23 (by decide)
    exact q_vret C dX6_leaveFile_36 ⟨rfl, rfl⟩ (by rw [hPo]; exact ⟨M20, J21, rfl, rfl, hI22, hK25, (p2.pop (by have hz : M20 a 15 = M a 15 := (h23 _ _ (zle_t h0.2.2.2.2.2.2.2.2.2.2.2.2.2.2.2.2.2.2.2.2.2.2.2.2.2.2.2.2.2.2.2.2.2.2.2.2.1 (by decide))); omega) (fun j q => (h23 _ _ (zle_t (h0.2.2.2.2.2.2.2.2.2.2.2.2.2.2.2.2.2.2.2.2.2.2.2.2.2.2.2.2.2.2.2.2.1 j) (by decide)))))⟩)
theorem c_X6_enterFile {w : zWp} {T : zTl} {M : zMm} {J : zJm} {R : zRm'} {G : zGt} {F : zRm'} {a L : Nat} (hI : zI G M) (hF : zF F R) (h0 : zRunner T F G a L) (v1 : Int) (p1 : 0 ≤ v1 ∧ v1 ≤ 3) (p2 : 0 ≤ M a 15) (p3 : zLn M a) (p4 : M (a + 18) (M a 15) ≤ 39) : zCt w 1 0 0 yX6_enterFile cX6_enterFile 2 none [.ref (w.2.1 + a), zi v1] (T, M, J, R) (zPv T R G (fun M2 => (zKp G 15 M M2) ∧ (zLn M2 a))) := by
  refine zCt.of rfl (Nat.le_of_ble_eq_true rfl) ?_
  intro p e s m args below meth c C
  obtain ⟨Po, hPo⟩ : ∃ Po, Po = zPv T R G (fun M2 => (zKp G 15 M M2) ∧ (zLn M2 a)) := ⟨_, rfl⟩
  rw [← hPo]
  have hK0 : zKp G 15 M M := zKp.rf
  show zK w p e 1 0 0 s m args below meth c 2 T Po 0 [.ref (w.2.1 + a), zi v1] [] (T, M, J, R)
  refine q_aload_n C dX6_enterFile_0 (n := 1) rfl rfl ?_
  have g1 := zI.at hI h0.2.2.2.2.2.2.2.2.2.2.2.2.2.2.2.2.2.2.2.2.2.2.2.2.2.2.2.2.2.2.2.2.2.2.2.2.1
  refine q_getI C dX6_enterFile_1 (n := 4) rfl f_X6_52 h0.1 (v := M a 15) rfl ?_
  refine q_iconst C dX6_enterFile_4 (n := 5) rfl ?_
  refine q_iadd C dX6_enterFile_5 (n := 6) rfl (v := (M a 15) + 1) rfl ?_
  refine q_bipush C dX6_enterFile_6 (n := 8) rfl (x := 7) (by decide) ?_
  refine q_icmp_lt C 12 dX6_enterFile_8 (n := 11) rfl rfl (by omega) (fun h2 => ?_) (fun h2 => ?_)
  · refine q_aload_n C dX6_enterFile_12 (n := 13) rfl rfl ?_
    refine q_dup C dX6_enterFile_13 (n := 14) rfl rfl ?_
    refine q_getI C dX6_enterFile_14 (n := 17) rfl f_X6_52 h0.1 (v := M a 15) rfl ?_
    refine q_iconst C dX6_enterFile_17 (n := 18) rfl ?_
    refine q_iadd C dX6_enterFile_18 (n := 19) rfl (v := (M a 15) + 1) rfl ?_
    refine q_putI C dX6_enterFile_19 (n := 22) rfl f_X6_52 h0.1 ⟨rfl, rfl⟩ (fun M3 (e4 : M3 = zup M a 15 ((M a 15) + 1)) => ?_)
    have hI5 : zI G M3 := hI.put e4 h0.2.2.2.2.2.2.2.2.2.2.2.2.2.2.2.2.2.2.2.2.2.2.2.2.2.2.2.2.2.2.2.2.2.2.2.2.1 rfl (by omega)
    have hK6 := hK0.put e4 h0.2.2.2.2.2.2.2.2.2.2.2.2.2.2.2.2.2.2.2.2.2.2.2.2.2.2.2.2.2.2.2.2.2.2.2.2.1 (by decide)
    refine q_aload_n C dX6_enterFile_22 (n := 23) rfl rfl ?_
    refine q_getR C dX6_enterFile_23 (n := 26) rfl f_X6_43 h0.1 (hF _ _ _ h0.2.2.2.2.2.2.2.2.2.2.2.2.2.2.2.2.2.2.2.2.2.2.2.2.2.2.2.1) ?_
    refine q_aload_n C dX6_enterFile_26 (n := 27) rfl rfl ?_
    refine q_getI C dX6_enterFile_27 (n := 30) rfl f_X6_52 h0.1 (v := (M a 15) + 1) (zup_s e4) ?_
    refine q_iload_n C dX6_enterFile_30 (n := 31) rfl rfl ?_
    refine q_iast C dX6_enterFile_31 (n := 32) rfl h0.2.2.2.2.2.2.2.2.2.2.2.2.2.2.2.2.2.2.2.2.2.2.2.2.2.2.2.2.1 (by omega)  (fun M7 e8 => ?_)
    have hI9 : zI G M7 := hI5.put e8 (h0.2.2.2.2.2.2.2.2.2.2.2.2.2.2.2.2.2.2.2.2.2.2.2.2.2.2.2.2.2.1 ((M a 15) + 1)) rfl (by omega)
    have hK10 := hK6.put e8 (h0.2.2.2.2.2.2.2.2.2.2.2.2.2.2.2.2.2.2.2.2.2.2.2.2.2.2.2.2.2.1 ((M a 15) + 1)) (by decide)
    refine q_aload_n C dX6_enterFile_32 (n := 33) rfl rfl ?_
    refine q_getR C dX6_enterFile_33 (n := 36) rfl f_X6_46 h0.1 (hF _ _ _ h0.2.2.2.2.2.2.2.2.2.2.2.2.2.2.2.2.2.2.2.2.2.2.2.2.2.2.2.2.2.2.1) ?_
    refine q_aload_n C dX6_enterFile_36 (n := 37) rfl rfl ?_
    refine q_getI C dX6_enterFile_37 (n := 40) rfl f_X6_52 h0.1 (v := (M a 15) + 1) ((zup_p e8 (by omega) _).trans (zup_s e4)) ?_
    refine q_iconst C dX6_enterFile_40 (n := 41) rfl ?_
    refine q_iast C dX6_enterFile_41 (n := 42) rfl h0.2.2.2.2.2.2.2.2.2.2.2.2.2.2.2.2.2.2.2.2.2.2.2.2.2.2.2.2.2.2.2.1 (by omega)  (fun M11 e12 => ?_)
    have hI13 : zI G M11 := hI9.put e12 (h0.2.2.2.2.2.2.2.2.2.2.2.2.2.2.2.2.2.2.2.2.2.2.2.2.2.2.2.2.2.2.2.2.1 ((M a 15) + 1)) rfl (by omega)
    have hK14 := hK10.put e12 (h0.2.2.2.2.2.2.2.2.2.2.2.2.2.2.2.2.2.2.2.2.2.2.2.2.2.2.2.2.2.2.2.2.1 ((M a 15) + 1)) (by decide)
    refine q_aload_n C dX6_enterFile_42 (n := 43) rfl rfl ?_
    refine q_getR C dX6_enterFile_43 (n := 46) rfl f_X6_49 h0.1 (hF _ _ _ h0.2.2.2.2.2.2.2.2.2.2.2.2.2.2.2.2.2.2.2.2.2.2.2.2.2.2.2.2.2.2.2.2.2.1) ?_
    refine q_aload_n C dX6_enterFile_46 (n := 47) rfl rfl ?_
    refine q_getI C dX6_enterFile_47 (n := 50) rfl f_X6_52 h0.1 (v := (M a 15) + 1) ((zup_p e12 (by omega) _).trans ((zup_p e8 (by omega) _).trans (zup_s e4))) ?_
    refine q_aload_n C dX6_enterFile_50 (n := 51) rfl rfl ?_
    have g15 := zI.at hI h0.2.2.2.2.2.2.2.2.2.2.2.2.2.2.2.2.2.2.2.2.2.2.2.2.2.2.2.2.2.2.2.2.2.2.2.2.2.2.2.2.2.2.2.1
    refine q_getI C dX6_enterFile_51 (n := 54) rfl f_X6_62 h0.1 (v := M a 18) ((zup_p e12 (by omega) _).trans ((zup_p e8 (by omega) _).trans (zup_n e4 (by omega)))) ?_
    refine q_iast C dX6_enterFile_54 (n := 55) rfl h0.2.2.2.2.2.2.2.2.2.2.2.2.2.2.2.2.2.2.2.2.2.2.2.2.2.2.2.2.2.2.2.2.2.2.1 (by omega)  (fun M16 e17 => ?_)
    have hI18 : zI G M16 := hI13.put e17 (h0.2.2.2.2.2.2.2.2.2.2.2.2.2.2.2.2.2.2.2.2.2.2.2.2.2.2.2.2.2.2.2.2.2.2.2.1 ((M a 15) + 1)) rfl (by omega)
    have hK19 := hK14.put e17 (h0.2.2.2.2.2.2.2.2.2.2.2.2.2.2.2.2.2.2.2.2.2.2.2.2.2.2.2.2.2.2.2.2.2.2.2.1 ((M a 15) + 1)) (by decide)
    refine q_aload_n C dX6_enterFile_55 (n := 56) rfl rfl ?_
    refine q_getR C dX6_enterFile_56 (n := 59) rfl f_X6_27 h0.1 (hF _ _ _ h0.2.2.2.2.2.2.2.2.2.1) ?_
    refine q_iconst C dX6_enterFile_59 (n := 60) rfl ?_
    refine q_dup2 C dX6_enterFile_60 (n := 61) rfl ⟨rfl, rfl⟩ ?_
    have g20 := zI.at hI (h0.2.2.2.2.2.2.2.2.2.2.2.1 3)
    refine q_iald C dX6_enterFile_61 (n := 62) rfl h0.2.2.2.2.2.2.2.2.2.2.1 (by omega) (v := M (a + 6) 3) ((zup_p e17 (by omega) _).trans ((zup_p e12 (by omega) _).trans ((zup_p e8 (by omega) _).trans (zup_p e4 (by omega) _)))) ?_
    refine q_iconst C dX6_enterFile_62 (n := 63) rfl ?_
    refine q_iadd C dX6_enterFile_63 (n := 64) rfl (v := (M (a + 6) 3) + 1) rfl ?_
    refine q_wrap C ?_
    have g21 := zr_wr ((M (a + 6) 3) + 1)
    refine q_iast C dX6_enterFile_64 (n := 65) rfl h0.2.2.2.2.2.2.2.2.2.2.1 (by omega)  (fun M22 e23 => ?_)
    have hI24 : zI G M22 := hI18.put e23 (h0.2.2.2.2.2.2.2.2.2.2.2.1 3) rfl (by omega)
    have hK25 := hK19.put e23 (h0.2.2.2.2.2.2.2.2.2.2.2.1 3) (by decide)
    refine q_aload_n C dX6_enterFile_65 (n := 66) rfl rfl ?_
    refine q_getR C dX6_enterFile_66 (n := 69) rfl f_X6_27 h0.1 (hF _ _ _ h0.2.2.2.2.2.2.2.2.2.1) ?_
    refine q_iconst C dX6_enterFile_69 (n := 70) rfl ?_
    refine q_aload_n C dX6_enterFile_70 (n := 71) rfl rfl ?_
    refine q_getR C dX6_enterFile_71 (n := 74) rfl f_X6_27 h0.1 (hF _ _ _ h0.2.2.2.2.2.2.2.2.2.1) ?_
    refine q_iconst C dX6_enterFile_74 (n := 75) rfl ?_
    have g26 := zI.at hI (h0.2.2.2.2.2.2.2.2.2.2.2.1 5)
    refine q_iald C dX6_enterFile_75 (n := 76) rfl h0.2.2.2.2.2.2.2.2.2.2.1 (by omega) (v := M (a + 6) 5) ((zup_n e23 (by omega)).trans ((zup_p e17 (by omega) _).trans ((zup_p e12 (by omega) _).trans ((zup_p e8 (by omega) _).trans (zup_p e4 (by omega) _))))) ?_
    refine q_aload_n C dX6_enterFile_76 (n := 77) rfl rfl ?_
    refine q_getI C dX6_enterFile_77 (n := 80) rfl f_X6_52 h0.1 (v := (M a 15) + 1) ((zup_p e23 (by omega) _).trans ((zup_p e17 (by omega) _).trans ((zup_p e12 (by omega) _).trans ((zup_p e8 (by omega) _).trans (zup_s e4))))) ?_
    refine q_mmax C dX6_enterFile_80 (n := 83) rfl x_X6_257 (by omega) (Nat.le_of_ble_eq_true rfl) (Nat.le_of_ble_eq_true rfl) ⟨Nat.le_refl _, Nat.le_refl _⟩ (fun x27 h28 h29 h30 => ?_)
    refine q_iast C dX6_enterFile_83 (n := 84) rfl h0.2.2.2.2.2.2.2.2.2.2.1 (by omega)  (fun M31 e32 => ?_)
    have hI33 : zI G M31 := hI24.put e32 (h0.2.2.2.2.2.2.2.2.2.2.2.1 5) rfl (by omega)
    have hK34 := hK25.put e32 (h0.2.2.2.2.2.2.2.2.2.2.2.1 5) (by decide)
    exact q_vret C dX6_enterFile_84 ⟨rfl, rfl⟩ (by rw [hPo]; exact ⟨M31, J, rfl, rfl, hI33, hK34, (p3.push (by have hz : M31 a 15 = (M a 15) + 1 := ((zup_p e32 (by omega) _).trans ((zup_p e23 (by omega) _).trans ((zup_p e17 (by omega) _).trans ((zup_p e12 (by omega) _).trans ((zup_p e8 (by omega) _).trans (zup_s e4)))))); omega) (fun j q => ((zup_p e32 (by omega) _).trans ((zup_p e23 (by omega) _).trans ((zup_p e17 (by omega) _).trans ((zup_n e12 (by omega)).trans ((zup_p e8 (by omega) _).trans (zup_p e4 (by omega) _))))))) p4)⟩)
  · exact q_vret C dX6_enterFile_11 ⟨rfl, rfl⟩ (by rw [hPo]; exact ⟨M, J, rfl, rfl, hI, hK0, p3⟩)
theorem c_X6_include {w : zWp} {T : zTl} {M : zMm} {J : zJm} {R : zRm'} {G : zGt} {F : zRm'} {a L pg pf : Nat} (hI : zI G M) (hF : zF F R) (h0 : zRunner T F G a L) (hpg : R a 11 = some pg) (t_pg : T[pg]? = some (54, 4)) (e_pg : ∀ j : Int, 0 ≤ j → j < 4 → F pg j = some (pf + 4 * j.toNat) ∧ zPage T F G (pf + 4 * j.toNat)) (p1 : L ≤ 1000000) (p2 : 0 ≤ M a 15) (p3 : zLn M a) (p4 : M (a + 18) (M a 15) ≤ 39) : zCt w 4 0 0 yX6_include cX6_include 4 (some .int) [.ref (w.2.1 + a)] (T, M, J, R) (zPi T R G (fun x M2 => (zKp G 15 M M2) ∧ (x = 4 ∧ zLn M2 a ∨ x = 0 ∧ zSm M M2 a))) := by
  refine zCt.of rfl (Nat.le_of_ble_eq_true rfl) ?_
  intro p e s m args below meth c C
  obtain ⟨Po, hPo⟩ : ∃ Po, Po = zPi T R G (fun x M2 => (zKp G 15 M M2) ∧ (x = 4 ∧ zLn M2 a ∨ x = 0 ∧ zSm M M2 a)) := ⟨_, rfl⟩
  rw [← hPo]
  have hK0 : zKp G 15 M M := zKp.rf
  show zK w p e 4 0 0 s m args below meth c 4 T Po 0 [.ref (w.2.1 + a), .null, .null, .null] [] (T, M, J, R)
  refine q_aload_n C dX6_include_0 (n := 1) rfl rfl ?_
  refine q_getR C dX6_include_1 (n := 4) rfl f_X6_37 h0.1 (hF _ _ _ h0.2.2.2.2.2.2.2.2.2.2.2.2.2.2.2.2.2.2.2.2.2.2.1) ?_
  have g1 := zI.at hI h0.2.2.2.2.2.2.2.2.2.2.2.2.2.2.2.2.2.2.2.2.2.2.2.1.2.2.2.2.2.2.2.2.2.2
  refine q_getI C dX6_include_4 (n := 7) rfl f_X6_103 h0.2.2.2.2.2.2.2.2.2.2.2.2.2.2.2.2.2.2.2.2.2.2.2.1.1 (v := M (a + 9) 3) rfl ?_
  refine q_iconst C dX6_include_7 (n := 8) rfl ?_
  have J_2 : zK w p e 4 0 0 s m args below meth c 4 T Po 28 [.ref (w.2.1 + a), .null, .null, .null] [] (T, M, J, R) := by
    refine q_aload_n C dX6_include_28 (n := 29) rfl rfl ?_
    refine q_iconst C dX6_include_29 (n := 30) rfl ?_
    refine q_iconst C dX6_include_30 (n := 31) rfl ?_
    refine q_callVv C dX6_include_31 (n := 34) rfl m_X6_331 v_yX6_refuse h0.1 ⟨by decide, rfl⟩ (c_X6_refuse (w := w) (J := J) hI hF h0 2 2 (by omega) (by omega)) (Nat.le_of_ble_eq_true rfl) rfl rfl (Nat.le_of_ble_eq_true rfl) ⟨Nat.le_refl _, Nat.le_refl _⟩ (fun M3 J4  hI5 h6 => ?_)
    have hK8 := hK0.tr h6 (by decide)
    refine q_iconst C dX6_include_34 (n := 35) rfl ?_
    exact q_iret C dX6_include_35 ⟨rfl, rfl⟩ (by rw [hPo]; exact ⟨0, M3, J4, rfl, rfl, hI5, hK8, (Or.inr ⟨rfl, ⟨(h6 _ _ (zle_t h0.2.2.2.2.2.2.2.2.2.2.2.2.2.2.2.2.2.2.2.2.2.2.2.2.2.2.2.2.2.2.2.2.2.2.2.2.1 (by decide))), (fun j => (h6 _ _ (zle_t (h0.2.2.2.2.2.2.2.2.2.2.2.2.2.2.2.2.2.2.2.2.2.2.2.2.2.2.2.2.2.2.2.2.1 j) (by decide)))), (fun j => (h6 _ _ (zle_t (h0.2.2.2.2.2.2.2.2.2.2.2.2.2.2.2.2.2.2.2.2.2.2.2.2.2.2.2.2.2.1 j) (by decide))))⟩⟩)⟩)
  refine q_icmp_lt C 28 dX6_include_8 (n := 11) rfl rfl (by omega) (fun h9 => ?_) (fun h9 => ?_)
  · exact zK.weak (J_2) (zwk_c (zwk_n (zwk_n (zwk_n zwk_e))))
  · refine q_aload_n C dX6_include_11 (n := 12) rfl rfl ?_
    refine q_getR C dX6_include_12 (n := 15) rfl f_X6_37 h0.1 (hF _ _ _ h0.2.2.2.2.2.2.2.2.2.2.2.2.2.2.2.2.2.2.2.2.2.2.1) ?_
    refine q_getR C dX6_include_15 (n := 18) rfl f_X6_265 h0.2.2.2.2.2.2.2.2.2.2.2.2.2.2.2.2.2.2.2.2.2.2.2.1.1 (hF _ _ _ h0.2.2.2.2.2.2.2.2.2.2.2.2.2.2.2.2.2.2.2.2.2.2.2.1.2.2.2.2.1) ?_
    refine q_iconst C dX6_include_18 (n := 19) rfl ?_
    have g10 := zI.at hI (h0.2.2.2.2.2.2.2.2.2.2.2.2.2.2.2.2.2.2.2.2.2.2.2.1.2.2.2.2.2.2.1 2)
    refine q_iald C dX6_include_19 (n := 20) rfl h0.2.2.2.2.2.2.2.2.2.2.2.2.2.2.2.2.2.2.2.2.2.2.2.1.2.2.2.2.2.1 (by omega) (v := M (a + 9 + 2) 2) rfl ?_
    refine q_bipush C dX6_include_20 (n := 22) rfl (x := 127) (by decide) ?_
    refine q_iand C dX6_include_22 (n := 23) rfl (v := zand (M (a + 9 + 2) 2) 127) rfl ?_
    have g11 := zand_r (x := M (a + 9 + 2) 2) (k := 127) (by omega)
    refine q_bipush C dX6_include_23 (n := 25) rfl (x := 33) (by decide) ?_
    refine q_icmp_eq C 36 dX6_include_25 (n := 28) rfl rfl (by omega) (fun h12 => ?_) (fun h12 => ?_)
    · refine q_aload_n C dX6_include_36 (n := 37) rfl rfl ?_
      refine q_getR C dX6_include_37 (n := 40) rfl f_X6_71 h0.1 (hF _ _ _ h0.2.1) ?_
      refine q_aload_n C dX6_include_40 (n := 41) rfl rfl ?_
      refine q_getR C dX6_include_41 (n := 44) rfl f_X6_37 h0.1 (hF _ _ _ h0.2.2.2.2.2.2.2.2.2.2.2.2.2.2.2.2.2.2.2.2.2.2.1) ?_
      refine q_getR C dX6_include_44 (n := 47) rfl f_X6_262 h0.2.2.2.2.2.2.2.2.2.2.2.2.2.2.2.2.2.2.2.2.2.2.2.1.1 (hF _ _ _ h0.2.2.2.2.2.2.2.2.2.2.2.2.2.2.2.2.2.2.2.2.2.2.2.1.2.1) ?_
      refine q_iconst C dX6_include_47 (n := 48) rfl ?_
      have g13 := zI.at hI (h0.2.2.2.2.2.2.2.2.2.2.2.2.2.2.2.2.2.2.2.2.2.2.2.1.2.2.2.1 2)
      have g14 : M (a + 9 + 1) 2 + zand (M (a + 9 + 2) 2) 31 ≤ (L : Int) ∧ zand (M (a + 9 + 2) 2) 31 ≤ 30 := zI.row hI (h0.2.2.2.2.2.2.2.2.2.2.2.2.2.2.2.2.2.2.2.2.2.2.2.1.2.2.2.1 2)
      refine q_iald C dX6_include_48 (n := 49) rfl h0.2.2.2.2.2.2.2.2.2.2.2.2.2.2.2.2.2.2.2.2.2.2.2.1.2.2.1 (by omega) (v := M (a + 9 + 1) 2) rfl ?_
      refine q_callVp C dX6_include_49 (n := 52) rfl m_X6_235 v_yX10_byteAt h0.2.2.1.1 ⟨by decide, rfl⟩ (c_X10_byteAt (w := w) (J := J) hI hF h0.2.2.1 (M (a + 9 + 1) 2) (by omega) (by omega)) (Nat.le_of_ble_eq_true rfl) rfl rfl (Nat.le_of_ble_eq_true rfl) ⟨Nat.le_refl _, Nat.le_refl _⟩ (fun x16 h17 => ?_)
      refine q_bipush C dX6_include_52 (n := 54) rfl (x := 48) (by decide) ?_
      refine q_isub C dX6_include_54 (n := 55) rfl (v := x16 - 48) rfl ?_
      refine q_istore_n C [.ref (w.2.1 + a), zi (x16 - 48), .null, .null] dX6_include_55 (n := 56) rfl rfl rfl ?_
      refine q_iload_n C dX6_include_56 (n := 57) rfl rfl ?_
      have J_22 : ∀ (u18 : Int), (-2147483648 ≤ u18 ∧ u18 ≤ 2147483647) → (u18 = 0 ∨ u18 = 1) → (u18 = 0 ∨ 0 ≤ (x16 - 48) ∧ (x16 - 48) ≤ 3) → zK w p e 4 0 0 s m args below meth c 4 T Po 82 [.ref (w.2.1 + a), zi (x16 - 48), .null, .null] [zi u18] (T, M, J, R) := by
        intro u18 h19 h20 h21
        refine q_istore_n C [.ref (w.2.1 + a), zi (x16 - 48), zi u18, .null] dX6_include_82 (n := 83) rfl rfl rfl ?_
        refine q_iload_n C dX6_include_83 (n := 84) rfl rfl ?_
        have J_26 : ∀ (u23 : Int), (-2147483648 ≤ u23 ∧ u23 ≤ 2147483647) → (u23 = 0 ∨ u23 = 1) → zK w p e 4 0 0 s m args below meth c 4 T Po 139 [.ref (w.2.1 + a), zi (x16 - 48), zi u18, .null] [zi u23] (T, M, J, R) := by
          intro u23 h24 h25
          refine q_istore_n C [.ref (w.2.1 + a), zi (x16 - 48), zi u18, zi u23] dX6_include_139 (n := 140) rfl rfl rfl ?_
          refine q_iload_n C dX6_include_140 (n := 141) rfl rfl ?_
          have J_27 : zK w p e 4 0 0 s m args below meth c 4 T Po 168 [.ref (w.2.1 + a), .null, .null, .null] [] (T, M, J, R) := by
            refine q_aload_n C dX6_include_168 (n := 169) rfl rfl ?_
            refine q_bipush C dX6_include_169 (n := 171) rfl (x := 11) (by decide) ?_
            refine q_iconst C dX6_include_171 (n := 172) rfl ?_
            refine q_callVv C dX6_include_172 (n := 175) rfl m_X6_331 v_yX6_refuse h0.1 ⟨by decide, rfl⟩ (c_X6_refuse (w := w) (J := J) hI hF h0 11 2 (by omega) (by omega)) (Nat.le_of_ble_eq_true rfl) rfl rfl (Nat.le_of_ble_eq_true rfl) ⟨Nat.le_refl _, Nat.le_refl _⟩ (fun M28 J29  hI30 h31 => ?_)
            have hK33 := hK0.tr h31 (by decide)
            refine q_goto C 222 dX6_include_175 rfl ?_
            refine q_iconst C dX6_include_222 (n := 223) rfl ?_
            exact q_iret C dX6_include_223 ⟨rfl, rfl⟩ (by rw [hPo]; exact ⟨0, M28, J29, rfl, rfl, hI30, hK33, (Or.inr ⟨rfl, ⟨(h31 _ _ (zle_t h0.2.2.2.2.2.2.2.2.2.2.2.2.2.2.2.2.2.2.2.2.2.2.2.2.2.2.2.2.2.2.2.2.2.2.2.2.1 (by decide))), (fun j => (h31 _ _ (zle_t (h0.2.2.2.2.2.2.2.2.2.2.2.2.2.2.2.2.2.2.2.2.2.2.2.2.2.2.2.2.2.2.2.2.1 j) (by decide)))), (fun j => (h31 _ _ (zle_t (h0.2.2.2.2.2.2.2.2.2.2.2.2.2.2.2.2.2.2.2.2.2.2.2.2.2.2.2.2.2.1 j) (by decide))))⟩⟩)⟩)
          refine q_if_eq C 168 dX6_include_141 (n := 144) rfl rfl (by omega) (fun h34 => ?_) (fun h34 => ?_)
          · exact zK.weak (J_27) (zwk_c (zwk_n (zwk_n (zwk_n zwk_e))))
          · refine q_iload_n C dX6_include_144 (n := 145) rfl rfl ?_
            have J_36 : (0 ≤ (x16 - 48) ∧ (x16 - 48) ≤ 3) → zK w p e 4 0 0 s m args below meth c 4 T Po 178 [.ref (w.2.1 + a), zi (x16 - 48), .null, zi u23] [] (T, M, J, R) := by
              intro h35
              refine q_aload_n C dX6_include_178 (n := 179) rfl rfl ?_
              refine q_getR C dX6_include_179 (n := 182) rfl f_X6_37 h0.1 (hF _ _ _ h0.2.2.2.2.2.2.2.2.2.2.2.2.2.2.2.2.2.2.2.2.2.2.1) ?_
              refine q_getI C dX6_include_182 (n := 185) rfl f_X6_103 h0.2.2.2.2.2.2.2.2.2.2.2.2.2.2.2.2.2.2.2.2.2.2.2.1.1 (v := M (a + 9) 3) rfl ?_
              refine q_iconst C dX6_include_185 (n := 186) rfl ?_
              refine q_icmp_le C 198 dX6_include_186 (n := 189) rfl rfl (by omega) (fun h37 => ?_) (fun h37 => ?_)
              · refine q_iload_n C dX6_include_198 (n := 199) rfl rfl ?_
                refine q_if_eq C 215 dX6_include_199 (n := 202) rfl rfl (by omega) (fun h38 => ?_) (fun h38 => ?_)
                · refine q_aload_n C dX6_include_215 (n := 216) rfl rfl ?_
                  refine q_iload_n C dX6_include_216 (n := 217) rfl rfl ?_
                  refine q_callVv C dX6_include_217 (n := 220) rfl m_X6_354 v_yX6_enterFile h0.1 ⟨by decide, rfl⟩ (c_X6_enterFile (w := w) (J := J) hI hF h0 (x16 - 48) (by omega) (by have hz : M a 15 = M a 15 := rfl; omega) (p3.cg rfl (fun j => rfl)) (by have hz : M a 15 = M a 15 := rfl; rw [hz]; have h2 : ∀ j, M (a + 18) j = M (a + 18) j := (fun j => rfl); rw [h2]; exact p4)) (Nat.le_of_ble_eq_true rfl) rfl rfl (Nat.le_of_ble_eq_true rfl) ⟨Nat.le_refl _, Nat.le_refl _⟩ (fun M40 J41  hI42 h43 => ?_)
                  obtain ⟨hk44, h39⟩ := h43
                  have hK45 := hK0.tr hk44 (by decide)
                  refine q_iconst C dX6_include_220 (n := 221) rfl ?_
                  exact q_iret C dX6_include_221 ⟨rfl, rfl⟩ (by rw [hPo]; exact ⟨4, M40, J41, rfl, rfl, hI42, hK45, (Or.inl ⟨rfl, h39⟩)⟩)
                · refine q_aload_n C dX6_include_202 (n := 203) rfl rfl ?_
                  refine q_getR C dX6_include_203 (n := 206) rfl f_X6_27 h0.1 (hF _ _ _ h0.2.2.2.2.2.2.2.2.2.1) ?_
                  refine q_iconst C dX6_include_206 (n := 207) rfl ?_
                  refine q_dup2 C dX6_include_207 (n := 208) rfl ⟨rfl, rfl⟩ ?_
                  have g46 := zI.at hI (h0.2.2.2.2.2.2.2.2.2.2.2.1 4)
                  refine q_iald C dX6_include_208 (n := 209) rfl h0.2.2.2.2.2.2.2.2.2.2.1 (by omega) (v := M (a + 6) 4) rfl ?_
                  refine q_iconst C dX6_include_209 (n := 210) rfl ?_
                  refine q_iadd C dX6_include_210 (n := 211) rfl (v := (M (a + 6) 4) + 1) rfl ?_
                  refine q_wrap C ?_
                  have g47 := zr_wr ((M (a + 6) 4) + 1)
                  refine q_iast C dX6_include_211 (n := 212) rfl h0.2.2.2.2.2.2.2.2.2.2.1 (by omega)  (fun M48 e49 => ?_)
                  have hI50 : zI G M48 := hI.put e49 (h0.2.2.2.2.2.2.2.2.2.2.2.1 4) rfl (by omega)
                  have hK51 := hK0.put e49 (h0.2.2.2.2.2.2.2.2.2.2.2.1 4) (by decide)
                  refine q_goto C 222 dX6_include_212 rfl ?_
                  refine q_iconst C dX6_include_222 (n := 223) rfl ?_
                  exact q_iret C dX6_include_223 ⟨rfl, rfl⟩ (by rw [hPo]; exact ⟨0, M48, J, rfl, rfl, hI50, hK51, (Or.inr ⟨rfl, ⟨(zup_p e49 (by omega) _), (fun j => (zup_p e49 (by omega) _)), (fun j => (zup_p e49 (by omega) _))⟩⟩)⟩)
              · refine q_aload_n C dX6_include_189 (n := 190) rfl rfl ?_
                refine q_iconst C dX6_include_190 (n := 191) rfl ?_
                refine q_iconst C dX6_include_191 (n := 192) rfl ?_
                refine q_callVv C dX6_include_192 (n := 195) rfl m_X6_331 v_yX6_refuse h0.1 ⟨by decide, rfl⟩ (c_X6_refuse (w := w) (J := J) hI hF h0 2 3 (by omega) (by omega)) (Nat.le_of_ble_eq_true rfl) rfl rfl (Nat.le_of_ble_eq_true rfl) ⟨Nat.le_refl _, Nat.le_refl _⟩ (fun M52 J53  hI54 h55 => ?_)
                have hK57 := hK0.tr h55 (by decide)
                refine q_goto C 222 dX6_include_195 rfl ?_
                refine q_iconst C dX6_include_222 (n := 223) rfl ?_
                exact q_iret C dX6_include_223 ⟨rfl, rfl⟩ (by rw [hPo]; exact ⟨0, M52, J53, rfl, rfl, hI54, hK57, (Or.inr ⟨rfl, ⟨(h55 _ _ (zle_t h0.2.2.2.2.2.2.2.2.2.2.2.2.2.2.2.2.2.2.2.2.2.2.2.2.2.2.2.2.2.2.2.2.2.2.2.2.1 (by decide))), (fun j => (h55 _ _ (zle_t (h0.2.2.2.2.2.2.2.2.2.2.2.2.2.2.2.2.2.2.2.2.2.2.2.2.2.2.2.2.2.2.2.2.1 j) (by decide)))), (fun j => (h55 _ _ (zle_t (h0.2.2.2.2.2.2.2.2.2.2.2.2.2.2.2.2.2.2.2.2.2.2.2.2.2.2.2.2.2.1 j) (by decide))))⟩⟩)⟩)
            refine q_if_ne C 178 dX6_include_145 (n := 148) rfl rfl (by omega) (fun h58 => ?_) (fun h58 => ?_)
            · exact zK.weak (J_36 (by omega)) (zwk_c (zwk_c (zwk_n (zwk_c zwk_e))))
            · refine q_aload_n C dX6_include_148 (n := 149) rfl rfl ?_
              have g59 := zI.at hI h0.2.2.2.2.2.2.2.2.2.2.2.2.2.2.2.2.2.2.2.2.2.2.2.2.2.2.2.2.2.2.2.2.2.2.2.2.1
              refine q_getI C dX6_include_149 (n := 152) rfl f_X6_52 h0.1 (v := M a 15) rfl ?_
              refine q_bipush C dX6_include_152 (n := 154) rfl (x := 6) (by decide) ?_
              refine q_icmp_ge C 168 dX6_include_154 (n := 157) rfl rfl (by omega) (fun h60 => ?_) (fun h60 => ?_)
              · exact zK.weak (J_27) (zwk_c (zwk_n (zwk_n (zwk_n zwk_e))))
              · refine q_aload_n C dX6_include_157 (n := 158) rfl rfl ?_
                refine q_getR C dX6_include_158 (n := 161) rfl f_X6_27 h0.1 (hF _ _ _ h0.2.2.2.2.2.2.2.2.2.1) ?_
                refine q_iconst C dX6_include_161 (n := 162) rfl ?_
                have g61 := zI.at hI (h0.2.2.2.2.2.2.2.2.2.2.2.1 3)
                refine q_iald C dX6_include_162 (n := 163) rfl h0.2.2.2.2.2.2.2.2.2.2.1 (by omega) (v := M (a + 6) 3) rfl ?_
                refine q_bipush C dX6_include_163 (n := 165) rfl (x := 12) (by decide) ?_
                refine q_icmp_lt C 178 dX6_include_165 (n := 168) rfl rfl (by omega) (fun h62 => ?_) (fun h62 => ?_)
                · exact zK.weak (J_36 (by omega)) (zwk_c (zwk_c (zwk_n (zwk_c zwk_e))))
                · exact zK.weak (J_27) (zwk_c (zwk_n (zwk_n (zwk_n zwk_e))))
        have J_63 : zK w p e 4 0 0 s m args below meth c 4 T Po 138 [.ref (w.2.1 + a), zi (x16 - 48), zi u18, .null] [] (T, M, J, R) := by
          refine q_iconst C dX6_include_138 (n := 139) rfl ?_
          exact zK.weak (J_26 0 (by omega) (by omega)) (zwk_c (zwk_c (zwk_c (zwk_n zwk_e))))
        refine q_if_eq C 138 dX6_include_84 (n := 87) rfl rfl (by omega) (fun h64 => ?_) (fun h64 => ?_)
        · exact zK.weak (J_63) (zwk_c (zwk_c (zwk_c (zwk_n zwk_e))))
        · refine q_aload_n C dX6_include_87 (n := 88) rfl rfl ?_
          refine q_getR C dX6_include_88 (n := 91) rfl f_X6_121 h0.1 hpg ?_
          refine q_iload_n C dX6_include_91 (n := 92) rfl rfl ?_
          refine q_aald C dX6_include_92 (n := 93) rfl ⟨by decide, by decide⟩ t_pg (by omega) (hF _ _ _ (e_pg (x16 - 48) (by omega) (by omega)).1) ?_
          have g65 := zI.at hI (e_pg (x16 - 48) (by omega) (by omega)).2.2.2.2.2.2.2.2.2.2.2.2.2.2
          refine q_getI C dX6_include_93 (n := 96) rfl f_X6_348 (e_pg (x16 - 48) (by omega) (by omega)).2.1 (v := M (pf + 4 * (x16 - 48 : Int).toNat) 6) rfl ?_
          refine q_if_le C 138 dX6_include_96 (n := 99) rfl rfl (by omega) (fun h66 => ?_) (fun h66 => ?_)
          · exact zK.weak (J_63) (zwk_c (zwk_c (zwk_c (zwk_n zwk_e))))
          · refine q_aload_n C dX6_include_99 (n := 100) rfl rfl ?_
            refine q_getR C dX6_include_100 (n := 103) rfl f_X6_80 h0.1 (hF _ _ _ h0.2.2.2.2.2.1) ?_
            refine q_iload_n C dX6_include_103 (n := 104) rfl rfl ?_
            refine q_sipush C dX6_include_104 (n := 107) rfl (x := 401) (by decide) ?_
            refine q_imul C dX6_include_107 (n := 108) rfl (v := (x16 - 48) * 401) rfl ?_
            refine q_aload_n C dX6_include_108 (n := 109) rfl rfl ?_
            refine q_getR C dX6_include_109 (n := 112) rfl f_X6_121 h0.1 hpg ?_
            refine q_iload_n C dX6_include_112 (n := 113) rfl rfl ?_
            refine q_aald C dX6_include_113 (n := 114) rfl ⟨by decide, by decide⟩ t_pg (by omega) (hF _ _ _ (e_pg (x16 - 48) (by omega) (by omega)).1) ?_
            have g67 := zI.at hI (e_pg (x16 - 48) (by omega) (by omega)).2.2.2.2.2.2.2.2.2.2.2.2.2.1
            refine q_getI C dX6_include_114 (n := 117) rfl f_X6_351 (e_pg (x16 - 48) (by omega) (by omega)).2.1 (v := M (pf + 4 * (x16 - 48 : Int).toNat) 5) rfl ?_
            refine q_iadd C dX6_include_117 (n := 118) rfl (v := ((x16 - 48) * 401) + (M (pf + 4 * (x16 - 48 : Int).toNat) 5)) rfl ?_
            refine q_aload_n C dX6_include_118 (n := 119) rfl rfl ?_
            refine q_getR C dX6_include_119 (n := 122) rfl f_X6_121 h0.1 hpg ?_
            refine q_iload_n C dX6_include_122 (n := 123) rfl rfl ?_
            refine q_aald C dX6_include_123 (n := 124) rfl ⟨by decide, by decide⟩ t_pg (by omega) (hF _ _ _ (e_pg (x16 - 48) (by omega) (by omega)).1) ?_
            refine q_getI C dX6_include_124 (n := 127) rfl f_X6_348 (e_pg (x16 - 48) (by omega) (by omega)).2.1 (v := M (pf + 4 * (x16 - 48 : Int).toNat) 6) rfl ?_
            refine q_callVp C dX6_include_127 (n := 130) rfl m_X6_337 v_yX3_standing h0.2.2.2.2.2.2.1.1 ⟨by decide, rfl⟩ (c_X3_standing (w := w) (J := J) hI hF h0.2.2.2.2.2.2.1 (((x16 - 48) * 401) + (M (pf + 4 * (x16 - 48 : Int).toNat) 5)) (M (pf + 4 * (x16 - 48 : Int).toNat) 6) (by omega) (by omega) (by omega)) (Nat.le_of_ble_eq_true rfl) rfl rfl (Nat.le_of_ble_eq_true rfl) ⟨Nat.le_refl _, Nat.le_refl _⟩ (fun x69 h70 => ?_)
            refine q_iconst C dX6_include_130 (n := 131) rfl ?_
            refine q_icmp_eq C 138 dX6_include_131 (n := 134) rfl rfl (by omega) (fun h71 => ?_) (fun h71 => ?_)
            · exact zK.weak (J_63) (zwk_c (zwk_c (zwk_c (zwk_n zwk_e))))
            · refine q_iconst C dX6_include_134 (n := 135) rfl ?_
              refine q_goto C 139 dX6_include_135 rfl ?_
              exact zK.weak (J_26 1 (by omega) (by omega)) (zwk_c (zwk_c (zwk_c (zwk_n zwk_e))))
      have J_72 : zK w p e 4 0 0 s m args below meth c 4 T Po 81 [.ref (w.2.1 + a), zi (x16 - 48), .null, .null] [] (T, M, J, R) := by
        refine q_iconst C dX6_include_81 (n := 82) rfl ?_
        exact zK.weak (J_22 0 (by omega) (by omega) (by omega)) (zwk_c (zwk_c (zwk_n (zwk_n zwk_e))))
      refine q_if_lt C 81 dX6_include_57 (n := 60) rfl rfl (by omega) (fun h73 => ?_) (fun h73 => ?_)
      · exact zK.weak (J_72) (zwk_c (zwk_c (zwk_n (zwk_n zwk_e))))
      · refine q_iload_n C dX6_include_60 (n := 61) rfl rfl ?_
        refine q_iconst C dX6_include_61 (n := 62) rfl ?_
        refine q_icmp_ge C 81 dX6_include_62 (n := 65) rfl rfl (by omega) (fun h74 => ?_) (fun h74 => ?_)
        · exact zK.weak (J_72) (zwk_c (zwk_c (zwk_n (zwk_n zwk_e))))
        · refine q_aload_n C dX6_include_65 (n := 66) rfl rfl ?_
          refine q_getR C dX6_include_66 (n := 69) rfl f_X6_121 h0.1 hpg ?_
          refine q_iload_n C dX6_include_69 (n := 70) rfl rfl ?_
          refine q_aald C dX6_include_70 (n := 71) rfl ⟨by decide, by decide⟩ t_pg (by omega) (hF _ _ _ (e_pg (x16 - 48) (by omega) (by omega)).1) ?_
          have g75 := zI.at hI (e_pg (x16 - 48) (by omega) (by omega)).2.2.2.2.2.2.2.2.2.2.2.2.1
          refine q_getI C dX6_include_71 (n := 74) rfl f_X6_344 (e_pg (x16 - 48) (by omega) (by omega)).2.1 (v := M (pf + 4 * (x16 - 48 : Int).toNat) 4) rfl ?_
          refine q_if_eq C 81 dX6_include_74 (n := 77) rfl rfl (by omega) (fun h76 => ?_) (fun h76 => ?_)
          · exact zK.weak (J_72) (zwk_c (zwk_c (zwk_n (zwk_n zwk_e))))
          · refine q_iconst C dX6_include_77 (n := 78) rfl ?_
            refine q_goto C 82 dX6_include_78 rfl ?_
            exact zK.weak (J_22 1 (by omega) (by omega) (by omega)) (zwk_c (zwk_c (zwk_n (zwk_n zwk_e))))
    · exact zK.weak (J_2) (zwk_c (zwk_n (zwk_n (zwk_n zwk_e))))
