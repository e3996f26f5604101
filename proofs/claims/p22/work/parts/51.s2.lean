theorem c_X12_code {w : zWp} {T : zTl} {M : zMm} {J : zJm} {R : zRm'} {G : zGt} {F : zRm'} {a : Nat} (hI : zI G M) (hF : zF F R) (h0 : zModel T F G a) (v1 : Int) (v2 : Int64) (v3 : Int) (p1 : -2147483648 ≤ v1 ∧ v1 ≤ 2147483647) (p2 : M a 74 ≤ 10999) (p3 : 0 ≤ v3 ∧ v3 ≤ 3499) : zCt w 1 0 0 yX12_code cX12_code 5 none [.ref (w.2.1 + a), zi v1, .long v2, zi v3] (T, M, J, R) (zPv T R G (fun M2 => (zMd a [43, 45] [74] [] M M2) ∧ (M2 = (zup (zup (zup M (a + 43) (M a 74) v1) (a + 45) (M a 74) v3) a 74 (M a 74 + 1))))) := by
  refine zCt.of rfl (Nat.le_of_ble_eq_true rfl) ?_
  intro p e s m args below meth c C
  obtain ⟨Po, hPo⟩ : ∃ Po, Po = zPv T R G (fun M2 => (zMd a [43, 45] [74] [] M M2) ∧ (M2 = (zup (zup (zup M (a + 43) (M a 74) v1) (a + 45) (M a 74) v3) a 74 (M a 74 + 1)))) := ⟨_, rfl⟩
  rw [← hPo]
  have hK0 : zMd a [43, 45] [74] [] M M := zMd.rf
  have gk_codes := zI.at hI (zM173 h0)
  show zK w p e 1 0 0 s m args below meth c 5 T Po 0 [.ref (w.2.1 + a), zi v1, .long v2, .null, zi v3] [] (T, M, J, R)
  refine q_aload_n C dX12_code_0 (n := 1) rfl rfl ?_
  refine q_getR C dX12_code_1 (n := 4) rfl f_X12_144 (zM0 h0) (hF _ _ _ (zM151 h0)) ?_
  refine q_aload_n C dX12_code_4 (n := 5) rfl rfl ?_
  have g1 := zI.at hI (zM173 h0)
  refine q_getI C dX12_code_5 (n := 8) rfl f_X12_556 (zM0 h0) (v := M a 74) rfl ?_
  refine q_iload_n C dX12_code_8 (n := 9) rfl rfl ?_
  refine q_iast C dX12_code_9 (n := 10) rfl (zM152 h0) (by omega)  (fun M2 e3 => ?_)
  have hI4 : zI G M2 := hI.put e3 ((zM153 h0) (M a 74)) rfl (by omega)
  have hK5 := hK0.upA e3 rfl
  refine q_aload_n C dX12_code_10 (n := 11) rfl rfl ?_
  refine q_getR C dX12_code_11 (n := 14) rfl f_X12_162 (zM0 h0) (hF _ _ _ (zM169 h0)) ?_
  refine q_aload_n C dX12_code_14 (n := 15) rfl rfl ?_
  refine q_getI C dX12_code_15 (n := 18) rfl f_X12_556 (zM0 h0) (v := M a 74) (zup_p e3 (by omega) _) ?_
  refine q_lload_n C dX12_code_18 (n := 19) rfl rfl ?_
  refine q_last C dX12_code_19 (n := 20) rfl (zM170 h0) (by omega) (fun J6 => ?_)
  refine q_aload_n C dX12_code_20 (n := 21) rfl rfl ?_
  refine q_getR C dX12_code_21 (n := 24) rfl f_X12_150 (zM0 h0) (hF _ _ _ (zM157 h0)) ?_
  refine q_aload_n C dX12_code_24 (n := 25) rfl rfl ?_
  refine q_getI C dX12_code_25 (n := 28) rfl f_X12_556 (zM0 h0) (v := M a 74) (zup_p e3 (by omega) _) ?_
  refine q_iload C dX12_code_28 (n := 30) rfl rfl ?_
  refine q_iast C dX12_code_30 (n := 31) rfl (zM158 h0) (by omega)  (fun M7 e8 => ?_)
  have hI9 : zI G M7 := hI4.put e8 ((zM159 h0) (M a 74)) rfl (by omega)
  have hK10 := hK5.upA e8 rfl
  refine q_aload_n C dX12_code_31 (n := 32) rfl rfl ?_
  refine q_dup C dX12_code_32 (n := 33) rfl rfl ?_
  refine q_getI C dX12_code_33 (n := 36) rfl f_X12_556 (zM0 h0) (v := M a 74) ((zup_p e8 (by omega) _).trans (zup_p e3 (by omega) _)) ?_
  refine q_iconst C dX12_code_36 (n := 37) rfl ?_
  refine q_iadd C dX12_code_37 (n := 38) rfl (v := (M a 74) + 1) rfl ?_
  refine q_putI C dX12_code_38 (n := 41) rfl f_X12_556 (zM0 h0) ⟨rfl, rfl⟩ (fun M11 (e12 : M11 = zup M7 a 74 ((M a 74) + 1)) => ?_)
  have hI13 : zI G M11 := hI9.put e12 (zM173 h0) rfl (by omega)
  have hK14 := hK10.upS e12 rfl
  exact q_vret C dX12_code_41 ⟨rfl, rfl⟩ (by rw [hPo]; exact ⟨M11, J6, rfl, rfl, hI13, hK14, by subst e12; subst e8; subst e3; rfl⟩)
theorem c_X12_waitsFor {w : zWp} {T : zTl} {M : zMm} {J : zJm} {R : zRm'} {G : zGt} {F : zRm'} {a : Nat} (hI : zI G M) (hF : zF F R) (h0 : zModel T F G a) (v1 : Int) (v2 : Int) (v3 : Int) (p1 : 0 ≤ v1 ∧ v1 ≤ 42) (p2 : -1 ≤ v2 ∧ v2 ≤ 11000) (p3 : 0 ≤ v3 ∧ v3 ≤ 3499) (p4 : M a 75 ≤ 3599) : zCt w 1 0 0 yX12_waitsFor cX12_waitsFor 4 none [.ref (w.2.1 + a), zi v1, zi v2, zi v3] (T, M, J, R) (zPv T R G (fun M2 => (zMd a [46, 47, 48] [75] [] M M2) ∧ (M2 = (zup (zup (zup (zup M (a + 46) (M a 75) v1) (a + 47) (M a 75) v2) (a + 48) (M a 75) v3) a 75 (M a 75 + 1))))) := by
  refine zCt.of rfl (Nat.le_of_ble_eq_true rfl) ?_
  intro p e s m args below meth c C
  obtain ⟨Po, hPo⟩ : ∃ Po, Po = zPv T R G (fun M2 => (zMd a [46, 47, 48] [75] [] M M2) ∧ (M2 = (zup (zup (zup (zup M (a + 46) (M a 75) v1) (a + 47) (M a 75) v2) (a + 48) (M a 75) v3) a 75 (M a 75 + 1)))) := ⟨_, rfl⟩
  rw [← hPo]
  have hK0 : zMd a [46, 47, 48] [75] [] M M := zMd.rf
  have gk_top := zI.at hI (zM174 h0)
  show zK w p e 1 0 0 s m args below meth c 4 T Po 0 [.ref (w.2.1 + a), zi v1, zi v2, zi v3] [] (T, M, J, R)
  refine q_aload_n C dX12_waitsFor_0 (n := 1) rfl rfl ?_
  refine q_getR C dX12_waitsFor_1 (n := 4) rfl f_X12_153 (zM0 h0) (hF _ _ _ (zM160 h0)) ?_
  refine q_aload_n C dX12_waitsFor_4 (n := 5) rfl rfl ?_
  have g1 := zI.at hI (zM174 h0)
  refine q_getI C dX12_waitsFor_5 (n := 8) rfl f_X12_569 (zM0 h0) (v := M a 75) rfl ?_
  refine q_iload_n C dX12_waitsFor_8 (n := 9) rfl rfl ?_
  refine q_iast C dX12_waitsFor_9 (n := 10) rfl (zM161 h0) (by omega)  (fun M2 e3 => ?_)
  have hI4 : zI G M2 := hI.put e3 ((zM162 h0) (M a 75)) rfl (by omega)
  have hK5 := hK0.upA e3 rfl
  refine q_aload_n C dX12_waitsFor_10 (n := 11) rfl rfl ?_
  refine q_getR C dX12_waitsFor_11 (n := 14) rfl f_X12_156 (zM0 h0) (hF _ _ _ (zM163 h0)) ?_
  refine q_aload_n C dX12_waitsFor_14 (n := 15) rfl rfl ?_
  refine q_getI C dX12_waitsFor_15 (n := 18) rfl f_X12_569 (zM0 h0) (v := M a 75) (zup_p e3 (by omega) _) ?_
  refine q_iload_n C dX12_waitsFor_18 (n := 19) rfl rfl ?_
  refine q_iast C dX12_waitsFor_19 (n := 20) rfl (zM164 h0) (by omega)  (fun M6 e7 => ?_)
  have hI8 : zI G M6 := hI4.put e7 ((zM165 h0) (M a 75)) rfl (by omega)
  have hK9 := hK5.upA e7 rfl
  refine q_aload_n C dX12_waitsFor_20 (n := 21) rfl rfl ?_
  refine q_getR C dX12_waitsFor_21 (n := 24) rfl f_X12_159 (zM0 h0) (hF _ _ _ (zM166 h0)) ?_
  refine q_aload_n C dX12_waitsFor_24 (n := 25) rfl rfl ?_
  refine q_getI C dX12_waitsFor_25 (n := 28) rfl f_X12_569 (zM0 h0) (v := M a 75) ((zup_p e7 (by omega) _).trans (zup_p e3 (by omega) _)) ?_
  refine q_iload_n C dX12_waitsFor_28 (n := 29) rfl rfl ?_
  refine q_iast C dX12_waitsFor_29 (n := 30) rfl (zM167 h0) (by omega)  (fun M10 e11 => ?_)
  have hI12 : zI G M10 := hI8.put e11 ((zM168 h0) (M a 75)) rfl (by omega)
  have hK13 := hK9.upA e11 rfl
  refine q_aload_n C dX12_waitsFor_30 (n := 31) rfl rfl ?_
  refine q_dup C dX12_waitsFor_31 (n := 32) rfl rfl ?_
  refine q_getI C dX12_waitsFor_32 (n := 35) rfl f_X12_569 (zM0 h0) (v := M a 75) ((zup_p e11 (by omega) _).trans ((zup_p e7 (by omega) _).trans (zup_p e3 (by omega) _))) ?_
  refine q_iconst C dX12_waitsFor_35 (n := 36) rfl ?_
  refine q_iadd C dX12_waitsFor_36 (n := 37) rfl (v := (M a 75) + 1) rfl ?_
  refine q_putI C dX12_waitsFor_37 (n := 40) rfl f_X12_569 (zM0 h0) ⟨rfl, rfl⟩ (fun M14 (e15 : M14 = zup M10 a 75 ((M a 75) + 1)) => ?_)
  have hI16 : zI G M14 := hI12.put e15 (zM174 h0) rfl (by omega)
  have hK17 := hK13.upS e15 rfl
  exact q_vret C dX12_waitsFor_40 ⟨rfl, rfl⟩ (by rw [hPo]; exact ⟨M14, J, rfl, rfl, hI16, hK17, by subst e15; subst e11; subst e7; subst e3; rfl⟩)
theorem c_X12_isAhead {w : zWp} {T : zTl} {M : zMm} {J : zJm} {R : zRm'} {G : zGt} {F : zRm'}  (hI : zI G M) (hF : zF F R) (v1 : Int) (p1 : -2147483648 ≤ v1 ∧ v1 ≤ 2147483647) : zCt w 1 0 0 yX12_isAhead cX12_isAhead 1 (some .boolean) [zi v1] (T, M, J, R) (zPp T M J R (fun x => (x = 0 ∨ x = 1) ∧ (x = 0 ∨ 20 ≤ v1 ∧ v1 < 24) ∧ (x = 1 ∨ v1 < 20 ∨ 24 ≤ v1))) := by
  refine zCt.of rfl (Nat.le_of_ble_eq_true rfl) ?_
  intro p e s m args below meth c C
  obtain ⟨Po, hPo⟩ : ∃ Po, Po = zPp T M J R (fun x => (x = 0 ∨ x = 1) ∧ (x = 0 ∨ 20 ≤ v1 ∧ v1 < 24) ∧ (x = 1 ∨ v1 < 20 ∨ 24 ≤ v1)) := ⟨_, rfl⟩
  rw [← hPo]
  show zK w p e 1 0 0 s m args below meth c 1 T Po 0 [zi v1] [] (T, M, J, R)
  refine q_iload_n C dX12_isAhead_0 (n := 1) rfl rfl ?_
  refine q_bipush C dX12_isAhead_1 (n := 3) rfl (x := 20) (by decide) ?_
  refine q_icmp_lt C 16 dX12_isAhead_3 (n := 6) rfl rfl (by omega) (fun h1 => ?_) (fun h1 => ?_)
  · refine q_iconst C dX12_isAhead_16 (n := 17) rfl ?_
    exact q_zret C dX12_isAhead_17 ⟨rfl, rfl⟩ (by omega) (by rw [hPo]; exact ⟨0, rfl, rfl, by omega, by omega, by omega⟩)
  · refine q_iload_n C dX12_isAhead_6 (n := 7) rfl rfl ?_
    refine q_bipush C dX12_isAhead_7 (n := 9) rfl (x := 24) (by decide) ?_
    refine q_icmp_ge C 16 dX12_isAhead_9 (n := 12) rfl rfl (by omega) (fun h2 => ?_) (fun h2 => ?_)
    · refine q_iconst C dX12_isAhead_16 (n := 17) rfl ?_
      exact q_zret C dX12_isAhead_17 ⟨rfl, rfl⟩ (by omega) (by rw [hPo]; exact ⟨0, rfl, rfl, by omega, by omega, by omega⟩)
    · refine q_iconst C dX12_isAhead_12 (n := 13) rfl ?_
      refine q_goto C 17 dX12_isAhead_13 rfl ?_
      exact q_zret C dX12_isAhead_17 ⟨rfl, rfl⟩ (by omega) (by rw [hPo]; exact ⟨1, rfl, rfl, by omega, by omega, by omega⟩)
theorem c_X12_strength {w : zWp} {T : zTl} {M : zMm} {J : zJm} {R : zRm'} {G : zGt} {F : zRm'}  (hI : zI G M) (hF : zF F R) (v1 : Int) (p1 : -2147483648 ≤ v1 ∧ v1 ≤ 2147483647) : zCt w 1 0 0 yX12_strength cX12_strength 1 (some .int) [zi v1] (T, M, J, R) (zPp T M J R (fun x => (0 ≤ x ∧ x ≤ 11 ∨ v1 < 0 ∧ -2147483648 ≤ x ∧ x ≤ 2147483647) ∧ (v1 < 40 ∨ x = 0) ∧ (40 ≤ v1 ∨ v1 < 1 ∨ 1 ≤ x))) := by
  refine zCt.of rfl (Nat.le_of_ble_eq_true rfl) ?_
  intro p e s m args below meth c C
  obtain ⟨Po, hPo⟩ : ∃ Po, Po = zPp T M J R (fun x => (0 ≤ x ∧ x ≤ 11 ∨ v1 < 0 ∧ -2147483648 ≤ x ∧ x ≤ 2147483647) ∧ (v1 < 40 ∨ x = 0) ∧ (40 ≤ v1 ∨ v1 < 1 ∨ 1 ≤ x)) := ⟨_, rfl⟩
  rw [← hPo]
  show zK w p e 1 0 0 s m args below meth c 1 T Po 0 [zi v1] [] (T, M, J, R)
  refine q_iload_n C dX12_strength_0 (n := 1) rfl rfl ?_
  refine q_bipush C dX12_strength_1 (n := 3) rfl (x := 31) (by decide) ?_
  refine q_icmp_ne C 8 dX12_strength_3 (n := 6) rfl rfl (by omega) (fun h1 => ?_) (fun h1 => ?_)
  · refine q_iload_n C dX12_strength_8 (n := 9) rfl rfl ?_
    refine q_bipush C dX12_strength_9 (n := 11) rfl (x := 30) (by decide) ?_
    refine q_icmp_ne C 16 dX12_strength_11 (n := 14) rfl rfl (by omega) (fun h2 => ?_) (fun h2 => ?_)
    · refine q_iload_n C dX12_strength_16 (n := 17) rfl rfl ?_
      refine q_bipush C dX12_strength_17 (n := 19) rfl (x := 40) (by decide) ?_
      refine q_icmp_lt C 24 dX12_strength_19 (n := 22) rfl rfl (by omega) (fun h3 => ?_) (fun h3 => ?_)
      · refine q_iload_n C dX12_strength_24 (n := 25) rfl rfl ?_
        refine q_iconst C dX12_strength_25 (n := 26) rfl ?_
        refine q_icmp_ge C 33 dX12_strength_26 (n := 29) rfl rfl (by omega) (fun h4 => ?_) (fun h4 => ?_)
        · refine q_iload_n C dX12_strength_33 (n := 34) rfl rfl ?_
          refine q_bipush C dX12_strength_34 (n := 36) rfl (x := 7) (by decide) ?_
          refine q_icmp_ge C 44 dX12_strength_36 (n := 39) rfl rfl (by omega) (fun h5 => ?_) (fun h5 => ?_)
          · refine q_iload_n C dX12_strength_44 (n := 45) rfl rfl ?_
            refine q_bipush C dX12_strength_45 (n := 47) rfl (x := 11) (by decide) ?_
            refine q_icmp_ge C 55 dX12_strength_47 (n := 50) rfl rfl (by omega) (fun h6 => ?_) (fun h6 => ?_)
            · refine q_iload_n C dX12_strength_55 (n := 56) rfl rfl ?_
              refine q_bipush C dX12_strength_56 (n := 58) rfl (x := 13) (by decide) ?_
              refine q_icmp_ge C 66 dX12_strength_58 (n := 61) rfl rfl (by omega) (fun h7 => ?_) (fun h7 => ?_)
              · refine q_iload_n C dX12_strength_66 (n := 67) rfl rfl ?_
                refine q_bipush C dX12_strength_67 (n := 69) rfl (x := 15) (by decide) ?_
                refine q_icmp_ge C 77 dX12_strength_69 (n := 72) rfl rfl (by omega) (fun h8 => ?_) (fun h8 => ?_)
                · refine q_iload_n C dX12_strength_77 (n := 78) rfl rfl ?_
                  refine q_bipush C dX12_strength_78 (n := 80) rfl (x := 18) (by decide) ?_
                  refine q_icmp_ge C 88 dX12_strength_80 (n := 83) rfl rfl (by omega) (fun h9 => ?_) (fun h9 => ?_)
                  · refine q_bipush C dX12_strength_88 (n := 90) rfl (x := 11) (by decide) ?_
                    exact q_iret C dX12_strength_90 ⟨rfl, rfl⟩ (by rw [hPo]; exact ⟨11, rfl, rfl, by omega, by omega, by omega⟩)
                  · refine q_bipush C dX12_strength_83 (n := 85) rfl (x := 10) (by decide) ?_
                    refine q_goto C 90 dX12_strength_85 rfl ?_
                    exact q_iret C dX12_strength_90 ⟨rfl, rfl⟩ (by rw [hPo]; exact ⟨10, rfl, rfl, by omega, by omega, by omega⟩)
                · refine q_bipush C dX12_strength_72 (n := 74) rfl (x := 9) (by decide) ?_
                  refine q_goto C 90 dX12_strength_74 rfl ?_
                  exact q_iret C dX12_strength_90 ⟨rfl, rfl⟩ (by rw [hPo]; exact ⟨9, rfl, rfl, by omega, by omega, by omega⟩)
              · refine q_bipush C dX12_strength_61 (n := 63) rfl (x := 8) (by decide) ?_
                refine q_goto C 90 dX12_strength_63 rfl ?_
                exact q_iret C dX12_strength_90 ⟨rfl, rfl⟩ (by rw [hPo]; exact ⟨8, rfl, rfl, by omega, by omega, by omega⟩)
            · refine q_bipush C dX12_strength_50 (n := 52) rfl (x := 7) (by decide) ?_
              refine q_goto C 90 dX12_strength_52 rfl ?_
              exact q_iret C dX12_strength_90 ⟨rfl, rfl⟩ (by rw [hPo]; exact ⟨7, rfl, rfl, by omega, by omega, by omega⟩)
          · refine q_bipush C dX12_strength_39 (n := 41) rfl (x := 6) (by decide) ?_
            refine q_goto C 90 dX12_strength_41 rfl ?_
            exact q_iret C dX12_strength_90 ⟨rfl, rfl⟩ (by rw [hPo]; exact ⟨6, rfl, rfl, by omega, by omega, by omega⟩)
        · refine q_iload_n C dX12_strength_29 (n := 30) rfl rfl ?_
          refine q_iconst C dX12_strength_30 (n := 31) rfl ?_
          refine q_iadd C dX12_strength_31 (n := 32) rfl (v := v1 + 1) rfl ?_
          exact q_iret C dX12_strength_32 ⟨rfl, rfl⟩ (by rw [hPo]; exact ⟨v1 + 1, rfl, rfl, by omega, by omega, by omega⟩)
      · refine q_iconst C dX12_strength_22 (n := 23) rfl ?_
        exact q_iret C dX12_strength_23 ⟨rfl, rfl⟩ (by rw [hPo]; exact ⟨0, rfl, rfl, by omega, by omega, by omega⟩)
    · refine q_iconst C dX12_strength_14 (n := 15) rfl ?_
      exact q_iret C dX12_strength_15 ⟨rfl, rfl⟩ (by rw [hPo]; exact ⟨2, rfl, rfl, by omega, by omega, by omega⟩)
  · refine q_iconst C dX12_strength_6 (n := 7) rfl ?_
    exact q_iret C dX12_strength_7 ⟨rfl, rfl⟩ (by rw [hPo]; exact ⟨1, rfl, rfl, by omega, by omega, by omega⟩)
theorem c_X12_truth {w : zWp} {T : zTl} {M : zMm} {J : zJm} {R : zRm'} {G : zGt} {F : zRm'}  (hI : zI G M) (hF : zF F R) (v1 : Int) (p1 : v1 = 0 ∨ v1 = 1) : zCt w 1 0 0 yX12_truth cX12_truth 1 (some .long) [zi v1] (T, M, J, R) (zPq T M J R) := by
  refine zCt.of rfl (Nat.le_of_ble_eq_true rfl) ?_
  intro p e s m args below meth c C
  obtain ⟨Po, hPo⟩ : ∃ Po, Po = zPq T M J R := ⟨_, rfl⟩
  rw [← hPo]
  show zK w p e 1 0 0 s m args below meth c 1 T Po 0 [zi v1] [] (T, M, J, R)
  refine q_iload_n C dX12_truth_0 (n := 1) rfl rfl ?_
  refine q_if_eq C 8 dX12_truth_1 (n := 4) rfl rfl (by omega) (fun h1 => ?_) (fun h1 => ?_)
  · refine q_lconst C dX12_truth_8 (n := 9) rfl ?_
    exact q_lret C dX12_truth_9 ⟨rfl, rfl⟩ (by rw [hPo]; exact ⟨Int64.ofNat ((0 : Fin 2) : Nat), rfl, rfl⟩)
  · refine q_lconst C dX12_truth_4 (n := 5) rfl ?_
    refine q_goto C 9 dX12_truth_5 rfl ?_
    exact q_lret C dX12_truth_9 ⟨rfl, rfl⟩ (by rw [hPo]; exact ⟨Int64.ofNat ((1 : Fin 2) : Nat), rfl, rfl⟩)
theorem c_X12_two {w : zWp} {T : zTl} {M : zMm} {J : zJm} {R : zRm'} {G : zGt} {F : zRm'}  (hI : zI G M) (hF : zF F R) (v1 : Int) (v2 : Int64) (v3 : Int64) (p1 : -2147483648 ≤ v1 ∧ v1 ≤ 2147483647) (p2 : ((v1 = 16 ∨ v1 = 17) ∧ v3 ≠ 0) ∨ (v1 ≤ 15 ∧ 2 ≤ v1)) : zCt w 2 0 0 yX12_two cX12_two 5 (some .long) [zi v1, .long v2, .long v3] (T, M, J, R) (zPq T M J R) := by
  refine zCt.of rfl (Nat.le_of_ble_eq_true rfl) ?_
  intro p e s m args below meth c C
  obtain ⟨Po, hPo⟩ : ∃ Po, Po = zPq T M J R := ⟨_, rfl⟩
  rw [← hPo]
  show zK w p e 2 0 0 s m args below meth c 5 T Po 0 [zi v1, .long v2, .null, .long v3, .null] [] (T, M, J, R)
  refine q_iload_n C dX12_two_0 (n := 1) rfl rfl ?_
  by_cases h1 : v1 = 2
  · refine q_tabIn C 76 dX12_two_1 h1 (by omega) rfl rfl ?_
    refine q_lload_n C dX12_two_76 (n := 77) rfl rfl ?_
    refine q_lload_n C dX12_two_77 (n := 78) rfl rfl ?_
    refine q_lor C dX12_two_78 (n := 79) rfl (fun l2 => ?_)
    exact q_lret C dX12_two_79 ⟨rfl, rfl⟩ (by rw [hPo]; exact ⟨l2, rfl, rfl⟩)
  by_cases h3 : v1 = 3
  · refine q_tabIn C 80 dX12_two_1 h3 (by omega) rfl rfl ?_
    refine q_lload_n C dX12_two_80 (n := 81) rfl rfl ?_
    refine q_lload_n C dX12_two_81 (n := 82) rfl rfl ?_
    refine q_lxor C dX12_two_82 (n := 83) rfl (fun l4 => ?_)
    exact q_lret C dX12_two_83 ⟨rfl, rfl⟩ (by rw [hPo]; exact ⟨l4, rfl, rfl⟩)
  by_cases h5 : v1 = 4
  · refine q_tabIn C 84 dX12_two_1 h5 (by omega) rfl rfl ?_
    refine q_lload_n C dX12_two_84 (n := 85) rfl rfl ?_
    refine q_lload_n C dX12_two_85 (n := 86) rfl rfl ?_
    refine q_land C dX12_two_86 (n := 87) rfl (fun l6 => ?_)
    exact q_lret C dX12_two_87 ⟨rfl, rfl⟩ (by rw [hPo]; exact ⟨l6, rfl, rfl⟩)
  by_cases h7 : v1 = 5
  · refine q_tabIn C 88 dX12_two_1 h7 (by omega) rfl rfl ?_
    refine q_lload_n C dX12_two_88 (n := 89) rfl rfl ?_
    refine q_lload_n C dX12_two_89 (n := 90) rfl rfl ?_
    refine q_lcmp C dX12_two_90 (n := 91) rfl (fun z8 h9 => ?_)
    have J_13 : ∀ (u10 : Int), (-2147483648 ≤ u10 ∧ u10 ≤ 2147483647) → (u10 = 0 ∨ u10 = 1) → zK w p e 2 0 0 s m args below meth c 5 T Po 99 [.null, .null, .null, .null, .null] [zi u10] (T, M, J, R) := by
      intro u10 h11 h12
      refine q_callSq C dX12_two_99 (n := 102) rfl m_X12_615 s_yX12_truth (c_X12_truth (w := w) (J := J) hI hF u10 (by omega)) (Nat.le_of_ble_eq_true rfl) rfl rfl (Nat.le_of_ble_eq_true rfl) ⟨Nat.le_refl _, Nat.le_refl _⟩ (fun l14 => ?_)
      exact q_lret C dX12_two_102 ⟨rfl, rfl⟩ (by rw [hPo]; exact ⟨l14, rfl, rfl⟩)
    refine q_if_ne C 98 dX12_two_91 (n := 94) rfl rfl (by omega) (fun h15 => ?_) (fun h15 => ?_)
    · refine q_iconst C dX12_two_98 (n := 99) rfl ?_
      exact zK.weak (J_13 0 (by omega) (by omega)) (zwk_n (zwk_n (zwk_n (zwk_n (zwk_n zwk_e)))))
    · refine q_iconst C dX12_two_94 (n := 95) rfl ?_
      refine q_goto C 99 dX12_two_95 rfl ?_
      exact zK.weak (J_13 1 (by omega) (by omega)) (zwk_n (zwk_n (zwk_n (zwk_n (zwk_n zwk_e)))))
  by_cases h16 : v1 = 6
  · refine q_tabIn C 103 dX12_two_1 h16 (by omega) rfl rfl ?_
    refine q_lload_n C dX12_two_103 (n := 104) rfl rfl ?_
    refine q_lload_n C dX12_two_104 (n := 105) rfl rfl ?_
    refine q_lcmp C dX12_two_105 (n := 106) rfl (fun z17 h18 => ?_)
    have J_22 : ∀ (u19 : Int), (-2147483648 ≤ u19 ∧ u19 ≤ 2147483647) → (u19 = 0 ∨ u19 = 1) → zK w p e 2 0 0 s m args below meth c 5 T Po 114 [.null, .null, .null, .null, .null] [zi u19] (T, M, J, R) := by
      intro u19 h20 h21
      refine q_callSq C dX12_two_114 (n := 117) rfl m_X12_615 s_yX12_truth (c_X12_truth (w := w) (J := J) hI hF u19 (by omega)) (Nat.le_of_ble_eq_true rfl) rfl rfl (Nat.le_of_ble_eq_true rfl) ⟨Nat.le_refl _, Nat.le_refl _⟩ (fun l23 => ?_)
      exact q_lret C dX12_two_117 ⟨rfl, rfl⟩ (by rw [hPo]; exact ⟨l23, rfl, rfl⟩)
    refine q_if_eq C 113 dX12_two_106 (n := 109) rfl rfl (by omega) (fun h24 => ?_) (fun h24 => ?_)
    · refine q_iconst C dX12_two_113 (n := 114) rfl ?_
      exact zK.weak (J_22 0 (by omega) (by omega)) (zwk_n (zwk_n (zwk_n (zwk_n (zwk_n zwk_e)))))
    · refine q_iconst C dX12_two_109 (n := 110) rfl ?_
      refine q_goto C 114 dX12_two_110 rfl ?_
      exact zK.weak (J_22 1 (by omega) (by omega)) (zwk_n (zwk_n (zwk_n (zwk_n (zwk_n zwk_e)))))
  by_cases h25 : v1 = 7
  · refine q_tabIn C 118 dX12_two_1 h25 (by omega) rfl rfl ?_
    refine q_lload_n C dX12_two_118 (n := 119) rfl rfl ?_
    refine q_lload_n C dX12_two_119 (n := 120) rfl rfl ?_
    refine q_lcmp C dX12_two_120 (n := 121) rfl (fun z26 h27 => ?_)
    have J_31 : ∀ (u28 : Int), (-2147483648 ≤ u28 ∧ u28 ≤ 2147483647) → (u28 = 0 ∨ u28 = 1) → zK w p e 2 0 0 s m args below meth c 5 T Po 129 [.null, .null, .null, .null, .null] [zi u28] (T, M, J, R) := by
      intro u28 h29 h30
      refine q_callSq C dX12_two_129 (n := 132) rfl m_X12_615 s_yX12_truth (c_X12_truth (w := w) (J := J) hI hF u28 (by omega)) (Nat.le_of_ble_eq_true rfl) rfl rfl (Nat.le_of_ble_eq_true rfl) ⟨Nat.le_refl _, Nat.le_refl _⟩ (fun l32 => ?_)
      exact q_lret C dX12_two_132 ⟨rfl, rfl⟩ (by rw [hPo]; exact ⟨l32, rfl, rfl⟩)
    refine q_if_ge C 128 dX12_two_121 (n := 124) rfl rfl (by omega) (fun h33 => ?_) (fun h33 => ?_)
    · refine q_iconst C dX12_two_128 (n := 129) rfl ?_
      exact zK.weak (J_31 0 (by omega) (by omega)) (zwk_n (zwk_n (zwk_n (zwk_n (zwk_n zwk_e)))))
    · refine q_iconst C dX12_two_124 (n := 125) rfl ?_
      refine q_goto C 129 dX12_two_125 rfl ?_
      exact zK.weak (J_31 1 (by omega) (by omega)) (zwk_n (zwk_n (zwk_n (zwk_n (zwk_n zwk_e)))))
  by_cases h34 : v1 = 8
  · refine q_tabIn C 133 dX12_two_1 h34 (by omega) rfl rfl ?_
    refine q_lload_n C dX12_two_133 (n := 134) rfl rfl ?_
    refine q_lload_n C dX12_two_134 (n := 135) rfl rfl ?_
    refine q_lcmp C dX12_two_135 (n := 136) rfl (fun z35 h36 => ?_)
    have J_40 : ∀ (u37 : Int), (-2147483648 ≤ u37 ∧ u37 ≤ 2147483647) → (u37 = 0 ∨ u37 = 1) → zK w p e 2 0 0 s m args below meth c 5 T Po 144 [.null, .null, .null, .null, .null] [zi u37] (T, M, J, R) := by
      intro u37 h38 h39
      refine q_callSq C dX12_two_144 (n := 147) rfl m_X12_615 s_yX12_truth (c_X12_truth (w := w) (J := J) hI hF u37 (by omega)) (Nat.le_of_ble_eq_true rfl) rfl rfl (Nat.le_of_ble_eq_true rfl) ⟨Nat.le_refl _, Nat.le_refl _⟩ (fun l41 => ?_)
      exact q_lret C dX12_two_147 ⟨rfl, rfl⟩ (by rw [hPo]; exact ⟨l41, rfl, rfl⟩)
    refine q_if_gt C 143 dX12_two_136 (n := 139) rfl rfl (by omega) (fun h42 => ?_) (fun h42 => ?_)
    · refine q_iconst C dX12_two_143 (n := 144) rfl ?_
      exact zK.weak (J_40 0 (by omega) (by omega)) (zwk_n (zwk_n (zwk_n (zwk_n (zwk_n zwk_e)))))
    · refine q_iconst C dX12_two_139 (n := 140) rfl ?_
      refine q_goto C 144 dX12_two_140 rfl ?_
      exact zK.weak (J_40 1 (by omega) (by omega)) (zwk_n (zwk_n (zwk_n (zwk_n (zwk_n zwk_e)))))
  by_cases h43 : v1 = 9
  · refine q_tabIn C 148 dX12_two_1 h43 (by omega) rfl rfl ?_
    refine q_lload_n C dX12_two_148 (n := 149) rfl rfl ?_
    refine q_lload_n C dX12_two_149 (n := 150) rfl rfl ?_
    refine q_lcmp C dX12_two_150 (n := 151) rfl (fun z44 h45 => ?_)
    have J_49 : ∀ (u46 : Int), (-2147483648 ≤ u46 ∧ u46 ≤ 2147483647) → (u46 = 0 ∨ u46 = 1) → zK w p e 2 0 0 s m args below meth c 5 T Po 159 [.null, .null, .null, .null, .null] [zi u46] (T, M, J, R) := by
      intro u46 h47 h48
      refine q_callSq C dX12_two_159 (n := 162) rfl m_X12_615 s_yX12_truth (c_X12_truth (w := w) (J := J) hI hF u46 (by omega)) (Nat.le_of_ble_eq_true rfl) rfl rfl (Nat.le_of_ble_eq_true rfl) ⟨Nat.le_refl _, Nat.le_refl _⟩ (fun l50 => ?_)
      exact q_lret C dX12_two_162 ⟨rfl, rfl⟩ (by rw [hPo]; exact ⟨l50, rfl, rfl⟩)
    refine q_if_le C 158 dX12_two_151 (n := 154) rfl rfl (by omega) (fun h51 => ?_) (fun h51 => ?_)
    · refine q_iconst C dX12_two_158 (n := 159) rfl ?_
      exact zK.weak (J_49 0 (by omega) (by omega)) (zwk_n (zwk_n (zwk_n (zwk_n (zwk_n zwk_e)))))
    · refine q_iconst C dX12_two_154 (n := 155) rfl ?_
      refine q_goto C 159 dX12_two_155 rfl ?_
      exact zK.weak (J_49 1 (by omega) (by omega)) (zwk_n (zwk_n (zwk_n (zwk_n (zwk_n zwk_e)))))
  by_cases h52 : v1 = 10
  · refine q_tabIn C 163 dX12_two_1 h52 (by omega) rfl rfl ?_
    refine q_lload_n C dX12_two_163 (n := 164) rfl rfl ?_
    refine q_lload_n C dX12_two_164 (n := 165) rfl rfl ?_
    refine q_lcmp C dX12_two_165 (n := 166) rfl (fun z53 h54 => ?_)
    have J_58 : ∀ (u55 : Int), (-2147483648 ≤ u55 ∧ u55 ≤ 2147483647) → (u55 = 0 ∨ u55 = 1) → zK w p e 2 0 0 s m args below meth c 5 T Po 174 [.null, .null, .null, .null, .null] [zi u55] (T, M, J, R) := by
      intro u55 h56 h57
      refine q_callSq C dX12_two_174 (n := 177) rfl m_X12_615 s_yX12_truth (c_X12_truth (w := w) (J := J) hI hF u55 (by omega)) (Nat.le_of_ble_eq_true rfl) rfl rfl (Nat.le_of_ble_eq_true rfl) ⟨Nat.le_refl _, Nat.le_refl _⟩ (fun l59 => ?_)
      exact q_lret C dX12_two_177 ⟨rfl, rfl⟩ (by rw [hPo]; exact ⟨l59, rfl, rfl⟩)
    refine q_if_lt C 173 dX12_two_166 (n := 169) rfl rfl (by omega) (fun h60 => ?_) (fun h60 => ?_)
    · refine q_iconst C dX12_two_173 (n := 174) rfl ?_
      exact zK.weak (J_58 0 (by omega) (by omega)) (zwk_n (zwk_n (zwk_n (zwk_n (zwk_n zwk_e)))))
    · refine q_iconst C dX12_two_169 (n := 170) rfl ?_
      refine q_goto C 174 dX12_two_170 rfl ?_
      exact zK.weak (J_58 1 (by omega) (by omega)) (zwk_n (zwk_n (zwk_n (zwk_n (zwk_n zwk_e)))))
  by_cases h61 : v1 = 11
  · refine q_tabIn C 178 dX12_two_1 h61 (by omega) rfl rfl ?_
    refine q_lload_n C dX12_two_178 (n := 179) rfl rfl ?_
    refine q_lload_n C dX12_two_179 (n := 180) rfl rfl ?_
    refine q_ldc2 C dX12_two_180 (n := 183) rfl k_X12_619 ?_
    refine q_land C dX12_two_183 (n := 184) rfl (fun l63 => ?_)
    refine q_l2i C dX12_two_184 (n := 185) rfl ?_
    have g64 := zr_l2i l63
    refine q_lshl C dX12_two_185 (n := 186) rfl (fun l65 => ?_)
    exact q_lret C dX12_two_186 ⟨rfl, rfl⟩ (by rw [hPo]; exact ⟨l65, rfl, rfl⟩)
  by_cases h66 : v1 = 12
  · refine q_tabIn C 187 dX12_two_1 h66 (by omega) rfl rfl ?_
    refine q_lload_n C dX12_two_187 (n := 188) rfl rfl ?_
    refine q_lload_n C dX12_two_188 (n := 189) rfl rfl ?_
    refine q_ldc2 C dX12_two_189 (n := 192) rfl k_X12_619 ?_
    refine q_land C dX12_two_192 (n := 193) rfl (fun l68 => ?_)
    refine q_l2i C dX12_two_193 (n := 194) rfl ?_
    have g69 := zr_l2i l68
    refine q_lshr C dX12_two_194 (n := 195) rfl (fun l70 => ?_)
    exact q_lret C dX12_two_195 ⟨rfl, rfl⟩ (by rw [hPo]; exact ⟨l70, rfl, rfl⟩)
  by_cases h71 : v1 = 13
  · refine q_tabIn C 196 dX12_two_1 h71 (by omega) rfl rfl ?_
    refine q_lload_n C dX12_two_196 (n := 197) rfl rfl ?_
    refine q_lload_n C dX12_two_197 (n := 198) rfl rfl ?_
    refine q_ladd C dX12_two_198 (n := 199) rfl (fun l72 => ?_)
    exact q_lret C dX12_two_199 ⟨rfl, rfl⟩ (by rw [hPo]; exact ⟨l72, rfl, rfl⟩)
  by_cases h73 : v1 = 14
  · refine q_tabIn C 200 dX12_two_1 h73 (by omega) rfl rfl ?_
    refine q_lload_n C dX12_two_200 (n := 201) rfl rfl ?_
    refine q_lload_n C dX12_two_201 (n := 202) rfl rfl ?_
    refine q_lsub C dX12_two_202 (n := 203) rfl (fun l74 => ?_)
    exact q_lret C dX12_two_203 ⟨rfl, rfl⟩ (by rw [hPo]; exact ⟨l74, rfl, rfl⟩)
  by_cases h75 : v1 = 15
  · refine q_tabIn C 204 dX12_two_1 h75 (by omega) rfl rfl ?_
    refine q_lload_n C dX12_two_204 (n := 205) rfl rfl ?_
    refine q_lload_n C dX12_two_205 (n := 206) rfl rfl ?_
    refine q_lmul C dX12_two_206 (n := 207) rfl (fun l76 => ?_)
    exact q_lret C dX12_two_207 ⟨rfl, rfl⟩ (by rw [hPo]; exact ⟨l76, rfl, rfl⟩)
  by_cases h77 : v1 = 16
  · refine q_tabIn C 208 dX12_two_1 h77 (by omega) rfl rfl ?_
    refine q_lload_n C dX12_two_208 (n := 209) rfl rfl ?_
    refine q_lload_n C dX12_two_209 (n := 210) rfl rfl ?_
    refine q_ldiv C dX12_two_210 (n := 211) rfl (by rcases p2 with ⟨q1, q2⟩ | ⟨q1, q2⟩ <;> first | exact absurd q1 (by omega) | exact q2) (fun l78 => ?_)
    exact q_lret C dX12_two_211 ⟨rfl, rfl⟩ (by rw [hPo]; exact ⟨l78, rfl, rfl⟩)
  refine q_tabOut C 212 dX12_two_1 (by omega) (by omega) rfl ?_
  refine q_lload_n C dX12_two_212 (n := 213) rfl rfl ?_
  refine q_lload_n C dX12_two_213 (n := 214) rfl rfl ?_
  refine q_lrem C dX12_two_214 (n := 215) rfl (by rcases p2 with ⟨q1, q2⟩ | ⟨q1, q2⟩ <;> first | exact absurd q1 (by omega) | exact q2) (fun l79 => ?_)
  exact q_lret C dX12_two_215 ⟨rfl, rfl⟩ (by rw [hPo]; exact ⟨l79, rfl, rfl⟩)
theorem c_X12_operator {w : zWp} {T : zTl} {M : zMm} {J : zJm} {R : zRm'} {G : zGt} {F : zRm'} {a : Nat} (hI : zI G M) (hF : zF F R) (h0 : zModel T F G a) (v1 : Int) (p1 : 0 ≤ v1 ∧ v1 ≤ 3499) : zCt w 2 0 0 yX12_operator cX12_operator 4 (some .int) [.ref (w.2.1 + a), zi v1] (T, M, J, R) (zPp T M J R (fun x => (x = -1 ∨ 2 ≤ x ∧ x ≤ 17 ∨ x = 30 ∨ x = 31))) := by
  refine zCt.of rfl (Nat.le_of_ble_eq_true rfl) ?_
  intro p e s m args below meth c C
  obtain ⟨Po, hPo⟩ : ∃ Po, Po = zPp T M J R (fun x => (x = -1 ∨ 2 ≤ x ∧ x ≤ 17 ∨ x = 30 ∨ x = 31)) := ⟨_, rfl⟩
  rw [← hPo]
  show zK w p e 2 0 0 s m args below meth c 4 T Po 0 [.ref (w.2.1 + a), zi v1, .null, .null] [] (T, M, J, R)
  refine q_aload_n C dX12_operator_0 (n := 1) rfl rfl ?_
  refine q_getR C dX12_operator_1 (n := 4) rfl f_X12_40 (zM0 h0) (hF _ _ _ (zM31 h0)) ?_
  refine q_iload_n C dX12_operator_4 (n := 5) rfl rfl ?_
  have g1 := zI.at hI ((zM33 h0) v1)
  refine q_iald C dX12_operator_5 (n := 6) rfl (zM32 h0) (by omega) (v := M (a + 9) v1) rfl ?_
  refine q_iconst C dX12_operator_6 (n := 7) rfl ?_
  refine q_icmp_eq C 12 dX12_operator_7 (n := 10) rfl rfl (by omega) (fun h2 => ?_) (fun h2 => ?_)
  · refine q_aload_n C dX12_operator_12 (n := 13) rfl rfl ?_
    refine q_iload_n C dX12_operator_13 (n := 14) rfl rfl ?_
    refine q_iconst C dX12_operator_14 (n := 15) rfl ?_
    refine q_callVp C dX12_operator_15 (n := 18) rfl m_X12_370 v_yX12_byteIn (zM0 h0) ⟨by decide, rfl⟩ (c_X12_byteIn (w := w) (J := J) hI hF h0 v1 0 (by omega) (by omega)) (Nat.le_of_ble_eq_true rfl) rfl rfl (Nat.le_of_ble_eq_true rfl) ⟨Nat.le_refl _, Nat.le_refl _⟩ (fun x5 h6 => ?_)
    obtain ⟨h3, h4⟩ := h6
    refine q_istore_n C [.ref (w.2.1 + a), zi v1, zi x5, .null] dX12_operator_18 (n := 19) rfl rfl rfl ?_
    refine q_aload_n C dX12_operator_19 (n := 20) rfl rfl ?_
    refine q_getR C dX12_operator_20 (n := 23) rfl f_X12_46 (zM0 h0) (hF _ _ _ (zM37 h0)) ?_
    refine q_iload_n C dX12_operator_23 (n := 24) rfl rfl ?_
    have g7 := zI.at hI ((zM39 h0) v1)
    refine q_iald C dX12_operator_24 (n := 25) rfl (zM38 h0) (by omega) (v := M (a + 11) v1) rfl ?_
    refine q_iconst C dX12_operator_25 (n := 26) rfl ?_
    have J_10 : ∀ (u8 : Int), (-2147483648 ≤ u8 ∧ u8 ≤ 2147483647) → zK w p e 2 0 0 s m args below meth c 4 T Po 39 [.null, .null, zi x5, .null] [zi u8] (T, M, J, R) := by
      intro u8 h9
      refine q_istore_n C [.null, .null, zi x5, zi u8] dX12_operator_39 (n := 40) rfl rfl rfl ?_
      refine q_iload_n C dX12_operator_40 (n := 41) rfl rfl ?_
      refine q_bipush C dX12_operator_41 (n := 43) rfl (x := 124) (by decide) ?_
      refine q_icmp_ne C 59 dX12_operator_43 (n := 46) rfl rfl (by omega) (fun h11 => ?_) (fun h11 => ?_)
      · refine q_iload_n C dX12_operator_59 (n := 60) rfl rfl ?_
        refine q_bipush C dX12_operator_60 (n := 62) rfl (x := 38) (by decide) ?_
        refine q_icmp_ne C 78 dX12_operator_62 (n := 65) rfl rfl (by omega) (fun h12 => ?_) (fun h12 => ?_)
        · refine q_iload_n C dX12_operator_78 (n := 79) rfl rfl ?_
          refine q_bipush C dX12_operator_79 (n := 81) rfl (x := 94) (by decide) ?_
          refine q_icmp_ne C 86 dX12_operator_81 (n := 84) rfl rfl (by omega) (fun h13 => ?_) (fun h13 => ?_)
          · refine q_iload_n C dX12_operator_86 (n := 87) rfl rfl ?_
            refine q_bipush C dX12_operator_87 (n := 89) rfl (x := 61) (by decide) ?_
            refine q_icmp_ne C 104 dX12_operator_89 (n := 92) rfl rfl (by omega) (fun h14 => ?_) (fun h14 => ?_)
            · refine q_iload_n C dX12_operator_104 (n := 105) rfl rfl ?_
              refine q_bipush C dX12_operator_105 (n := 107) rfl (x := 33) (by decide) ?_
              refine q_icmp_ne C 123 dX12_operator_107 (n := 110) rfl rfl (by omega) (fun h15 => ?_) (fun h15 => ?_)
              · refine q_iload_n C dX12_operator_123 (n := 124) rfl rfl ?_
                refine q_bipush C dX12_operator_124 (n := 126) rfl (x := 60) (by decide) ?_
                refine q_icmp_ne C 154 dX12_operator_126 (n := 129) rfl rfl (by omega) (fun h16 => ?_) (fun h16 => ?_)
                · refine q_iload_n C dX12_operator_154 (n := 155) rfl rfl ?_
                  refine q_bipush C dX12_operator_155 (n := 157) rfl (x := 62) (by decide) ?_
                  refine q_icmp_ne C 185 dX12_operator_157 (n := 160) rfl rfl (by omega) (fun h17 => ?_) (fun h17 => ?_)
                  · refine q_iload_n C dX12_operator_185 (n := 186) rfl rfl ?_
                    refine q_bipush C dX12_operator_186 (n := 188) rfl (x := 43) (by decide) ?_
                    refine q_icmp_ne C 196 dX12_operator_188 (n := 191) rfl rfl (by omega) (fun h18 => ?_) (fun h18 => ?_)
                    · refine q_iload_n C dX12_operator_196 (n := 197) rfl rfl ?_
                      refine q_bipush C dX12_operator_197 (n := 199) rfl (x := 45) (by decide) ?_
                      refine q_icmp_ne C 207 dX12_operator_199 (n := 202) rfl rfl (by omega) (fun h19 => ?_) (fun h19 => ?_)
                      · refine q_iload_n C dX12_operator_207 (n := 208) rfl rfl ?_
                        refine q_bipush C dX12_operator_208 (n := 210) rfl (x := 42) (by decide) ?_
                        refine q_icmp_ne C 218 dX12_operator_210 (n := 213) rfl rfl (by omega) (fun h20 => ?_) (fun h20 => ?_)
                        · refine q_iload_n C dX12_operator_218 (n := 219) rfl rfl ?_
                          refine q_bipush C dX12_operator_219 (n := 221) rfl (x := 47) (by decide) ?_
                          refine q_icmp_ne C 229 dX12_operator_221 (n := 224) rfl rfl (by omega) (fun h21 => ?_) (fun h21 => ?_)
                          · refine q_iload_n C dX12_operator_229 (n := 230) rfl rfl ?_
                            refine q_bipush C dX12_operator_230 (n := 232) rfl (x := 37) (by decide) ?_
                            refine q_icmp_ne C 240 dX12_operator_232 (n := 235) rfl rfl (by omega) (fun h22 => ?_) (fun h22 => ?_)
                            · refine q_iconst C dX12_operator_240 (n := 241) rfl ?_
                              exact q_iret C dX12_operator_241 ⟨rfl, rfl⟩ (by rw [hPo]; exact ⟨(-1), rfl, rfl, by omega⟩)
                            · refine q_bipush C dX12_operator_235 (n := 237) rfl (x := 17) (by decide) ?_
                              refine q_goto C 241 dX12_operator_237 rfl ?_
                              exact q_iret C dX12_operator_241 ⟨rfl, rfl⟩ (by rw [hPo]; exact ⟨17, rfl, rfl, by omega⟩)
                          · refine q_bipush C dX12_operator_224 (n := 226) rfl (x := 16) (by decide) ?_
                            refine q_goto C 241 dX12_operator_226 rfl ?_
                            exact q_iret C dX12_operator_241 ⟨rfl, rfl⟩ (by rw [hPo]; exact ⟨16, rfl, rfl, by omega⟩)
                        · refine q_bipush C dX12_operator_213 (n := 215) rfl (x := 15) (by decide) ?_
                          refine q_goto C 241 dX12_operator_215 rfl ?_
                          exact q_iret C dX12_operator_241 ⟨rfl, rfl⟩ (by rw [hPo]; exact ⟨15, rfl, rfl, by omega⟩)
                      · refine q_bipush C dX12_operator_202 (n := 204) rfl (x := 14) (by decide) ?_
                        refine q_goto C 241 dX12_operator_204 rfl ?_
                        exact q_iret C dX12_operator_241 ⟨rfl, rfl⟩ (by rw [hPo]; exact ⟨14, rfl, rfl, by omega⟩)
                    · refine q_bipush C dX12_operator_191 (n := 193) rfl (x := 13) (by decide) ?_
                      refine q_goto C 241 dX12_operator_193 rfl ?_
                      exact q_iret C dX12_operator_241 ⟨rfl, rfl⟩ (by rw [hPo]; exact ⟨13, rfl, rfl, by omega⟩)
                  · refine q_iload_n C dX12_operator_160 (n := 161) rfl rfl ?_
                    refine q_bipush C dX12_operator_161 (n := 163) rfl (x := 62) (by decide) ?_
                    refine q_icmp_ne C 171 dX12_operator_163 (n := 166) rfl rfl (by omega) (fun h23 => ?_) (fun h23 => ?_)
                    · refine q_iload_n C dX12_operator_171 (n := 172) rfl rfl ?_
                      refine q_bipush C dX12_operator_172 (n := 174) rfl (x := 61) (by decide) ?_
                      refine q_icmp_ne C 182 dX12_operator_174 (n := 177) rfl rfl (by omega) (fun h24 => ?_) (fun h24 => ?_)
                      · refine q_bipush C dX12_operator_182 (n := 184) rfl (x := 9) (by decide) ?_
                        exact q_iret C dX12_operator_184 ⟨rfl, rfl⟩ (by rw [hPo]; exact ⟨9, rfl, rfl, by omega⟩)
                      · refine q_bipush C dX12_operator_177 (n := 179) rfl (x := 10) (by decide) ?_
                        refine q_goto C 184 dX12_operator_179 rfl ?_
                        exact q_iret C dX12_operator_184 ⟨rfl, rfl⟩ (by rw [hPo]; exact ⟨10, rfl, rfl, by omega⟩)
                    · refine q_bipush C dX12_operator_166 (n := 168) rfl (x := 12) (by decide) ?_
                      refine q_goto C 184 dX12_operator_168 rfl ?_
                      exact q_iret C dX12_operator_184 ⟨rfl, rfl⟩ (by rw [hPo]; exact ⟨12, rfl, rfl, by omega⟩)
                · refine q_iload_n C dX12_operator_129 (n := 130) rfl rfl ?_
                  refine q_bipush C dX12_operator_130 (n := 132) rfl (x := 60) (by decide) ?_
                  refine q_icmp_ne C 140 dX12_operator_132 (n := 135) rfl rfl (by omega) (fun h25 => ?_) (fun h25 => ?_)
                  · refine q_iload_n C dX12_operator_140 (n := 141) rfl rfl ?_
                    refine q_bipush C dX12_operator_141 (n := 143) rfl (x := 61) (by decide) ?_
                    refine q_icmp_ne C 151 dX12_operator_143 (n := 146) rfl rfl (by omega) (fun h26 => ?_) (fun h26 => ?_)
                    · refine q_bipush C dX12_operator_151 (n := 153) rfl (x := 7) (by decide) ?_
                      exact q_iret C dX12_operator_153 ⟨rfl, rfl⟩ (by rw [hPo]; exact ⟨7, rfl, rfl, by omega⟩)
                    · refine q_bipush C dX12_operator_146 (n := 148) rfl (x := 8) (by decide) ?_
                      refine q_goto C 153 dX12_operator_148 rfl ?_
                      exact q_iret C dX12_operator_153 ⟨rfl, rfl⟩ (by rw [hPo]; exact ⟨8, rfl, rfl, by omega⟩)
                  · refine q_bipush C dX12_operator_135 (n := 137) rfl (x := 11) (by decide) ?_
                    refine q_goto C 153 dX12_operator_137 rfl ?_
                    exact q_iret C dX12_operator_153 ⟨rfl, rfl⟩ (by rw [hPo]; exact ⟨11, rfl, rfl, by omega⟩)
              · refine q_iload_n C dX12_operator_110 (n := 111) rfl rfl ?_
                refine q_bipush C dX12_operator_111 (n := 113) rfl (x := 61) (by decide) ?_
                refine q_icmp_ne C 121 dX12_operator_113 (n := 116) rfl rfl (by omega) (fun h27 => ?_) (fun h27 => ?_)
                · refine q_iconst C dX12_operator_121 (n := 122) rfl ?_
                  exact q_iret C dX12_operator_122 ⟨rfl, rfl⟩ (by rw [hPo]; exact ⟨(-1), rfl, rfl, by omega⟩)
                · refine q_bipush C dX12_operator_116 (n := 118) rfl (x := 6) (by decide) ?_
                  refine q_goto C 122 dX12_operator_118 rfl ?_
                  exact q_iret C dX12_operator_122 ⟨rfl, rfl⟩ (by rw [hPo]; exact ⟨6, rfl, rfl, by omega⟩)
            · refine q_iload_n C dX12_operator_92 (n := 93) rfl rfl ?_
              refine q_bipush C dX12_operator_93 (n := 95) rfl (x := 61) (by decide) ?_
              refine q_icmp_ne C 102 dX12_operator_95 (n := 98) rfl rfl (by omega) (fun h28 => ?_) (fun h28 => ?_)
              · refine q_iconst C dX12_operator_102 (n := 103) rfl ?_
                exact q_iret C dX12_operator_103 ⟨rfl, rfl⟩ (by rw [hPo]; exact ⟨(-1), rfl, rfl, by omega⟩)
              · refine q_iconst C dX12_operator_98 (n := 99) rfl ?_
                refine q_goto C 103 dX12_operator_99 rfl ?_
                exact q_iret C dX12_operator_103 ⟨rfl, rfl⟩ (by rw [hPo]; exact ⟨5, rfl, rfl, by omega⟩)
          · refine q_iconst C dX12_operator_84 (n := 85) rfl ?_
            exact q_iret C dX12_operator_85 ⟨rfl, rfl⟩ (by rw [hPo]; exact ⟨3, rfl, rfl, by omega⟩)
        · refine q_iload_n C dX12_operator_65 (n := 66) rfl rfl ?_
          refine q_bipush C dX12_operator_66 (n := 68) rfl (x := 38) (by decide) ?_
          refine q_icmp_ne C 76 dX12_operator_68 (n := 71) rfl rfl (by omega) (fun h29 => ?_) (fun h29 => ?_)
          · refine q_iconst C dX12_operator_76 (n := 77) rfl ?_
            exact q_iret C dX12_operator_77 ⟨rfl, rfl⟩ (by rw [hPo]; exact ⟨4, rfl, rfl, by omega⟩)
          · refine q_bipush C dX12_operator_71 (n := 73) rfl (x := 30) (by decide) ?_
            refine q_goto C 77 dX12_operator_73 rfl ?_
            exact q_iret C dX12_operator_77 ⟨rfl, rfl⟩ (by rw [hPo]; exact ⟨30, rfl, rfl, by omega⟩)
      · refine q_iload_n C dX12_operator_46 (n := 47) rfl rfl ?_
        refine q_bipush C dX12_operator_47 (n := 49) rfl (x := 124) (by decide) ?_
        refine q_icmp_ne C 57 dX12_operator_49 (n := 52) rfl rfl (by omega) (fun h30 => ?_) (fun h30 => ?_)
        · refine q_iconst C dX12_operator_57 (n := 58) rfl ?_
          exact q_iret C dX12_operator_58 ⟨rfl, rfl⟩ (by rw [hPo]; exact ⟨2, rfl, rfl, by omega⟩)
        · refine q_bipush C dX12_operator_52 (n := 54) rfl (x := 31) (by decide) ?_
          refine q_goto C 58 dX12_operator_54 rfl ?_
          exact q_iret C dX12_operator_58 ⟨rfl, rfl⟩ (by rw [hPo]; exact ⟨31, rfl, rfl, by omega⟩)
    refine q_icmp_ne C 38 dX12_operator_26 (n := 29) rfl rfl (by omega) (fun h31 => ?_) (fun h31 => ?_)
    · refine q_iconst C dX12_operator_38 (n := 39) rfl ?_
      exact zK.weak (J_10 0 (by omega)) (zwk_n (zwk_n (zwk_c (zwk_n zwk_e))))
    · refine q_aload_n C dX12_operator_29 (n := 30) rfl rfl ?_
      refine q_iload_n C dX12_operator_30 (n := 31) rfl rfl ?_
      refine q_iconst C dX12_operator_31 (n := 32) rfl ?_
      refine q_callVp C dX12_operator_32 (n := 35) rfl m_X12_370 v_yX12_byteIn (zM0 h0) ⟨by decide, rfl⟩ (c_X12_byteIn (w := w) (J := J) hI hF h0 v1 1 (by omega) (by omega)) (Nat.le_of_ble_eq_true rfl) rfl rfl (Nat.le_of_ble_eq_true rfl) ⟨Nat.le_refl _, Nat.le_refl _⟩ (fun x34 h35 => ?_)
      obtain ⟨h32, h33⟩ := h35
      refine q_goto C 39 dX12_operator_35 rfl ?_
      exact zK.weak (J_10 x34 (by omega)) (zwk_n (zwk_n (zwk_c (zwk_n zwk_e))))
  · refine q_iconst C dX12_operator_10 (n := 11) rfl ?_
    exact q_iret C dX12_operator_11 ⟨rfl, rfl⟩ (by rw [hPo]; exact ⟨(-1), rfl, rfl, by omega⟩)
theorem c_X12_reads {w : zWp} {T : zTl} {M : zMm} {J : zJm} {R : zRm'} {G : zGt} {F : zRm'} {a : Nat} (hI : zI G M) (hF : zF F R) (h0 : zModel T F G a) (v1 : Int) (p1 : 0 ≤ v1 ∧ v1 ≤ 3499) : zCt w 2 0 0 yX12_reads cX12_reads 6 (some .boolean) [.ref (w.2.1 + a), zi v1] (T, M, J, R) (zPi T R G (fun x M2 => (zMd a [] [] [] M M2) ∧ (x = 0 ∨ x = 1))) := by
  refine zCt.of rfl (Nat.le_of_ble_eq_true rfl) ?_
  intro p e s m args below meth c C
  obtain ⟨Po, hPo⟩ : ∃ Po, Po = zPi T R G (fun x M2 => (zMd a [] [] [] M M2) ∧ (x = 0 ∨ x = 1)) := ⟨_, rfl⟩
  rw [← hPo]
  have hK0 : zMd a [] [] [] M M := zMd.rf
  show zK w p e 2 0 0 s m args below meth c 6 T Po 0 [.ref (w.2.1 + a), zi v1, .null, .null, .null, .null] [] (T, M, J, R)
  refine q_aload_n C dX12_reads_0 (n := 1) rfl rfl ?_
  refine q_lconst C dX12_reads_1 (n := 2) rfl ?_
  refine q_putL C dX12_reads_2 (n := 5) rfl f_X12_559 (zM0 h0) ⟨rfl, rfl⟩ (fun J1 => ?_)
  refine q_aload_n C dX12_reads_5 (n := 6) rfl rfl ?_
  refine q_getR C dX12_reads_6 (n := 9) rfl f_X12_46 (zM0 h0) (hF _ _ _ (zM37 h0)) ?_
  refine q_iload_n C dX12_reads_9 (n := 10) rfl rfl ?_
  have g2 := zI.at hI ((zM39 h0) v1)
  refine q_iald C dX12_reads_10 (n := 11) rfl (zM38 h0) (by omega) (v := M (a + 11) v1) rfl ?_
  refine q_istore_n C [.ref (w.2.1 + a), zi v1, zi (M (a + 11) v1), .null, .null, .null] dX12_reads_11 (n := 12) rfl rfl rfl ?_
  refine q_iload_n C dX12_reads_12 (n := 13) rfl rfl ?_
  refine q_iconst C dX12_reads_13 (n := 14) rfl ?_
  have J_3 : zK w p e 2 0 0 s m args below meth c 6 T Po 150 [.ref (w.2.1 + a), zi v1, zi (M (a + 11) v1), .null, .null, .null] [] (T, M, J1, R) := by
    refine q_iconst C dX12_reads_150 (n := 151) rfl ?_
    refine q_istore_n C [.ref (w.2.1 + a), zi v1, zi (M (a + 11) v1), zi 0, .null, .null] dX12_reads_151 (n := 152) rfl rfl rfl ?_
    have L_13 : ∀ n14 : Nat, ∀ (u4 : Int) (M6 : zMm) (J7 : zJm), zI G M6 → zMd a [] [] [] M M6 → zMd a [] [] [] M M6 → (-2147483648 ≤ u4 ∧ u4 ≤ 2147483647) → (0 ≤ u4 ∧ u4 ≤ 30) → (30 - u4 + 1 ≤ (n14 : Int)) → zK w p e 2 0 0 s m args below meth c 6 T Po 152 [.ref (w.2.1 + a), zi v1, zi (M (a + 11) v1), zi u4, .null, .null] [] (T, M6, J7, R) := by
      intro n14
      induction n14 with
      | zero =>
        intro u4 M6 J7 hI8 hK9 hK10 h11 h12 hm16
        exfalso
        omega
      | succ n14 ih15 =>
        intro u4 M6 J7 hI8 hK9 hK10 h11 h12 hm16
        refine q_iload_n C dX12_reads_152 (n := 153) rfl rfl ?_
        refine q_iload_n C dX12_reads_153 (n := 154) rfl rfl ?_
        refine q_icmp_ge C 232 dX12_reads_154 (n := 157) rfl rfl (by omega) (fun h17 => ?_) (fun h17 => ?_)
        · refine q_iconst C dX12_reads_232 (n := 233) rfl ?_
          exact q_zret C dX12_reads_233 ⟨rfl, rfl⟩ (by omega) (by rw [hPo]; exact ⟨1, M6, J7, rfl, rfl, hI8, hK9, by omega⟩)
        · refine q_aload_n C dX12_reads_157 (n := 158) rfl rfl ?_
          refine q_iload_n C dX12_reads_158 (n := 159) rfl rfl ?_
          refine q_iload_n C dX12_reads_159 (n := 160) rfl rfl ?_
          refine q_callVp C dX12_reads_160 (n := 163) rfl m_X12_370 v_yX12_byteIn (zM0 h0) ⟨by decide, rfl⟩ (c_X12_byteIn (w := w) (J := J7) hI8 hF h0 v1 u4 (by omega) (by omega)) (Nat.le_of_ble_eq_true rfl) rfl rfl (Nat.le_of_ble_eq_true rfl) ⟨Nat.le_refl _, Nat.le_refl _⟩ (fun x20 h21 => ?_)
          obtain ⟨h18, h19⟩ := h21
          refine q_istore C [.ref (w.2.1 + a), zi v1, zi (M (a + 11) v1), zi u4, zi x20, .null] dX12_reads_163 (n := 165) rfl rfl rfl ?_
          refine q_iload C dX12_reads_165 (n := 167) rfl rfl ?_
          refine q_callSp C dX12_reads_167 (n := 170) rfl m_X12_307 s_yX12_isDigit (c_X12_isDigit (w := w) (J := J7) hI8 hF x20 (by omega)) (Nat.le_of_ble_eq_true rfl) rfl rfl (Nat.le_of_ble_eq_true rfl) ⟨Nat.le_refl _, Nat.le_refl _⟩ (fun x24 h25 => ?_)
          obtain ⟨h22, h23⟩ := h25
          refine q_if_ne C 175 dX12_reads_170 (n := 173) rfl rfl (by omega) (fun h26 => ?_) (fun h26 => ?_)
          · refine q_aload_n C dX12_reads_175 (n := 176) rfl rfl ?_
            refine q_getL C dX12_reads_176 (n := 179) rfl f_X12_559 (zM0 h0) (fun l27 => ?_)
            refine q_ldc2 C dX12_reads_179 (n := 182) rfl k_X12_563 ?_
            refine q_lcmp C dX12_reads_182 (n := 183) rfl (fun z29 h30 => ?_)
            refine q_if_gt C 204 dX12_reads_183 (n := 186) rfl rfl (by omega) (fun h31 => ?_) (fun h31 => ?_)
            · refine q_iconst C dX12_reads_204 (n := 205) rfl ?_
              exact q_zret C dX12_reads_205 ⟨rfl, rfl⟩ (by omega) (by rw [hPo]; exact ⟨0, M6, J7, rfl, rfl, hI8, hK9, by omega⟩)
            · refine q_aload_n C dX12_reads_186 (n := 187) rfl rfl ?_
              refine q_getL C dX12_reads_187 (n := 190) rfl f_X12_559 (zM0 h0) (fun l32 => ?_)
              refine q_ldc2 C dX12_reads_190 (n := 193) rfl k_X12_563 ?_
              refine q_lcmp C dX12_reads_193 (n := 194) rfl (fun z34 h35 => ?_)
              have J_36 : zK w p e 2 0 0 s m args below meth c 6 T Po 206 [.ref (w.2.1 + a), zi v1, zi (M (a + 11) v1), zi u4, zi x20, .null] [] (T, M6, J7, R) := by
                refine q_aload_n C dX12_reads_206 (n := 207) rfl rfl ?_
                refine q_ldc2 C dX12_reads_207 (n := 210) rfl k_X12_565 ?_
                refine q_aload_n C dX12_reads_210 (n := 211) rfl rfl ?_
                refine q_getL C dX12_reads_211 (n := 214) rfl f_X12_559 (zM0 h0) (fun l38 => ?_)
                refine q_lmul C dX12_reads_214 (n := 215) rfl (fun l39 => ?_)
                refine q_iload C dX12_reads_215 (n := 217) rfl rfl ?_
                refine q_i2l C dX12_reads_217 (n := 218) rfl ?_
                refine q_ladd C dX12_reads_218 (n := 219) rfl (fun l40 => ?_)
                refine q_ldc2 C dX12_reads_219 (n := 222) rfl k_X12_567 ?_
                refine q_lsub C dX12_reads_222 (n := 223) rfl (fun l42 => ?_)
                refine q_putL C dX12_reads_223 (n := 226) rfl f_X12_559 (zM0 h0) ⟨rfl, rfl⟩ (fun J43 => ?_)
                refine q_iinc C [.ref (w.2.1 + a), zi v1, zi (M (a + 11) v1), zi (u4 + 1), zi x20, .null] dX12_reads_226 (n := 229) rfl rfl rfl rfl ?_
                refine q_goto C 152 dX12_reads_229 rfl ?_
                exact zK.weak (ih15 (u4 + 1) M6 J43 hI8 hK9 hK10 (by omega) (by omega) (by omega)) (zwk_c (zwk_c (zwk_c (zwk_c (zwk_n (zwk_n zwk_e))))))
              refine q_if_ne C 206 dX12_reads_194 (n := 197) rfl rfl (by omega) (fun h44 => ?_) (fun h44 => ?_)
              · exact zK.weak (J_36) (zwk_c (zwk_c (zwk_c (zwk_c (zwk_c (zwk_n zwk_e))))))
              · refine q_iload C dX12_reads_197 (n := 199) rfl rfl ?_
                refine q_bipush C dX12_reads_199 (n := 201) rfl (x := 55) (by decide) ?_
                refine q_icmp_le C 206 dX12_reads_201 (n := 204) rfl rfl (by omega) (fun h45 => ?_) (fun h45 => ?_)
                · exact zK.weak (J_36) (zwk_c (zwk_c (zwk_c (zwk_c (zwk_c (zwk_n zwk_e))))))
                · refine q_iconst C dX12_reads_204 (n := 205) rfl ?_
                  exact q_zret C dX12_reads_205 ⟨rfl, rfl⟩ (by omega) (by rw [hPo]; exact ⟨0, M6, J7, rfl, rfl, hI8, hK9, by omega⟩)
          · refine q_iconst C dX12_reads_173 (n := 174) rfl ?_
            exact q_zret C dX12_reads_174 ⟨rfl, rfl⟩ (by omega) (by rw [hPo]; exact ⟨0, M6, J7, rfl, rfl, hI8, hK9, by omega⟩)
    exact zK.weak (L_13 _ 0 M J1 hI hK0 (zMd.rf : zMd a [] [] [] M M) (by omega) (by omega) (Int.self_le_toNat _)) (zwk_c (zwk_c (zwk_c (zwk_c (zwk_n (zwk_n zwk_e))))))
  refine q_icmp_le C 150 dX12_reads_14 (n := 17) rfl rfl (by omega) (fun h46 => ?_) (fun h46 => ?_)
  · exact zK.weak (J_3) (zwk_c (zwk_c (zwk_c (zwk_n (zwk_n (zwk_n zwk_e))))))
  · refine q_aload_n C dX12_reads_17 (n := 18) rfl rfl ?_
    refine q_iload_n C dX12_reads_18 (n := 19) rfl rfl ?_
    refine q_iconst C dX12_reads_19 (n := 20) rfl ?_
    refine q_callVp C dX12_reads_20 (n := 23) rfl m_X12_370 v_yX12_byteIn (zM0 h0) ⟨by decide, rfl⟩ (c_X12_byteIn (w := w) (J := J1) hI hF h0 v1 0 (by omega) (by omega)) (Nat.le_of_ble_eq_true rfl) rfl rfl (Nat.le_of_ble_eq_true rfl) ⟨Nat.le_refl _, Nat.le_refl _⟩ (fun x49 h50 => ?_)
    obtain ⟨h47, h48⟩ := h50
    refine q_bipush C dX12_reads_23 (n := 25) rfl (x := 48) (by decide) ?_
    refine q_icmp_ne C 150 dX12_reads_25 (n := 28) rfl rfl (by omega) (fun h51 => ?_) (fun h51 => ?_)
    · exact zK.weak (J_3) (zwk_c (zwk_c (zwk_c (zwk_n (zwk_n (zwk_n zwk_e))))))
    · refine q_aload_n C dX12_reads_28 (n := 29) rfl rfl ?_
      refine q_iload_n C dX12_reads_29 (n := 30) rfl rfl ?_
      refine q_iconst C dX12_reads_30 (n := 31) rfl ?_
      refine q_callVp C dX12_reads_31 (n := 34) rfl m_X12_370 v_yX12_byteIn (zM0 h0) ⟨by decide, rfl⟩ (c_X12_byteIn (w := w) (J := J1) hI hF h0 v1 1 (by omega) (by omega)) (Nat.le_of_ble_eq_true rfl) rfl rfl (Nat.le_of_ble_eq_true rfl) ⟨Nat.le_refl _, Nat.le_refl _⟩ (fun x54 h55 => ?_)
      obtain ⟨h52, h53⟩ := h55
      refine q_bipush C dX12_reads_34 (n := 36) rfl (x := 120) (by decide) ?_
      refine q_icmp_ne C 150 dX12_reads_36 (n := 39) rfl rfl (by omega) (fun h56 => ?_) (fun h56 => ?_)
      · exact zK.weak (J_3) (zwk_c (zwk_c (zwk_c (zwk_n (zwk_n (zwk_n zwk_e))))))
      · refine q_iload_n C dX12_reads_39 (n := 40) rfl rfl ?_
        refine q_bipush C dX12_reads_40 (n := 42) rfl (x := 18) (by decide) ?_
        refine q_icmp_le C 47 dX12_reads_42 (n := 45) rfl rfl (by omega) (fun h57 => ?_) (fun h57 => ?_)
        · refine q_iconst C dX12_reads_47 (n := 48) rfl ?_
          refine q_istore_n C [.ref (w.2.1 + a), zi v1, zi (M (a + 11) v1), zi 2, .null, .null] dX12_reads_48 (n := 49) rfl rfl rfl ?_
          have L_67 : ∀ n68 : Nat, ∀ (u58 : Int) (M60 : zMm) (J61 : zJm), zI G M60 → zMd a [] [] [] M M60 → zMd a [] [] [] M M60 → (-2147483648 ≤ u58 ∧ u58 ≤ 2147483647) → (0 ≤ u58 ∧ u58 ≤ 30) → (30 - u58 + 1 ≤ (n68 : Int)) → zK w p e 2 0 0 s m args below meth c 6 T Po 49 [.ref (w.2.1 + a), zi v1, zi (M (a + 11) v1), zi u58, .null, .null] [] (T, M60, J61, R) := by
            intro n68
            induction n68 with
            | zero =>
              intro u58 M60 J61 hI62 hK63 hK64 h65 h66 hm70
              exfalso
              omega
            | succ n68 ih69 =>
              intro u58 M60 J61 hI62 hK63 hK64 h65 h66 hm70
              refine q_iload_n C dX12_reads_49 (n := 50) rfl rfl ?_
              refine q_iload_n C dX12_reads_50 (n := 51) rfl rfl ?_
              refine q_icmp_ge C 148 dX12_reads_51 (n := 54) rfl rfl (by omega) (fun h71 => ?_) (fun h71 => ?_)
              · refine q_iconst C dX12_reads_148 (n := 149) rfl ?_
                exact q_zret C dX12_reads_149 ⟨rfl, rfl⟩ (by omega) (by rw [hPo]; exact ⟨1, M60, J61, rfl, rfl, hI62, hK63, by omega⟩)
              · refine q_aload_n C dX12_reads_54 (n := 55) rfl rfl ?_
                refine q_iload_n C dX12_reads_55 (n := 56) rfl rfl ?_
                refine q_iload_n C dX12_reads_56 (n := 57) rfl rfl ?_
                refine q_callVp C dX12_reads_57 (n := 60) rfl m_X12_370 v_yX12_byteIn (zM0 h0) ⟨by decide, rfl⟩ (c_X12_byteIn (w := w) (J := J61) hI62 hF h0 v1 u58 (by omega) (by omega)) (Nat.le_of_ble_eq_true rfl) rfl rfl (Nat.le_of_ble_eq_true rfl) ⟨Nat.le_refl _, Nat.le_refl _⟩ (fun x74 h75 => ?_)
                obtain ⟨h72, h73⟩ := h75
                refine q_istore C [.ref (w.2.1 + a), zi v1, zi (M (a + 11) v1), zi u58, zi x74, .null] dX12_reads_60 (n := 62) rfl rfl rfl ?_
                refine q_iload C dX12_reads_62 (n := 64) rfl rfl ?_
                refine q_callSp C dX12_reads_64 (n := 67) rfl m_X12_307 s_yX12_isDigit (c_X12_isDigit (w := w) (J := J61) hI62 hF x74 (by omega)) (Nat.le_of_ble_eq_true rfl) rfl rfl (Nat.le_of_ble_eq_true rfl) ⟨Nat.le_refl _, Nat.le_refl _⟩ (fun x78 h79 => ?_)
                obtain ⟨h76, h77⟩ := h79
                have J_82 : ∀ (u80 : Int), (-2147483648 ≤ u80 ∧ u80 ≤ 2147483647) → zK w p e 2 0 0 s m args below meth c 6 T Po 119 [.ref (w.2.1 + a), zi v1, zi (M (a + 11) v1), zi u58, .null, .null] [zi u80] (T, M60, J61, R) := by
                  intro u80 h81
                  refine q_istore C [.ref (w.2.1 + a), zi v1, zi (M (a + 11) v1), zi u58, .null, zi u80] dX12_reads_119 (n := 121) rfl rfl rfl ?_
                  refine q_iload C dX12_reads_121 (n := 123) rfl rfl ?_
                  refine q_if_ge C 128 dX12_reads_123 (n := 126) rfl rfl (by omega) (fun h83 => ?_) (fun h83 => ?_)
                  · refine q_aload_n C dX12_reads_128 (n := 129) rfl rfl ?_
                    refine q_aload_n C dX12_reads_129 (n := 130) rfl rfl ?_
                    refine q_getL C dX12_reads_130 (n := 133) rfl f_X12_559 (zM0 h0) (fun l84 => ?_)
                    refine q_iconst C dX12_reads_133 (n := 134) rfl ?_
                    refine q_lshl C dX12_reads_134 (n := 135) rfl (fun l85 => ?_)
                    refine q_iload C dX12_reads_135 (n := 137) rfl rfl ?_
                    refine q_i2l C dX12_reads_137 (n := 138) rfl ?_
                    refine q_lor C dX12_reads_138 (n := 139) rfl (fun l86 => ?_)
                    refine q_putL C dX12_reads_139 (n := 142) rfl f_X12_559 (zM0 h0) ⟨rfl, rfl⟩ (fun J87 => ?_)
                    refine q_iinc C [.ref (w.2.1 + a), zi v1, zi (M (a + 11) v1), zi (u58 + 1), .null, zi u80] dX12_reads_142 (n := 145) rfl rfl rfl rfl ?_
                    refine q_goto C 49 dX12_reads_145 rfl ?_
                    exact zK.weak (ih69 (u58 + 1) M60 J87 hI62 hK63 hK64 (by omega) (by omega) (by omega)) (zwk_c (zwk_c (zwk_c (zwk_c (zwk_n (zwk_n zwk_e))))))
                  · refine q_iconst C dX12_reads_126 (n := 127) rfl ?_
                    exact q_zret C dX12_reads_127 ⟨rfl, rfl⟩ (by omega) (by rw [hPo]; exact ⟨0, M60, J61, rfl, rfl, hI62, hK63, by omega⟩)
                refine q_if_eq C 78 dX12_reads_67 (n := 70) rfl rfl (by omega) (fun h88 => ?_) (fun h88 => ?_)
                · refine q_iload C dX12_reads_78 (n := 80) rfl rfl ?_
                  refine q_bipush C dX12_reads_80 (n := 82) rfl (x := 97) (by decide) ?_
                  refine q_bipush C dX12_reads_82 (n := 84) rfl (x := 102) (by decide) ?_
                  refine q_callSp C dX12_reads_84 (n := 87) rfl m_X12_277 s_yX12_isIn (c_X12_isIn (w := w) (J := J61) hI62 hF x74 97 102 (by omega) (by omega) (by omega)) (Nat.le_of_ble_eq_true rfl) rfl rfl (Nat.le_of_ble_eq_true rfl) ⟨Nat.le_refl _, Nat.le_refl _⟩ (fun x92 h93 => ?_)
                  obtain ⟨h89, h90, h91⟩ := h93
                  refine q_if_eq C 98 dX12_reads_87 (n := 90) rfl rfl (by omega) (fun h94 => ?_) (fun h94 => ?_)
                  · refine q_iload C dX12_reads_98 (n := 100) rfl rfl ?_
                    refine q_bipush C dX12_reads_100 (n := 102) rfl (x := 65) (by decide) ?_
                    refine q_bipush C dX12_reads_102 (n := 104) rfl (x := 70) (by decide) ?_
                    refine q_callSp C dX12_reads_104 (n := 107) rfl m_X12_277 s_yX12_isIn (c_X12_isIn (w := w) (J := J61) hI62 hF x74 65 70 (by omega) (by omega) (by omega)) (Nat.le_of_ble_eq_true rfl) rfl rfl (Nat.le_of_ble_eq_true rfl) ⟨Nat.le_refl _, Nat.le_refl _⟩ (fun x98 h99 => ?_)
                    obtain ⟨h95, h96, h97⟩ := h99
                    refine q_if_eq C 118 dX12_reads_107 (n := 110) rfl rfl (by omega) (fun h100 => ?_) (fun h100 => ?_)
                    · refine q_iconst C dX12_reads_118 (n := 119) rfl ?_
                      exact zK.weak (J_82 (-1) (by omega)) (zwk_c (zwk_c (zwk_c (zwk_c (zwk_n (zwk_n zwk_e))))))
                    · refine q_iload C dX12_reads_110 (n := 112) rfl rfl ?_
                      refine q_bipush C dX12_reads_112 (n := 114) rfl (x := 55) (by decide) ?_
                      refine q_isub C dX12_reads_114 (n := 115) rfl (v := x74 - 55) rfl ?_
                      refine q_goto C 119 dX12_reads_115 rfl ?_
                      exact zK.weak (J_82 (x74 - 55) (by omega)) (zwk_c (zwk_c (zwk_c (zwk_c (zwk_n (zwk_n zwk_e))))))
                  · refine q_iload C dX12_reads_90 (n := 92) rfl rfl ?_
                    refine q_bipush C dX12_reads_92 (n := 94) rfl (x := 87) (by decide) ?_
                    refine q_isub C dX12_reads_94 (n := 95) rfl (v := x74 - 87) rfl ?_
                    refine q_goto C 119 dX12_reads_95 rfl ?_
                    exact zK.weak (J_82 (x74 - 87) (by omega)) (zwk_c (zwk_c (zwk_c (zwk_c (zwk_n (zwk_n zwk_e))))))
                · refine q_iload C dX12_reads_70 (n := 72) rfl rfl ?_
                  refine q_bipush C dX12_reads_72 (n := 74) rfl (x := 48) (by decide) ?_
                  refine q_isub C dX12_reads_74 (n := 75) rfl (v := x74 - 48) rfl ?_
                  refine q_goto C 119 dX12_reads_75 rfl ?_
                  exact zK.weak (J_82 (x74 - 48) (by omega)) (zwk_c (zwk_c (zwk_c (zwk_c (zwk_n (zwk_n zwk_e))))))
          exact zK.weak (L_67 _ 2 M J1 hI hK0 (zMd.rf : zMd a [] [] [] M M) (by omega) (by omega) (Int.self_le_toNat _)) (zwk_c (zwk_c (zwk_c (zwk_c (zwk_n (zwk_n zwk_e))))))
        · refine q_iconst C dX12_reads_45 (n := 46) rfl ?_
          exact q_zret C dX12_reads_46 ⟨rfl, rfl⟩ (by omega) (by rw [hPo]; exact ⟨0, M, J1, rfl, rfl, hI, hK0, by omega⟩)
theorem c_X12_aheadOf {w : zWp} {T : zTl} {M : zMm} {J : zJm} {R : zRm'} {G : zGt} {F : zRm'} {a : Nat} (hI : zI G M) (hF : zF F R) (h0 : zModel T F G a) (v1 : Int) (p1 : 0 ≤ v1 ∧ v1 ≤ 3499) : zCt w 3 0 0 yX12_aheadOf cX12_aheadOf 2 (some .int) [.ref (w.2.1 + a), zi v1] (T, M, J, R) (zPp T M J R (fun x => (x = -1 ∨ 20 ≤ x ∧ x < 24))) := by
  refine zCt.of rfl (Nat.le_of_ble_eq_true rfl) ?_
  intro p e s m args below meth c C
  obtain ⟨Po, hPo⟩ : ∃ Po, Po = zPp T M J R (fun x => (x = -1 ∨ 20 ≤ x ∧ x < 24)) := ⟨_, rfl⟩
  rw [← hPo]
  show zK w p e 3 0 0 s m args below meth c 2 T Po 0 [.ref (w.2.1 + a), zi v1] [] (T, M, J, R)
  refine q_aload_n C dX12_aheadOf_0 (n := 1) rfl rfl ?_
  refine q_iload_n C dX12_aheadOf_1 (n := 2) rfl rfl ?_
  refine q_bipush C dX12_aheadOf_2 (n := 4) rfl (x := 33) (by decide) ?_
  refine q_callVp C dX12_aheadOf_4 (n := 7) rfl m_X12_406 v_yX12_isSign (zM0 h0) ⟨by decide, rfl⟩ (c_X12_isSign (w := w) (J := J) hI hF h0 v1 33 (by omega) (by omega)) (Nat.le_of_ble_eq_true rfl) rfl rfl (Nat.le_of_ble_eq_true rfl) ⟨Nat.le_refl _, Nat.le_refl _⟩ (fun x4 h5 => ?_)
  obtain ⟨h1, h2, h3⟩ := h5
  refine q_if_eq C 15 dX12_aheadOf_7 (n := 10) rfl rfl (by omega) (fun h6 => ?_) (fun h6 => ?_)
  · refine q_aload_n C dX12_aheadOf_15 (n := 16) rfl rfl ?_
    refine q_iload_n C dX12_aheadOf_16 (n := 17) rfl rfl ?_
    refine q_bipush C dX12_aheadOf_17 (n := 19) rfl (x := 126) (by decide) ?_
    refine q_callVp C dX12_aheadOf_19 (n := 22) rfl m_X12_406 v_yX12_isSign (zM0 h0) ⟨by decide, rfl⟩ (c_X12_isSign (w := w) (J := J) hI hF h0 v1 126 (by omega) (by omega)) (Nat.le_of_ble_eq_true rfl) rfl rfl (Nat.le_of_ble_eq_true rfl) ⟨Nat.le_refl _, Nat.le_refl _⟩ (fun x10 h11 => ?_)
    obtain ⟨h7, h8, h9⟩ := h11
    refine q_if_eq C 30 dX12_aheadOf_22 (n := 25) rfl rfl (by omega) (fun h12 => ?_) (fun h12 => ?_)
    · refine q_aload_n C dX12_aheadOf_30 (n := 31) rfl rfl ?_
      refine q_iload_n C dX12_aheadOf_31 (n := 32) rfl rfl ?_
      refine q_bipush C dX12_aheadOf_32 (n := 34) rfl (x := 45) (by decide) ?_
      refine q_callVp C dX12_aheadOf_34 (n := 37) rfl m_X12_406 v_yX12_isSign (zM0 h0) ⟨by decide, rfl⟩ (c_X12_isSign (w := w) (J := J) hI hF h0 v1 45 (by omega) (by omega)) (Nat.le_of_ble_eq_true rfl) rfl rfl (Nat.le_of_ble_eq_true rfl) ⟨Nat.le_refl _, Nat.le_refl _⟩ (fun x16 h17 => ?_)
      obtain ⟨h13, h14, h15⟩ := h17
      refine q_if_eq C 45 dX12_aheadOf_37 (n := 40) rfl rfl (by omega) (fun h18 => ?_) (fun h18 => ?_)
      · refine q_aload_n C dX12_aheadOf_45 (n := 46) rfl rfl ?_
        refine q_iload_n C dX12_aheadOf_46 (n := 47) rfl rfl ?_
        refine q_bipush C dX12_aheadOf_47 (n := 49) rfl (x := 43) (by decide) ?_
        refine q_callVp C dX12_aheadOf_49 (n := 52) rfl m_X12_406 v_yX12_isSign (zM0 h0) ⟨by decide, rfl⟩ (c_X12_isSign (w := w) (J := J) hI hF h0 v1 43 (by omega) (by omega)) (Nat.le_of_ble_eq_true rfl) rfl rfl (Nat.le_of_ble_eq_true rfl) ⟨Nat.le_refl _, Nat.le_refl _⟩ (fun x22 h23 => ?_)
        obtain ⟨h19, h20, h21⟩ := h23
        refine q_if_eq C 60 dX12_aheadOf_52 (n := 55) rfl rfl (by omega) (fun h24 => ?_) (fun h24 => ?_)
        · refine q_iconst C dX12_aheadOf_60 (n := 61) rfl ?_
          exact q_iret C dX12_aheadOf_61 ⟨rfl, rfl⟩ (by rw [hPo]; exact ⟨(-1), rfl, rfl, by omega⟩)
        · refine q_bipush C dX12_aheadOf_55 (n := 57) rfl (x := 23) (by decide) ?_
          refine q_goto C 61 dX12_aheadOf_57 rfl ?_
          exact q_iret C dX12_aheadOf_61 ⟨rfl, rfl⟩ (by rw [hPo]; exact ⟨23, rfl, rfl, by omega⟩)
      · refine q_bipush C dX12_aheadOf_40 (n := 42) rfl (x := 22) (by decide) ?_
        refine q_goto C 61 dX12_aheadOf_42 rfl ?_
        exact q_iret C dX12_aheadOf_61 ⟨rfl, rfl⟩ (by rw [hPo]; exact ⟨22, rfl, rfl, by omega⟩)
    · refine q_bipush C dX12_aheadOf_25 (n := 27) rfl (x := 21) (by decide) ?_
      refine q_goto C 61 dX12_aheadOf_27 rfl ?_
      exact q_iret C dX12_aheadOf_61 ⟨rfl, rfl⟩ (by rw [hPo]; exact ⟨21, rfl, rfl, by omega⟩)
  · refine q_bipush C dX12_aheadOf_10 (n := 12) rfl (x := 20) (by decide) ?_
    refine q_goto C 61 dX12_aheadOf_12 rfl ?_
    exact q_iret C dX12_aheadOf_61 ⟨rfl, rfl⟩ (by rw [hPo]; exact ⟨20, rfl, rfl, by omega⟩)
