theorem c_X3_numberOf {w : zWp} {T : zTl} {M : zMm} {J : zJm} {R : zRm'} {G : zGt} {F : zRm'} {a t q L : Nat} (hI : zI G M) (hF : zF F R) (h0 : zMacros T F G a t q L) (v1 : Int) (v2 : Int) (p1 : L ≤ 1000000) (p2 : 0 ≤ v1 ∧ v1 ≤ 1000000) (p3 : 0 ≤ v2 ∧ v2 ≤ 1000000) : zCt w 2 0 0 yX3_numberOf cX3_numberOf 4 (some .int) [.ref (w.2.1 + a), zi v1, zi v2] (T, M, J, R) (zPp T M J R (fun x => (-1 ≤ x ∧ x ≤ 11))) := by
  refine zCt.of rfl (Nat.le_of_ble_eq_true rfl) ?_
  intro p e s m args below meth c C
  obtain ⟨Po, hPo⟩ : ∃ Po, Po = zPp T M J R (fun x => (-1 ≤ x ∧ x ≤ 11)) := ⟨_, rfl⟩
  rw [← hPo]
  show zK w p e 2 0 0 s m args below meth c 4 T Po 0 [.ref (w.2.1 + a), zi v1, zi v2, .null] [] (T, M, J, R)
  refine q_iconst C dX3_numberOf_0 (n := 1) rfl ?_
  refine q_istore_n C [.ref (w.2.1 + a), zi v1, zi v2, zi 0] dX3_numberOf_1 (n := 2) rfl rfl rfl ?_
  have L_4 : ∀ n5 : Nat, ∀ (u1 : Int), (-2147483648 ≤ u1 ∧ u1 ≤ 2147483647) → (0 ≤ u1 ∧ u1 ≤ 12) → (12 - u1 + 1 ≤ (n5 : Int)) → zK w p e 2 0 0 s m args below meth c 4 T Po 2 [.ref (w.2.1 + a), zi v1, zi v2, zi u1] [] (T, M, J, R) := by
    intro n5
    induction n5 with
    | zero =>
      intro u1 h2 h3 hm7
      exfalso
      omega
    | succ n5 ih6 =>
      intro u1 h2 h3 hm7
      refine q_iload_n C dX3_numberOf_2 (n := 3) rfl rfl ?_
      refine q_aload_n C dX3_numberOf_3 (n := 4) rfl rfl ?_
      have g8 := zI.at hI h0.2.1
      refine q_getI C dX3_numberOf_4 (n := 7) rfl f_X3_9 h0.1 (v := M a 0) rfl ?_
      refine q_icmp_ge C 55 dX3_numberOf_7 (n := 10) rfl rfl (by omega) (fun h9 => ?_) (fun h9 => ?_)
      · refine q_iconst C dX3_numberOf_55 (n := 56) rfl ?_
        exact q_iret C dX3_numberOf_56 ⟨rfl, rfl⟩ (by rw [hPo]; exact ⟨(-1), rfl, rfl, by omega⟩)
      · refine q_iload_n C dX3_numberOf_10 (n := 11) rfl rfl ?_
        refine q_bipush C dX3_numberOf_11 (n := 13) rfl (x := 12) (by decide) ?_
        refine q_icmp_ge C 55 dX3_numberOf_13 (n := 16) rfl rfl (by omega) (fun h10 => ?_) (fun h10 => ?_)
        · refine q_iconst C dX3_numberOf_55 (n := 56) rfl ?_
          exact q_iret C dX3_numberOf_56 ⟨rfl, rfl⟩ (by rw [hPo]; exact ⟨(-1), rfl, rfl, by omega⟩)
        · refine q_aload_n C dX3_numberOf_16 (n := 17) rfl rfl ?_
          refine q_getR C dX3_numberOf_17 (n := 20) rfl f_X3_19 h0.1 (hF _ _ _ h0.2.2.2.2.2.1) ?_
          refine q_iload_n C dX3_numberOf_20 (n := 21) rfl rfl ?_
          have g11 := zI.at hI (h0.2.2.2.2.2.2.2.1 u1)
          refine q_iald C dX3_numberOf_21 (n := 22) rfl h0.2.2.2.2.2.2.1 (by omega) (v := M (a + 2) u1) rfl ?_
          refine q_iload_n C dX3_numberOf_22 (n := 23) rfl rfl ?_
          have J_12 : zK w p e 2 0 0 s m args below meth c 4 T Po 49 [.ref (w.2.1 + a), zi v1, zi v2, zi u1] [] (T, M, J, R) := by
            refine q_iinc C [.ref (w.2.1 + a), zi v1, zi v2, zi (u1 + 1)] dX3_numberOf_49 (n := 52) rfl rfl rfl rfl ?_
            refine q_goto C 2 dX3_numberOf_52 rfl ?_
            exact zK.weak (ih6 (u1 + 1) (by omega) (by omega) (by omega)) (zwk_c (zwk_c (zwk_c (zwk_c zwk_e))))
          refine q_icmp_ne C 49 dX3_numberOf_23 (n := 26) rfl rfl (by omega) (fun h13 => ?_) (fun h13 => ?_)
          · exact zK.weak (J_12) (zwk_c (zwk_c (zwk_c (zwk_c zwk_e))))
          · refine q_aload_n C dX3_numberOf_26 (n := 27) rfl rfl ?_
            refine q_getR C dX3_numberOf_27 (n := 30) rfl f_X3_62 h0.1 (hF _ _ _ h0.2.2.2.2.2.2.2.2.2.2.2.2.2.2.2.2.2.2.2.2.2.2.2.2.2.2.2.2.2.2.2.2.2.2.2.2.2.2.2.2.2.1) ?_
            refine q_getR C dX3_numberOf_30 (n := 33) rfl f_X3_70 h0.2.2.2.2.2.2.2.2.2.2.2.2.2.2.2.2.2.2.2.2.2.2.2.2.2.2.2.2.2.2.2.2.2.2.2.2.2.2.2.2.2.2.1.1 (hF _ _ _ h0.2.2.2.2.2.2.2.2.2.2.2.2.2.2.2.2.2.2.2.2.2.2.2.2.2.2.2.2.2.2.2.2.2.2.2.2.2.2.2.2.2.2.1.2.1) ?_
            refine q_iload_n C dX3_numberOf_33 (n := 34) rfl rfl ?_
            refine q_aload_n C dX3_numberOf_34 (n := 35) rfl rfl ?_
            refine q_getR C dX3_numberOf_35 (n := 38) rfl f_X3_15 h0.1 (hF _ _ _ h0.2.2.1) ?_
            refine q_iload_n C dX3_numberOf_38 (n := 39) rfl rfl ?_
            have g14 := zI.at hI (h0.2.2.2.2.1 u1)
            refine q_iald C dX3_numberOf_39 (n := 40) rfl h0.2.2.2.1 (by omega) (v := M (a + 1) u1) rfl ?_
            refine q_iload_n C dX3_numberOf_40 (n := 41) rfl rfl ?_
            refine q_callSp C dX3_numberOf_41 (n := 44) rfl m_X3_76 s_yX10_isAlike (c_X10_isAlike (w := w) (J := J) hI hF h0.2.2.2.2.2.2.2.2.2.2.2.2.2.2.2.2.2.2.2.2.2.2.2.2.2.2.2.2.2.2.2.2.2.2.2.2.2.2.2.2.2.2.1.2.2.1 h0.2.2.2.2.2.2.2.2.2.2.2.2.2.2.2.2.2.2.2.2.2.2.2.2.2.2.2.2.2.2.2.2.2.2.2.2.2.2.2.2.2.2.1.2.2.2.1 v1 (M (a + 1) u1) v2 (by omega) (by omega) (by omega) (by omega)) (Nat.le_of_ble_eq_true rfl) rfl rfl (Nat.le_of_ble_eq_true rfl) ⟨Nat.le_refl _, Nat.le_refl _⟩ (fun x16 h17 => ?_)
            refine q_if_eq C 49 dX3_numberOf_44 (n := 47) rfl rfl (by omega) (fun h18 => ?_) (fun h18 => ?_)
            · exact zK.weak (J_12) (zwk_c (zwk_c (zwk_c (zwk_c zwk_e))))
            · refine q_iload_n C dX3_numberOf_47 (n := 48) rfl rfl ?_
              exact q_iret C dX3_numberOf_48 ⟨rfl, rfl⟩ (by rw [hPo]; exact ⟨u1, rfl, rfl, by omega⟩)
  exact zK.weak (L_4 _ 0 (by omega) (by omega) (Int.self_le_toNat _)) (zwk_c (zwk_c (zwk_c (zwk_c zwk_e))))
theorem c_X3_standing {w : zWp} {T : zTl} {M : zMm} {J : zJm} {R : zRm'} {G : zGt} {F : zRm'} {a t q L : Nat} (hI : zI G M) (hF : zF F R) (h0 : zMacros T F G a t q L) (v1 : Int) (v2 : Int) (p1 : L ≤ 1000000) (p2 : 0 ≤ v1 ∧ v1 ≤ 1000000) (p3 : 0 ≤ v2 ∧ v2 ≤ 1000000) : zCt w 3 0 0 yX3_standing cX3_standing 4 (some .int) [.ref (w.2.1 + a), zi v1, zi v2] (T, M, J, R) (zPp T M J R (fun x => (-1 ≤ x ∧ x ≤ 11))) := by
  refine zCt.of rfl (Nat.le_of_ble_eq_true rfl) ?_
  intro p e s m args below meth c C
  obtain ⟨Po, hPo⟩ : ∃ Po, Po = zPp T M J R (fun x => (-1 ≤ x ∧ x ≤ 11)) := ⟨_, rfl⟩
  rw [← hPo]
  show zK w p e 3 0 0 s m args below meth c 4 T Po 0 [.ref (w.2.1 + a), zi v1, zi v2, .null] [] (T, M, J, R)
  refine q_aload_n C dX3_standing_0 (n := 1) rfl rfl ?_
  refine q_iload_n C dX3_standing_1 (n := 2) rfl rfl ?_
  refine q_iload_n C dX3_standing_2 (n := 3) rfl rfl ?_
  refine q_callVp C dX3_standing_3 (n := 6) rfl m_X3_80 v_yX3_numberOf h0.1 ⟨by decide, rfl⟩ (c_X3_numberOf (w := w) (J := J) hI hF h0 v1 v2 (by omega) (by omega) (by omega)) (Nat.le_of_ble_eq_true rfl) rfl rfl (Nat.le_of_ble_eq_true rfl) ⟨Nat.le_refl _, Nat.le_refl _⟩ (fun x2 h3 => ?_)
  refine q_istore_n C [.ref (w.2.1 + a), zi v1, zi v2, zi x2] dX3_standing_6 (n := 7) rfl rfl rfl ?_
  refine q_iload_n C dX3_standing_7 (n := 8) rfl rfl ?_
  refine q_iconst C dX3_standing_8 (n := 9) rfl ?_
  refine q_icmp_eq C 25 dX3_standing_9 (n := 12) rfl rfl (by omega) (fun h4 => ?_) (fun h4 => ?_)
  · refine q_iconst C dX3_standing_25 (n := 26) rfl ?_
    exact q_iret C dX3_standing_26 ⟨rfl, rfl⟩ (by rw [hPo]; exact ⟨(-1), rfl, rfl, by omega⟩)
  · refine q_aload_n C dX3_standing_12 (n := 13) rfl rfl ?_
    refine q_getR C dX3_standing_13 (n := 16) rfl f_X3_22 h0.1 (hF _ _ _ h0.2.2.2.2.2.2.2.2.1) ?_
    refine q_iload_n C dX3_standing_16 (n := 17) rfl rfl ?_
    have g5 := zI.at hI (h0.2.2.2.2.2.2.2.2.2.2.1 x2)
    refine q_zald C dX3_standing_17 (n := 18) rfl h0.2.2.2.2.2.2.2.2.2.1 (by omega) (v := M (a + 3) x2) rfl ?_
    refine q_if_eq C 25 dX3_standing_18 (n := 21) rfl rfl (by omega) (fun h6 => ?_) (fun h6 => ?_)
    · refine q_iconst C dX3_standing_25 (n := 26) rfl ?_
      exact q_iret C dX3_standing_26 ⟨rfl, rfl⟩ (by rw [hPo]; exact ⟨(-1), rfl, rfl, by omega⟩)
    · refine q_iload_n C dX3_standing_21 (n := 22) rfl rfl ?_
      refine q_goto C 26 dX3_standing_22 rfl ?_
      exact q_iret C dX3_standing_26 ⟨rfl, rfl⟩ (by rw [hPo]; exact ⟨x2, rfl, rfl, by omega⟩)
theorem c_X3_enter {w : zWp} {T : zTl} {M : zMm} {J : zJm} {R : zRm'} {G : zGt} {F : zRm'} {a t q L : Nat} (hI : zI G M) (hF : zF F R) (h0 : zMacros T F G a t q L) (v1 : Int) (v2 : Int) (v3 : Int) (p1 : 0 ≤ v1 ∧ v1 ≤ 11) (p2 : 0 ≤ v2 ∧ v2 ≤ L) (p3 : 0 ≤ v3 ∧ v3 ≤ 31) : zCt w 1 0 0 yX3_enter cX3_enter 4 none [.ref (w.2.1 + a), zi v1, zi v2, zi v3] (T, M, J, R) (zPv T R G (fun M2 => (zKp G 1 M M2))) := by
  refine zCt.of rfl (Nat.le_of_ble_eq_true rfl) ?_
  intro p e s m args below meth c C
  obtain ⟨Po, hPo⟩ : ∃ Po, Po = zPv T R G (fun M2 => (zKp G 1 M M2)) := ⟨_, rfl⟩
  rw [← hPo]
  have hK0 : zKp G 1 M M := zKp.rf
  show zK w p e 1 0 0 s m args below meth c 4 T Po 0 [.ref (w.2.1 + a), zi v1, zi v2, zi v3] [] (T, M, J, R)
  refine q_iload_n C dX3_enter_0 (n := 1) rfl rfl ?_
  refine q_aload_n C dX3_enter_1 (n := 2) rfl rfl ?_
  have g1 := zI.at hI h0.2.1
  refine q_getI C dX3_enter_2 (n := 5) rfl f_X3_9 h0.1 (v := M a 0) rfl ?_
  have J_6 : ∀ (M2 : zMm) (J3 : zJm), zI G M2 → zKp G 1 M M2 → zK w p e 1 0 0 s m args below meth c 4 T Po 25 [.ref (w.2.1 + a), zi v1, zi v2, zi v3] [] (T, M2, J3, R) := by
    intro M2 J3 hI4 hK5
    refine q_aload_n C dX3_enter_25 (n := 26) rfl rfl ?_
    refine q_getR C dX3_enter_26 (n := 29) rfl f_X3_15 h0.1 (hF _ _ _ h0.2.2.1) ?_
    refine q_iload_n C dX3_enter_29 (n := 30) rfl rfl ?_
    refine q_iload_n C dX3_enter_30 (n := 31) rfl rfl ?_
    refine q_iast C dX3_enter_31 (n := 32) rfl h0.2.2.2.1 (by omega)  (fun M7 e8 => ?_)
    have hI9 : zI G M7 := hI4.put e8 (h0.2.2.2.2.1 v1) rfl (by omega)
    have hK10 := hK5.put e8 (h0.2.2.2.2.1 v1) (by decide)
    refine q_aload_n C dX3_enter_32 (n := 33) rfl rfl ?_
    refine q_getR C dX3_enter_33 (n := 36) rfl f_X3_19 h0.1 (hF _ _ _ h0.2.2.2.2.2.1) ?_
    refine q_iload_n C dX3_enter_36 (n := 37) rfl rfl ?_
    refine q_iload_n C dX3_enter_37 (n := 38) rfl rfl ?_
    refine q_iast C dX3_enter_38 (n := 39) rfl h0.2.2.2.2.2.2.1 (by omega)  (fun M11 e12 => ?_)
    have hI13 : zI G M11 := hI9.put e12 (h0.2.2.2.2.2.2.2.1 v1) rfl (by omega)
    have hK14 := hK10.put e12 (h0.2.2.2.2.2.2.2.1 v1) (by decide)
    exact q_vret C dX3_enter_39 ⟨rfl, rfl⟩ (by rw [hPo]; exact ⟨M11, J3, rfl, rfl, hI13, hK14⟩)
  refine q_icmp_ne C 25 dX3_enter_5 (n := 8) rfl rfl (by omega) (fun h15 => ?_) (fun h15 => ?_)
  · exact zK.weak (J_6 M J hI hK0) (zwk_c (zwk_c (zwk_c (zwk_c zwk_e))))
  · refine q_aload_n C dX3_enter_8 (n := 9) rfl rfl ?_
    refine q_dup C dX3_enter_9 (n := 10) rfl rfl ?_
    refine q_getI C dX3_enter_10 (n := 13) rfl f_X3_9 h0.1 (v := M a 0) rfl ?_
    refine q_iconst C dX3_enter_13 (n := 14) rfl ?_
    refine q_iadd C dX3_enter_14 (n := 15) rfl (v := (M a 0) + 1) rfl ?_
    refine q_putI C dX3_enter_15 (n := 18) rfl f_X3_9 h0.1 ⟨rfl, rfl⟩ (fun M16 (e17 : M16 = zup M a 0 ((M a 0) + 1)) => ?_)
    have hI18 : zI G M16 := hI.put e17 h0.2.1 rfl (by omega)
    have hK19 := hK0.put e17 h0.2.1 (by decide)
    refine q_aload_n C dX3_enter_18 (n := 19) rfl rfl ?_
    refine q_getR C dX3_enter_19 (n := 22) rfl f_X3_38 h0.1 (hF _ _ _ h0.2.2.2.2.2.2.2.2.2.2.2.2.2.2.2.2.2.2.2.2.2.2.2.1) ?_
    refine q_iload_n C dX3_enter_22 (n := 23) rfl rfl ?_
    refine q_iconst C dX3_enter_23 (n := 24) rfl ?_
    refine q_iast C dX3_enter_24 (n := 25) rfl h0.2.2.2.2.2.2.2.2.2.2.2.2.2.2.2.2.2.2.2.2.2.2.2.2.1 (by omega)  (fun M20 e21 => ?_)
    have hI22 : zI G M20 := hI18.put e21 (h0.2.2.2.2.2.2.2.2.2.2.2.2.2.2.2.2.2.2.2.2.2.2.2.2.2.1 v1) rfl (by omega)
    have hK23 := hK19.put e21 (h0.2.2.2.2.2.2.2.2.2.2.2.2.2.2.2.2.2.2.2.2.2.2.2.2.2.1 v1) (by decide)
    exact zK.weak (J_6 M20 J hI22 hK23) (zwk_c (zwk_c (zwk_c (zwk_c zwk_e))))
theorem c_X3_addItem {w : zWp} {T : zTl} {M : zMm} {J : zJm} {R : zRm'} {G : zGt} {F : zRm'} {a t q L : Nat} (hI : zI G M) (hF : zF F R) (h0 : zMacros T F G a t q L) (v1 : Int) (v2 : Int) (v3 : Int) (v4 : Int) (v5 : Int) (p1 : 0 ≤ v1 ∧ v1 ≤ 11) (p2 : -2147483648 ≤ v2 ∧ v2 ≤ 2147483647) (p3 : -2147483648 ≤ v3 ∧ v3 ≤ 2147483647) (p4 : 0 ≤ v4 ∧ v4 + zand v5 31 ≤ L ∧ zand v5 31 ≤ 30) (p5 : -2147483648 ≤ v5 ∧ v5 ≤ 2147483647) : zCt w 1 0 0 yX3_addItem cX3_addItem 7 none [.ref (w.2.1 + a), zi v1, zi v2, zi v3, zi v4, zi v5] (T, M, J, R) (zPv T R G (fun M2 => (zKp G 4 M M2))) := by
  refine zCt.of rfl (Nat.le_of_ble_eq_true rfl) ?_
  intro p e s m args below meth c C
  obtain ⟨Po, hPo⟩ : ∃ Po, Po = zPv T R G (fun M2 => (zKp G 4 M M2)) := ⟨_, rfl⟩
  rw [← hPo]
  have hK0 : zKp G 4 M M := zKp.rf
  show zK w p e 1 0 0 s m args below meth c 7 T Po 0 [.ref (w.2.1 + a), zi v1, zi v2, zi v3, zi v4, zi v5, .null] [] (T, M, J, R)
  refine q_iload_n C dX3_addItem_0 (n := 1) rfl rfl ?_
  refine q_bipush C dX3_addItem_1 (n := 3) rfl (x := 20) (by decide) ?_
  refine q_imul C dX3_addItem_3 (n := 4) rfl (v := v1 * 20) rfl ?_
  refine q_aload_n C dX3_addItem_4 (n := 5) rfl rfl ?_
  refine q_getR C dX3_addItem_5 (n := 8) rfl f_X3_41 h0.1 (hF _ _ _ h0.2.2.2.2.2.2.2.2.2.2.2.2.2.2.2.2.2.2.2.2.2.2.2.2.2.2.1) ?_
  refine q_iload_n C dX3_addItem_8 (n := 9) rfl rfl ?_
  have g1 := zI.at hI (h0.2.2.2.2.2.2.2.2.2.2.2.2.2.2.2.2.2.2.2.2.2.2.2.2.2.2.2.2.1 v1)
  refine q_iald C dX3_addItem_9 (n := 10) rfl h0.2.2.2.2.2.2.2.2.2.2.2.2.2.2.2.2.2.2.2.2.2.2.2.2.2.2.2.1 (by omega) (v := M (a + 9) v1) rfl ?_
  refine q_iadd C dX3_addItem_10 (n := 11) rfl (v := (v1 * 20) + (M (a + 9) v1)) rfl ?_
  refine q_istore C [.ref (w.2.1 + a), zi v1, zi v2, zi v3, zi v4, zi v5, zi ((v1 * 20) + (M (a + 9) v1))] dX3_addItem_11 (n := 13) rfl rfl rfl ?_
  refine q_aload_n C dX3_addItem_13 (n := 14) rfl rfl ?_
  refine q_getR C dX3_addItem_14 (n := 17) rfl f_X3_41 h0.1 (hF _ _ _ h0.2.2.2.2.2.2.2.2.2.2.2.2.2.2.2.2.2.2.2.2.2.2.2.2.2.2.1) ?_
  refine q_iload_n C dX3_addItem_17 (n := 18) rfl rfl ?_
  refine q_iald C dX3_addItem_18 (n := 19) rfl h0.2.2.2.2.2.2.2.2.2.2.2.2.2.2.2.2.2.2.2.2.2.2.2.2.2.2.2.1 (by omega) (v := M (a + 9) v1) rfl ?_
  refine q_bipush C dX3_addItem_19 (n := 21) rfl (x := 20) (by decide) ?_
  refine q_icmp_ge C 78 dX3_addItem_21 (n := 24) rfl rfl (by omega) (fun h2 => ?_) (fun h2 => ?_)
  · exact q_vret C dX3_addItem_78 ⟨rfl, rfl⟩ (by rw [hPo]; exact ⟨M, J, rfl, rfl, hI, hK0⟩)
  · refine q_iload C dX3_addItem_24 (n := 26) rfl rfl ?_
    refine q_aload_n C dX3_addItem_26 (n := 27) rfl rfl ?_
    refine q_getR C dX3_addItem_27 (n := 30) rfl f_X3_44 h0.1 (hF _ _ _ h0.2.2.2.2.2.2.2.2.2.2.2.2.2.2.2.2.2.2.2.2.2.2.2.2.2.2.2.2.2.1) ?_
    refine q_alen C dX3_addItem_30 (n := 31) rfl ⟨by decide, by decide⟩ h0.2.2.2.2.2.2.2.2.2.2.2.2.2.2.2.2.2.2.2.2.2.2.2.2.2.2.2.2.2.2.1 ?_
    show zK w p e 1 0 0 s m args below meth c 7 T Po 31 [.ref (w.2.1 + a), zi v1, zi v2, zi v3, zi v4, zi v5, zi ((v1 * 20) + (M (a + 9) v1))] [zi 240, zi ((v1 * 20) + (M (a + 9) v1))] (T, M, J, R)
    refine q_icmp_ge C 78 dX3_addItem_31 (n := 34) rfl rfl (by omega) (fun h3 => ?_) (fun h3 => ?_)
    · exact q_vret C dX3_addItem_78 ⟨rfl, rfl⟩ (by rw [hPo]; exact ⟨M, J, rfl, rfl, hI, hK0⟩)
    · refine q_aload_n C dX3_addItem_34 (n := 35) rfl rfl ?_
      refine q_getR C dX3_addItem_35 (n := 38) rfl f_X3_44 h0.1 (hF _ _ _ h0.2.2.2.2.2.2.2.2.2.2.2.2.2.2.2.2.2.2.2.2.2.2.2.2.2.2.2.2.2.1) ?_
      refine q_iload C dX3_addItem_38 (n := 40) rfl rfl ?_
      refine q_iload_n C dX3_addItem_40 (n := 41) rfl rfl ?_
      refine q_iast C dX3_addItem_41 (n := 42) rfl h0.2.2.2.2.2.2.2.2.2.2.2.2.2.2.2.2.2.2.2.2.2.2.2.2.2.2.2.2.2.2.1 (by omega)  (fun M4 e5 => ?_)
      have hI6 : zI G M4 := hI.put e5 (h0.2.2.2.2.2.2.2.2.2.2.2.2.2.2.2.2.2.2.2.2.2.2.2.2.2.2.2.2.2.2.2.1 ((v1 * 20) + (M (a + 9) v1))) rfl (by omega)
      have hK7 := hK0.put e5 (h0.2.2.2.2.2.2.2.2.2.2.2.2.2.2.2.2.2.2.2.2.2.2.2.2.2.2.2.2.2.2.2.1 ((v1 * 20) + (M (a + 9) v1))) (by decide)
      refine q_aload_n C dX3_addItem_42 (n := 43) rfl rfl ?_
      refine q_getR C dX3_addItem_43 (n := 46) rfl f_X3_47 h0.1 (hF _ _ _ h0.2.2.2.2.2.2.2.2.2.2.2.2.2.2.2.2.2.2.2.2.2.2.2.2.2.2.2.2.2.2.2.2.1) ?_
      refine q_iload C dX3_addItem_46 (n := 48) rfl rfl ?_
      refine q_iload_n C dX3_addItem_48 (n := 49) rfl rfl ?_
      refine q_iast C dX3_addItem_49 (n := 50) rfl h0.2.2.2.2.2.2.2.2.2.2.2.2.2.2.2.2.2.2.2.2.2.2.2.2.2.2.2.2.2.2.2.2.2.1 (by omega)  (fun M8 e9 => ?_)
      have hI10 : zI G M8 := hI6.put e9 (h0.2.2.2.2.2.2.2.2.2.2.2.2.2.2.2.2.2.2.2.2.2.2.2.2.2.2.2.2.2.2.2.2.2.2.1 ((v1 * 20) + (M (a + 9) v1))) rfl (by omega)
      have hK11 := hK7.put e9 (h0.2.2.2.2.2.2.2.2.2.2.2.2.2.2.2.2.2.2.2.2.2.2.2.2.2.2.2.2.2.2.2.2.2.2.1 ((v1 * 20) + (M (a + 9) v1))) (by decide)
      refine q_aload_n C dX3_addItem_50 (n := 51) rfl rfl ?_
      refine q_getR C dX3_addItem_51 (n := 54) rfl f_X3_50 h0.1 (hF _ _ _ h0.2.2.2.2.2.2.2.2.2.2.2.2.2.2.2.2.2.2.2.2.2.2.2.2.2.2.2.2.2.2.2.2.2.2.2.1) ?_
      refine q_iload C dX3_addItem_54 (n := 56) rfl rfl ?_
      refine q_iload C dX3_addItem_56 (n := 58) rfl rfl ?_
      refine q_iast C dX3_addItem_58 (n := 59) rfl h0.2.2.2.2.2.2.2.2.2.2.2.2.2.2.2.2.2.2.2.2.2.2.2.2.2.2.2.2.2.2.2.2.2.2.2.2.1 (by omega)  (fun M12 e13 => ?_)
      have hK14 := hK11.put e13 (h0.2.2.2.2.2.2.2.2.2.2.2.2.2.2.2.2.2.2.2.2.2.2.2.2.2.2.2.2.2.2.2.2.2.2.2.2.2.1 ((v1 * 20) + (M (a + 9) v1))) (by decide)
      refine q_aload_n C dX3_addItem_59 (n := 60) rfl rfl ?_
      refine q_getR C dX3_addItem_60 (n := 63) rfl f_X3_53 h0.1 (hF _ _ _ h0.2.2.2.2.2.2.2.2.2.2.2.2.2.2.2.2.2.2.2.2.2.2.2.2.2.2.2.2.2.2.2.2.2.2.2.2.2.2.1) ?_
      refine q_iload C dX3_addItem_63 (n := 65) rfl rfl ?_
      refine q_iload C dX3_addItem_65 (n := 67) rfl rfl ?_
      refine q_iast C dX3_addItem_67 (n := 68) rfl h0.2.2.2.2.2.2.2.2.2.2.2.2.2.2.2.2.2.2.2.2.2.2.2.2.2.2.2.2.2.2.2.2.2.2.2.2.2.2.2.1 (by omega)  (fun M15 e16 => ?_)
      have hI17 : zI G M15 := zI.put2 hI10 e13 e16 (h0.2.2.2.2.2.2.2.2.2.2.2.2.2.2.2.2.2.2.2.2.2.2.2.2.2.2.2.2.2.2.2.2.2.2.2.2.2.1 ((v1 * 20) + (M (a + 9) v1))) (h0.2.2.2.2.2.2.2.2.2.2.2.2.2.2.2.2.2.2.2.2.2.2.2.2.2.2.2.2.2.2.2.2.2.2.2.2.2.2.2.2.1 ((v1 * 20) + (M (a + 9) v1))) (by omega) (by omega)
      have hK18 := hK14.put e16 (h0.2.2.2.2.2.2.2.2.2.2.2.2.2.2.2.2.2.2.2.2.2.2.2.2.2.2.2.2.2.2.2.2.2.2.2.2.2.2.2.2.1 ((v1 * 20) + (M (a + 9) v1))) (by decide)
      refine q_aload_n C dX3_addItem_68 (n := 69) rfl rfl ?_
      refine q_getR C dX3_addItem_69 (n := 72) rfl f_X3_41 h0.1 (hF _ _ _ h0.2.2.2.2.2.2.2.2.2.2.2.2.2.2.2.2.2.2.2.2.2.2.2.2.2.2.1) ?_
      refine q_iload_n C dX3_addItem_72 (n := 73) rfl rfl ?_
      refine q_dup2 C dX3_addItem_73 (n := 74) rfl ⟨rfl, rfl⟩ ?_
      refine q_iald C dX3_addItem_74 (n := 75) rfl h0.2.2.2.2.2.2.2.2.2.2.2.2.2.2.2.2.2.2.2.2.2.2.2.2.2.2.2.1 (by omega) (v := M (a + 9) v1) ((zup_p e16 (by omega) _).trans ((zup_p e13 (by omega) _).trans ((zup_p e9 (by omega) _).trans (zup_p e5 (by omega) _)))) ?_
      refine q_iconst C dX3_addItem_75 (n := 76) rfl ?_
      refine q_iadd C dX3_addItem_76 (n := 77) rfl (v := (M (a + 9) v1) + 1) rfl ?_
      refine q_iast C dX3_addItem_77 (n := 78) rfl h0.2.2.2.2.2.2.2.2.2.2.2.2.2.2.2.2.2.2.2.2.2.2.2.2.2.2.2.1 (by omega)  (fun M19 e20 => ?_)
      have hI21 : zI G M19 := hI17.put e20 (h0.2.2.2.2.2.2.2.2.2.2.2.2.2.2.2.2.2.2.2.2.2.2.2.2.2.2.2.2.1 v1) rfl (by omega)
      have hK22 := hK18.put e20 (h0.2.2.2.2.2.2.2.2.2.2.2.2.2.2.2.2.2.2.2.2.2.2.2.2.2.2.2.2.1 v1) (by decide)
      exact q_vret C dX3_addItem_78 ⟨rfl, rfl⟩ (by rw [hPo]; exact ⟨M19, J, rfl, rfl, hI21, hK22⟩)
theorem c_X3_addSwitch {w : zWp} {T : zTl} {M : zMm} {J : zJm} {R : zRm'} {G : zGt} {F : zRm'} {a t q L : Nat} (hI : zI G M) (hF : zF F R) (h0 : zMacros T F G a t q L) (v1 : Int) (v2 : Int) (v3 : Int) (p1 : 2000 ≤ L) (p2 : L ≤ 1000000) (p3 : 0 ≤ v1 ∧ v1 ≤ L) (p4 : 0 ≤ v2 ∧ v2 ≤ 31) (p5 : v3 = 0 ∨ v3 = 1) : zCt w 2 0 0 yX3_addSwitch cX3_addSwitch 5 none [.ref (w.2.1 + a), zi v1, zi v2, zi v3] (T, M, J, R) (zPv T R G (fun M2 => (zKp G 4 M M2))) := by
  refine zCt.of rfl (Nat.le_of_ble_eq_true rfl) ?_
  intro p e s m args below meth c C
  obtain ⟨Po, hPo⟩ : ∃ Po, Po = zPv T R G (fun M2 => (zKp G 4 M M2)) := ⟨_, rfl⟩
  rw [← hPo]
  have hK0 : zKp G 4 M M := zKp.rf
  show zK w p e 2 0 0 s m args below meth c 5 T Po 0 [.ref (w.2.1 + a), zi v1, zi v2, zi v3, .null] [] (T, M, J, R)
  refine q_aload_n C dX3_addSwitch_0 (n := 1) rfl rfl ?_
  have g1 := zI.at hI h0.2.1
  refine q_getI C dX3_addSwitch_1 (n := 4) rfl f_X3_9 h0.1 (v := M a 0) rfl ?_
  refine q_bipush C dX3_addSwitch_4 (n := 6) rfl (x := 12) (by decide) ?_
  refine q_icmp_lt C 10 dX3_addSwitch_6 (n := 9) rfl rfl (by omega) (fun h2 => ?_) (fun h2 => ?_)
  · refine q_aload_n C dX3_addSwitch_10 (n := 11) rfl rfl ?_
    refine q_getI C dX3_addSwitch_11 (n := 14) rfl f_X3_9 h0.1 (v := M a 0) rfl ?_
    refine q_istore C [.ref (w.2.1 + a), zi v1, zi v2, zi v3, zi (M a 0)] dX3_addSwitch_14 (n := 16) rfl rfl rfl ?_
    refine q_aload_n C dX3_addSwitch_16 (n := 17) rfl rfl ?_
    refine q_iload C dX3_addSwitch_17 (n := 19) rfl rfl ?_
    refine q_iload_n C dX3_addSwitch_19 (n := 20) rfl rfl ?_
    refine q_iload_n C dX3_addSwitch_20 (n := 21) rfl rfl ?_
    refine q_callVv C dX3_addSwitch_21 (n := 24) rfl m_X3_84 v_yX3_enter h0.1 ⟨by decide, rfl⟩ (c_X3_enter (w := w) (J := J) hI hF h0 (M a 0) v1 v2 (by omega) (by omega) (by omega)) (Nat.le_of_ble_eq_true rfl) rfl rfl (Nat.le_of_ble_eq_true rfl) ⟨Nat.le_refl _, Nat.le_refl _⟩ (fun M3 J4  hI5 h6 => ?_)
    have hK8 := hK0.tr h6 (by decide)
    refine q_aload_n C dX3_addSwitch_24 (n := 25) rfl rfl ?_
    refine q_getR C dX3_addSwitch_25 (n := 28) rfl f_X3_22 h0.1 (hF _ _ _ h0.2.2.2.2.2.2.2.2.1) ?_
    refine q_iload C dX3_addSwitch_28 (n := 30) rfl rfl ?_
    refine q_iload_n C dX3_addSwitch_30 (n := 31) rfl rfl ?_
    refine q_zast C dX3_addSwitch_31 (n := 32) rfl h0.2.2.2.2.2.2.2.2.2.1 (by omega) (by omega) (fun M9 e10 => ?_)
    have hI11 : zI G M9 := hI5.put e10 (h0.2.2.2.2.2.2.2.2.2.2.1 (M a 0)) rfl (by omega)
    have hK12 := hK8.put e10 (h0.2.2.2.2.2.2.2.2.2.2.1 (M a 0)) (by decide)
    refine q_aload_n C dX3_addSwitch_32 (n := 33) rfl rfl ?_
    refine q_getR C dX3_addSwitch_33 (n := 36) rfl f_X3_26 h0.1 (hF _ _ _ h0.2.2.2.2.2.2.2.2.2.2.2.1) ?_
    refine q_iload C dX3_addSwitch_36 (n := 38) rfl rfl ?_
    refine q_iconst C dX3_addSwitch_38 (n := 39) rfl ?_
    refine q_iast C dX3_addSwitch_39 (n := 40) rfl h0.2.2.2.2.2.2.2.2.2.2.2.2.1 (by omega)  (fun M13 e14 => ?_)
    have hI15 : zI G M13 := hI11.put e14 (h0.2.2.2.2.2.2.2.2.2.2.2.2.2.1 (M a 0)) rfl (by omega)
    have hK16 := hK12.put e14 (h0.2.2.2.2.2.2.2.2.2.2.2.2.2.1 (M a 0)) (by decide)
    refine q_aload_n C dX3_addSwitch_40 (n := 41) rfl rfl ?_
    refine q_getR C dX3_addSwitch_41 (n := 44) rfl f_X3_29 h0.1 (hF _ _ _ h0.2.2.2.2.2.2.2.2.2.2.2.2.2.2.1) ?_
    refine q_iload C dX3_addSwitch_44 (n := 46) rfl rfl ?_
    refine q_iconst C dX3_addSwitch_46 (n := 47) rfl ?_
    refine q_iast C dX3_addSwitch_47 (n := 48) rfl h0.2.2.2.2.2.2.2.2.2.2.2.2.2.2.2.1 (by omega)  (fun M17 e18 => ?_)
    have hI19 : zI G M17 := hI15.put e18 (h0.2.2.2.2.2.2.2.2.2.2.2.2.2.2.2.2.1 (M a 0)) rfl (by omega)
    have hK20 := hK16.put e18 (h0.2.2.2.2.2.2.2.2.2.2.2.2.2.2.2.2.1 (M a 0)) (by decide)
    refine q_aload_n C dX3_addSwitch_48 (n := 49) rfl rfl ?_
    refine q_getR C dX3_addSwitch_49 (n := 52) rfl f_X3_32 h0.1 (hF _ _ _ h0.2.2.2.2.2.2.2.2.2.2.2.2.2.2.2.2.2.1) ?_
    refine q_iload C dX3_addSwitch_52 (n := 54) rfl rfl ?_
    refine q_iconst C dX3_addSwitch_54 (n := 55) rfl ?_
    refine q_iast C dX3_addSwitch_55 (n := 56) rfl h0.2.2.2.2.2.2.2.2.2.2.2.2.2.2.2.2.2.2.1 (by omega)  (fun M21 e22 => ?_)
    have hI23 : zI G M21 := hI19.put e22 (h0.2.2.2.2.2.2.2.2.2.2.2.2.2.2.2.2.2.2.2.1 (M a 0)) rfl (by omega)
    have hK24 := hK20.put e22 (h0.2.2.2.2.2.2.2.2.2.2.2.2.2.2.2.2.2.2.2.1 (M a 0)) (by decide)
    refine q_aload_n C dX3_addSwitch_56 (n := 57) rfl rfl ?_
    refine q_getR C dX3_addSwitch_57 (n := 60) rfl f_X3_35 h0.1 (hF _ _ _ h0.2.2.2.2.2.2.2.2.2.2.2.2.2.2.2.2.2.2.2.2.1) ?_
    refine q_iload C dX3_addSwitch_60 (n := 62) rfl rfl ?_
    refine q_iconst C dX3_addSwitch_62 (n := 63) rfl ?_
    refine q_iast C dX3_addSwitch_63 (n := 64) rfl h0.2.2.2.2.2.2.2.2.2.2.2.2.2.2.2.2.2.2.2.2.2.1 (by omega)  (fun M25 e26 => ?_)
    have hI27 : zI G M25 := hI23.put e26 (h0.2.2.2.2.2.2.2.2.2.2.2.2.2.2.2.2.2.2.2.2.2.2.1 (M a 0)) rfl (by omega)
    have hK28 := hK24.put e26 (h0.2.2.2.2.2.2.2.2.2.2.2.2.2.2.2.2.2.2.2.2.2.2.1 (M a 0)) (by decide)
    refine q_aload_n C dX3_addSwitch_64 (n := 65) rfl rfl ?_
    refine q_getR C dX3_addSwitch_65 (n := 68) rfl f_X3_41 h0.1 (hF _ _ _ h0.2.2.2.2.2.2.2.2.2.2.2.2.2.2.2.2.2.2.2.2.2.2.2.2.2.2.1) ?_
    refine q_iload C dX3_addSwitch_68 (n := 70) rfl rfl ?_
    refine q_iconst C dX3_addSwitch_70 (n := 71) rfl ?_
    refine q_iast C dX3_addSwitch_71 (n := 72) rfl h0.2.2.2.2.2.2.2.2.2.2.2.2.2.2.2.2.2.2.2.2.2.2.2.2.2.2.2.1 (by omega)  (fun M29 e30 => ?_)
    have hI31 : zI G M29 := hI27.put e30 (h0.2.2.2.2.2.2.2.2.2.2.2.2.2.2.2.2.2.2.2.2.2.2.2.2.2.2.2.2.1 (M a 0)) rfl (by omega)
    have hK32 := hK28.put e30 (h0.2.2.2.2.2.2.2.2.2.2.2.2.2.2.2.2.2.2.2.2.2.2.2.2.2.2.2.2.1 (M a 0)) (by decide)
    refine q_aload_n C dX3_addSwitch_72 (n := 73) rfl rfl ?_
    refine q_iload C dX3_addSwitch_73 (n := 75) rfl rfl ?_
    refine q_iconst C dX3_addSwitch_75 (n := 76) rfl ?_
    refine q_iconst C dX3_addSwitch_76 (n := 77) rfl ?_
    refine q_sipush C dX3_addSwitch_77 (n := 80) rfl (x := 1695) (by decide) ?_
    refine q_iconst C dX3_addSwitch_80 (n := 81) rfl ?_
    refine q_iconst C dX3_addSwitch_81 (n := 82) rfl ?_
    refine q_callSp C dX3_addSwitch_82 (n := 85) rfl m_X3_88 s_yX5_shape (c_X5_shape (w := w) (J := J4) hI31 hF 1 1) (Nat.le_of_ble_eq_true rfl) rfl rfl (Nat.le_of_ble_eq_true rfl) ⟨Nat.le_refl _, Nat.le_refl _⟩ (fun x35 h36 => ?_)
    obtain ⟨h33, h34⟩ := h36
    refine q_callVv C dX3_addSwitch_85 (n := 88) rfl m_X3_93 v_yX3_addItem h0.1 ⟨by decide, rfl⟩ (c_X3_addItem (w := w) (J := J4) hI31 hF h0 (M a 0) 0 (-1) 1695 x35 (by omega) (by omega) (by omega) (by omega) (by omega)) (Nat.le_of_ble_eq_true rfl) rfl rfl (Nat.le_of_ble_eq_true rfl) ⟨Nat.le_refl _, Nat.le_refl _⟩ (fun M37 J38  hI39 h40 => ?_)
    have hK42 := hK32.tr h40 (by decide)
    exact q_vret C dX3_addSwitch_88 ⟨rfl, rfl⟩ (by rw [hPo]; exact ⟨M37, J38, rfl, rfl, hI39, hK42⟩)
  · exact q_vret C dX3_addSwitch_9 ⟨rfl, rfl⟩ (by rw [hPo]; exact ⟨M, J, rfl, rfl, hI, hK0⟩)
theorem c_X3_isSign {w : zWp} {T : zTl} {M : zMm} {J : zJm} {R : zRm'} {G : zGt} {F : zRm'} {a t q L rr : Nat} (hI : zI G M) (hF : zF F R) (h0 : zMacros T F G a t q L) (h_row : zRow T F G rr 440 (L : Int)) (v1 : Int) (v2 : Int) (p1 : L ≤ 1000000) (p2 : -2147483648 ≤ v1 ∧ v1 ≤ 2147483647) (p3 : -2147483648 ≤ v2 ∧ v2 ≤ 2147483647) : zCt w 2 0 0 yX3_isSign cX3_isSign 4 (some .boolean) [.ref (w.2.1 + a), .ref (w.2.1 + rr), zi v1, zi v2] (T, M, J, R) (zPp T M J R (fun x => (x = 0 ∨ x = 1))) := by
  refine zCt.of rfl (Nat.le_of_ble_eq_true rfl) ?_
  intro p e s m args below meth c C
  obtain ⟨Po, hPo⟩ : ∃ Po, Po = zPp T M J R (fun x => (x = 0 ∨ x = 1)) := ⟨_, rfl⟩
  rw [← hPo]
  show zK w p e 2 0 0 s m args below meth c 4 T Po 0 [.ref (w.2.1 + a), .ref (w.2.1 + rr), zi v1, zi v2] [] (T, M, J, R)
  refine q_iload_n C dX3_isSign_0 (n := 1) rfl rfl ?_
  refine q_if_lt C 39 dX3_isSign_1 (n := 4) rfl rfl (by omega) (fun h1 => ?_) (fun h1 => ?_)
  · refine q_iconst C dX3_isSign_39 (n := 40) rfl ?_
    exact q_zret C dX3_isSign_40 ⟨rfl, rfl⟩ (by omega) (by rw [hPo]; exact ⟨0, rfl, rfl, by omega⟩)
  · refine q_iload_n C dX3_isSign_4 (n := 5) rfl rfl ?_
    refine q_aload_n C dX3_isSign_5 (n := 6) rfl rfl ?_
    have g2 := zI.at hI h_row.2.2.2.2.2.2.2.2.2.2
    refine q_getI C dX3_isSign_6 (n := 9) rfl f_X3_134 h_row.1 (v := M rr 3) rfl ?_
    refine q_icmp_ge C 39 dX3_isSign_9 (n := 12) rfl rfl (by omega) (fun h3 => ?_) (fun h3 => ?_)
    · refine q_iconst C dX3_isSign_39 (n := 40) rfl ?_
      exact q_zret C dX3_isSign_40 ⟨rfl, rfl⟩ (by omega) (by rw [hPo]; exact ⟨0, rfl, rfl, by omega⟩)
    · refine q_aload_n C dX3_isSign_12 (n := 13) rfl rfl ?_
      refine q_getR C dX3_isSign_13 (n := 16) rfl f_X3_62 h0.1 (hF _ _ _ h0.2.2.2.2.2.2.2.2.2.2.2.2.2.2.2.2.2.2.2.2.2.2.2.2.2.2.2.2.2.2.2.2.2.2.2.2.2.2.2.2.2.1) ?_
      refine q_aload_n C dX3_isSign_16 (n := 17) rfl rfl ?_
      refine q_getR C dX3_isSign_17 (n := 20) rfl f_X3_128 h_row.1 (hF _ _ _ h_row.2.1) ?_
      refine q_iload_n C dX3_isSign_20 (n := 21) rfl rfl ?_
      have g4 := zI.at hI (h_row.2.2.2.1 v1)
      have g5 : M (rr + 1) v1 + zand (M (rr + 2) v1) 31 ≤ (L : Int) ∧ zand (M (rr + 2) v1) 31 ≤ 30 := zI.row hI (h_row.2.2.2.1 v1)
      refine q_iald C dX3_isSign_21 (n := 22) rfl h_row.2.2.1 (by omega) (v := M (rr + 1) v1) rfl ?_
      refine q_aload_n C dX3_isSign_22 (n := 23) rfl rfl ?_
      refine q_getR C dX3_isSign_23 (n := 26) rfl f_X3_105 h_row.1 (hF _ _ _ h_row.2.2.2.2.1) ?_
      refine q_iload_n C dX3_isSign_26 (n := 27) rfl rfl ?_
      have g6 := zI.at hI (h_row.2.2.2.2.2.2.1 v1)
      refine q_iald C dX3_isSign_27 (n := 28) rfl h_row.2.2.2.2.2.1 (by omega) (v := M (rr + 2) v1) rfl ?_
      refine q_callVp C dX3_isSign_28 (n := 31) rfl m_X3_152 v_yX10_signOf h0.2.2.2.2.2.2.2.2.2.2.2.2.2.2.2.2.2.2.2.2.2.2.2.2.2.2.2.2.2.2.2.2.2.2.2.2.2.2.2.2.2.2.1.1 ⟨by decide, rfl⟩ (c_X10_signOf (w := w) (J := J) hI hF h0.2.2.2.2.2.2.2.2.2.2.2.2.2.2.2.2.2.2.2.2.2.2.2.2.2.2.2.2.2.2.2.2.2.2.2.2.2.2.2.2.2.2.1 (M (rr + 1) v1) (M (rr + 2) v1) (by omega) (by omega)) (Nat.le_of_ble_eq_true rfl) rfl rfl (Nat.le_of_ble_eq_true rfl) ⟨Nat.le_refl _, Nat.le_refl _⟩ (fun x8 h9 => ?_)
      refine q_iload_n C dX3_isSign_31 (n := 32) rfl rfl ?_
      refine q_icmp_ne C 39 dX3_isSign_32 (n := 35) rfl rfl (by omega) (fun h10 => ?_) (fun h10 => ?_)
      · refine q_iconst C dX3_isSign_39 (n := 40) rfl ?_
        exact q_zret C dX3_isSign_40 ⟨rfl, rfl⟩ (by omega) (by rw [hPo]; exact ⟨0, rfl, rfl, by omega⟩)
      · refine q_iconst C dX3_isSign_35 (n := 36) rfl ?_
        refine q_goto C 40 dX3_isSign_36 rfl ?_
        exact q_zret C dX3_isSign_40 ⟨rfl, rfl⟩ (by omega) (by rw [hPo]; exact ⟨1, rfl, rfl, by omega⟩)
theorem c_X3_parameterAt {w : zWp} {T : zTl} {M : zMm} {J : zJm} {R : zRm'} {G : zGt} {F : zRm'} {a t q L rr : Nat} (hI : zI G M) (hF : zF F R) (h0 : zMacros T F G a t q L) (h_row : zRow T F G rr 440 (L : Int)) (v1 : Int) (p1 : L ≤ 1000000) (p2 : -2147483648 ≤ v1 ∧ v1 ≤ 2147483647) : zCt w 2 0 0 yX3_parameterAt cX3_parameterAt 6 (some .int) [.ref (w.2.1 + a), .ref (w.2.1 + rr), zi v1] (T, M, J, R) (zPp T M J R (fun x => (-1 ≤ x ∧ x ≤ 3))) := by
  refine zCt.of rfl (Nat.le_of_ble_eq_true rfl) ?_
  intro p e s m args below meth c C
  obtain ⟨Po, hPo⟩ : ∃ Po, Po = zPp T M J R (fun x => (-1 ≤ x ∧ x ≤ 3)) := ⟨_, rfl⟩
  rw [← hPo]
  show zK w p e 2 0 0 s m args below meth c 6 T Po 0 [.ref (w.2.1 + a), .ref (w.2.1 + rr), zi v1, .null, .null, .null] [] (T, M, J, R)
  refine q_iload_n C dX3_parameterAt_0 (n := 1) rfl rfl ?_
  refine q_if_lt C 12 dX3_parameterAt_1 (n := 4) rfl rfl (by omega) (fun h1 => ?_) (fun h1 => ?_)
  · refine q_iconst C dX3_parameterAt_12 (n := 13) rfl ?_
    exact q_iret C dX3_parameterAt_13 ⟨rfl, rfl⟩ (by rw [hPo]; exact ⟨(-1), rfl, rfl, by omega⟩)
  · refine q_iload_n C dX3_parameterAt_4 (n := 5) rfl rfl ?_
    refine q_aload_n C dX3_parameterAt_5 (n := 6) rfl rfl ?_
    have g2 := zI.at hI h_row.2.2.2.2.2.2.2.2.2.2
    refine q_getI C dX3_parameterAt_6 (n := 9) rfl f_X3_134 h_row.1 (v := M rr 3) rfl ?_
    refine q_icmp_lt C 14 dX3_parameterAt_9 (n := 12) rfl rfl (by omega) (fun h3 => ?_) (fun h3 => ?_)
    · refine q_aload_n C dX3_parameterAt_14 (n := 15) rfl rfl ?_
      refine q_getR C dX3_parameterAt_15 (n := 18) rfl f_X3_105 h_row.1 (hF _ _ _ h_row.2.2.2.2.1) ?_
      refine q_iload_n C dX3_parameterAt_18 (n := 19) rfl rfl ?_
      have g4 := zI.at hI (h_row.2.2.2.2.2.2.1 v1)
      refine q_iald C dX3_parameterAt_19 (n := 20) rfl h_row.2.2.2.2.2.1 (by omega) (v := M (rr + 2) v1) rfl ?_
      refine q_callSp C dX3_parameterAt_20 (n := 23) rfl m_X3_131 s_yX5_lengthOf (c_X5_lengthOf (w := w) (J := J) hI hF (M (rr + 2) v1)) (Nat.le_of_ble_eq_true rfl) rfl rfl (Nat.le_of_ble_eq_true rfl) ⟨Nat.le_refl _, Nat.le_refl _⟩ (fun x7 h8 => ?_)
      obtain ⟨h5, h6⟩ := h8
      refine q_istore_n C [.ref (w.2.1 + a), .ref (w.2.1 + rr), zi v1, zi x7, .null, .null] dX3_parameterAt_23 (n := 24) rfl rfl rfl ?_
      refine q_iconst C dX3_parameterAt_24 (n := 25) rfl ?_
      refine q_istore C [.ref (w.2.1 + a), .ref (w.2.1 + rr), zi v1, zi x7, zi 0, .null] dX3_parameterAt_25 (n := 27) rfl rfl rfl ?_
      have L_12 : ∀ n13 : Nat, ∀ (u9 : Int), (-2147483648 ≤ u9 ∧ u9 ≤ 2147483647) → (0 ≤ u9 ∧ u9 ≤ 4) → (4 - u9 + 1 ≤ (n13 : Int)) → zK w p e 2 0 0 s m args below meth c 6 T Po 27 [.ref (w.2.1 + a), .ref (w.2.1 + rr), zi v1, zi x7, zi u9, .null] [] (T, M, J, R) := by
        intro n13
        induction n13 with
        | zero =>
          intro u9 h10 h11 hm15
          exfalso
          omega
        | succ n13 ih14 =>
          intro u9 h10 h11 hm15
          refine q_iload C dX3_parameterAt_27 (n := 29) rfl rfl ?_
          refine q_aload_n C dX3_parameterAt_29 (n := 30) rfl rfl ?_
          have g16 := zI.at hI h0.2.2.2.2.2.2.2.2.2.2.2.2.2.2.2.2.2.2.2.2.2.2.2.2.2.2.2.2.2.2.2.2.2.2.2.2.2.2.2.2.2.2.2.2.2.2.2.2
          refine q_getI C dX3_parameterAt_30 (n := 33) rfl f_X3_59 h0.1 (v := M a 17) rfl ?_
          refine q_icmp_ge C 101 dX3_parameterAt_33 (n := 36) rfl rfl (by omega) (fun h17 => ?_) (fun h17 => ?_)
          · refine q_iconst C dX3_parameterAt_101 (n := 102) rfl ?_
            exact q_iret C dX3_parameterAt_102 ⟨rfl, rfl⟩ (by rw [hPo]; exact ⟨(-1), rfl, rfl, by omega⟩)
          · refine q_iload C dX3_parameterAt_36 (n := 38) rfl rfl ?_
            refine q_iconst C dX3_parameterAt_38 (n := 39) rfl ?_
            refine q_icmp_ge C 101 dX3_parameterAt_39 (n := 42) rfl rfl (by omega) (fun h18 => ?_) (fun h18 => ?_)
            · refine q_iconst C dX3_parameterAt_101 (n := 102) rfl ?_
              exact q_iret C dX3_parameterAt_102 ⟨rfl, rfl⟩ (by rw [hPo]; exact ⟨(-1), rfl, rfl, by omega⟩)
            · refine q_aload_n C dX3_parameterAt_42 (n := 43) rfl rfl ?_
              refine q_getR C dX3_parameterAt_43 (n := 46) rfl f_X3_56 h0.1 (hF _ _ _ h0.2.2.2.2.2.2.2.2.2.2.2.2.2.2.2.2.2.2.2.2.2.2.2.2.2.2.2.2.2.2.2.2.2.2.2.2.2.2.2.2.2.2.2.2.2.1) ?_
              refine q_iload C dX3_parameterAt_46 (n := 48) rfl rfl ?_
              have g19 := zI.at hI (h0.2.2.2.2.2.2.2.2.2.2.2.2.2.2.2.2.2.2.2.2.2.2.2.2.2.2.2.2.2.2.2.2.2.2.2.2.2.2.2.2.2.2.2.2.2.2.2.1 u9)
              refine q_iald C dX3_parameterAt_48 (n := 49) rfl h0.2.2.2.2.2.2.2.2.2.2.2.2.2.2.2.2.2.2.2.2.2.2.2.2.2.2.2.2.2.2.2.2.2.2.2.2.2.2.2.2.2.2.2.2.2.2.1 (by omega) (v := M (a + 14) u9) rfl ?_
              refine q_istore C [.ref (w.2.1 + a), .ref (w.2.1 + rr), zi v1, zi x7, zi u9, zi (M (a + 14) u9)] dX3_parameterAt_49 (n := 51) rfl rfl rfl ?_
              refine q_aload_n C dX3_parameterAt_51 (n := 52) rfl rfl ?_
              refine q_getR C dX3_parameterAt_52 (n := 55) rfl f_X3_105 h_row.1 (hF _ _ _ h_row.2.2.2.2.1) ?_
              refine q_iload C dX3_parameterAt_55 (n := 57) rfl rfl ?_
              have g20 := zI.at hI (h_row.2.2.2.2.2.2.1 (M (a + 14) u9))
              refine q_iald C dX3_parameterAt_57 (n := 58) rfl h_row.2.2.2.2.2.1 (by omega) (v := M (rr + 2) (M (a + 14) u9)) rfl ?_
              refine q_callSp C dX3_parameterAt_58 (n := 61) rfl m_X3_131 s_yX5_lengthOf (c_X5_lengthOf (w := w) (J := J) hI hF (M (rr + 2) (M (a + 14) u9))) (Nat.le_of_ble_eq_true rfl) rfl rfl (Nat.le_of_ble_eq_true rfl) ⟨Nat.le_refl _, Nat.le_refl _⟩ (fun x23 h24 => ?_)
              obtain ⟨h21, h22⟩ := h24
              refine q_iload_n C dX3_parameterAt_61 (n := 62) rfl rfl ?_
              have J_25 : zK w p e 2 0 0 s m args below meth c 6 T Po 95 [.ref (w.2.1 + a), .ref (w.2.1 + rr), zi v1, zi x7, zi u9, .null] [] (T, M, J, R) := by
                refine q_iinc C [.ref (w.2.1 + a), .ref (w.2.1 + rr), zi v1, zi x7, zi (u9 + 1), .null] dX3_parameterAt_95 (n := 98) rfl rfl rfl rfl ?_
                refine q_goto C 27 dX3_parameterAt_98 rfl ?_
                exact zK.weak (ih14 (u9 + 1) (by omega) (by omega) (by omega)) (zwk_c (zwk_c (zwk_c (zwk_c (zwk_c (zwk_n zwk_e))))))
              refine q_icmp_ne C 95 dX3_parameterAt_62 (n := 65) rfl rfl (by omega) (fun h26 => ?_) (fun h26 => ?_)
              · exact zK.weak (J_25) (zwk_c (zwk_c (zwk_c (zwk_c (zwk_c (zwk_n zwk_e))))))
              · refine q_aload_n C dX3_parameterAt_65 (n := 66) rfl rfl ?_
                refine q_getR C dX3_parameterAt_66 (n := 69) rfl f_X3_62 h0.1 (hF _ _ _ h0.2.2.2.2.2.2.2.2.2.2.2.2.2.2.2.2.2.2.2.2.2.2.2.2.2.2.2.2.2.2.2.2.2.2.2.2.2.2.2.2.2.1) ?_
                refine q_getR C dX3_parameterAt_69 (n := 72) rfl f_X3_70 h0.2.2.2.2.2.2.2.2.2.2.2.2.2.2.2.2.2.2.2.2.2.2.2.2.2.2.2.2.2.2.2.2.2.2.2.2.2.2.2.2.2.2.1.1 (hF _ _ _ h0.2.2.2.2.2.2.2.2.2.2.2.2.2.2.2.2.2.2.2.2.2.2.2.2.2.2.2.2.2.2.2.2.2.2.2.2.2.2.2.2.2.2.1.2.1) ?_
                refine q_aload_n C dX3_parameterAt_72 (n := 73) rfl rfl ?_
                refine q_getR C dX3_parameterAt_73 (n := 76) rfl f_X3_128 h_row.1 (hF _ _ _ h_row.2.1) ?_
                refine q_iload_n C dX3_parameterAt_76 (n := 77) rfl rfl ?_
                have g27 := zI.at hI (h_row.2.2.2.1 v1)
                have g28 : M (rr + 1) v1 + zand (M (rr + 2) v1) 31 ≤ (L : Int) ∧ zand (M (rr + 2) v1) 31 ≤ 30 := zI.row hI (h_row.2.2.2.1 v1)
                refine q_iald C dX3_parameterAt_77 (n := 78) rfl h_row.2.2.1 (by omega) (v := M (rr + 1) v1) rfl ?_
                refine q_aload_n C dX3_parameterAt_78 (n := 79) rfl rfl ?_
                refine q_getR C dX3_parameterAt_79 (n := 82) rfl f_X3_128 h_row.1 (hF _ _ _ h_row.2.1) ?_
                refine q_iload C dX3_parameterAt_82 (n := 84) rfl rfl ?_
                have g29 := zI.at hI (h_row.2.2.2.1 (M (a + 14) u9))
                have g30 : M (rr + 1) (M (a + 14) u9) + zand (M (rr + 2) (M (a + 14) u9)) 31 ≤ (L : Int) ∧ zand (M (rr + 2) (M (a + 14) u9)) 31 ≤ 30 := zI.row hI (h_row.2.2.2.1 (M (a + 14) u9))
                refine q_iald C dX3_parameterAt_84 (n := 85) rfl h_row.2.2.1 (by omega) (v := M (rr + 1) (M (a + 14) u9)) rfl ?_
                refine q_iload_n C dX3_parameterAt_85 (n := 86) rfl rfl ?_
                refine q_callSp C dX3_parameterAt_86 (n := 89) rfl m_X3_76 s_yX10_isAlike (c_X10_isAlike (w := w) (J := J) hI hF h0.2.2.2.2.2.2.2.2.2.2.2.2.2.2.2.2.2.2.2.2.2.2.2.2.2.2.2.2.2.2.2.2.2.2.2.2.2.2.2.2.2.2.1.2.2.1 h0.2.2.2.2.2.2.2.2.2.2.2.2.2.2.2.2.2.2.2.2.2.2.2.2.2.2.2.2.2.2.2.2.2.2.2.2.2.2.2.2.2.2.1.2.2.2.1 (M (rr + 1) v1) (M (rr + 1) (M (a + 14) u9)) x7 (by omega) (by omega) (by omega) (by omega)) (Nat.le_of_ble_eq_true rfl) rfl rfl (Nat.le_of_ble_eq_true rfl) ⟨Nat.le_refl _, Nat.le_refl _⟩ (fun x32 h33 => ?_)
                refine q_if_eq C 95 dX3_parameterAt_89 (n := 92) rfl rfl (by omega) (fun h34 => ?_) (fun h34 => ?_)
                · exact zK.weak (J_25) (zwk_c (zwk_c (zwk_c (zwk_c (zwk_c (zwk_n zwk_e))))))
                · refine q_iload C dX3_parameterAt_92 (n := 94) rfl rfl ?_
                  exact q_iret C dX3_parameterAt_94 ⟨rfl, rfl⟩ (by rw [hPo]; exact ⟨u9, rfl, rfl, by omega⟩)
      exact zK.weak (L_12 _ 0 (by omega) (by omega) (Int.self_le_toNat _)) (zwk_c (zwk_c (zwk_c (zwk_c (zwk_c (zwk_n zwk_e))))))
    · refine q_iconst C dX3_parameterAt_12 (n := 13) rfl ?_
      exact q_iret C dX3_parameterAt_13 ⟨rfl, rfl⟩ (by rw [hPo]; exact ⟨(-1), rfl, rfl, by omega⟩)
theorem c_X3_tellParameters {w : zWp} {T : zTl} {M : zMm} {J : zJm} {R : zRm'} {G : zGt} {F : zRm'} {a t q L rr : Nat} (hI : zI G M) (hF : zF F R) (h0 : zMacros T F G a t q L) (h_row : zRow T F G rr 440 (L : Int)) (v1 : Int) (p1 : L ≤ 1000000) (p2 : -2147483648 ≤ v1 ∧ v1 ≤ 2147483647) : zCt w 3 0 0 yX3_tellParameters cX3_tellParameters 4 (some .int) [.ref (w.2.1 + a), .ref (w.2.1 + rr), zi v1] (T, M, J, R) (zPi T R G (fun x M2 => (zKp G 1 M M2) ∧ (0 ≤ x ∧ x ≤ 1000))) := by
  refine zCt.of rfl (Nat.le_of_ble_eq_true rfl) ?_
  intro p e s m args below meth c C
  obtain ⟨Po, hPo⟩ : ∃ Po, Po = zPi T R G (fun x M2 => (zKp G 1 M M2) ∧ (0 ≤ x ∧ x ≤ 1000)) := ⟨_, rfl⟩
  rw [← hPo]
  have hK0 : zKp G 1 M M := zKp.rf
  show zK w p e 3 0 0 s m args below meth c 4 T Po 0 [.ref (w.2.1 + a), .ref (w.2.1 + rr), zi v1, .null] [] (T, M, J, R)
  refine q_aload_n C dX3_tellParameters_0 (n := 1) rfl rfl ?_
  refine q_aload_n C dX3_tellParameters_1 (n := 2) rfl rfl ?_
  refine q_iconst C dX3_tellParameters_2 (n := 3) rfl ?_
  refine q_bipush C dX3_tellParameters_3 (n := 5) rfl (x := 41) (by decide) ?_
  refine q_callVp C dX3_tellParameters_5 (n := 8) rfl m_X3_101 v_yX3_isSign h0.1 ⟨by decide, rfl⟩ (c_X3_isSign (w := w) (J := J) hI hF h0 h_row 4 41 (by omega) (by omega) (by omega)) (Nat.le_of_ble_eq_true rfl) rfl rfl (Nat.le_of_ble_eq_true rfl) ⟨Nat.le_refl _, Nat.le_refl _⟩ (fun x2 h3 => ?_)
  refine q_if_eq C 13 dX3_tellParameters_8 (n := 11) rfl rfl (by omega) (fun h4 => ?_) (fun h4 => ?_)
  · refine q_iconst C dX3_tellParameters_13 (n := 14) rfl ?_
    refine q_istore_n C [.ref (w.2.1 + a), .ref (w.2.1 + rr), zi v1, zi 4] dX3_tellParameters_14 (n := 15) rfl rfl rfl ?_
    have L_12 : ∀ n13 : Nat, ∀ (u5 : Int) (M6 : zMm) (J7 : zJm), zI G M6 → zKp G 1 M M6 → (-2147483648 ≤ u5 ∧ u5 ≤ 2147483647) → (4 ≤ u5 ∧ u5 ≤ 442) → (500 - u5 ≤ (n13 : Int)) → zK w p e 3 0 0 s m args below meth c 4 T Po 15 [.ref (w.2.1 + a), .ref (w.2.1 + rr), zi v1, zi u5] [] (T, M6, J7, R) := by
      intro n13
      induction n13 with
      | zero =>
        intro u5 M6 J7 hI8 hK9 h10 h11 hm15
        exfalso
        omega
      | succ n13 ih14 =>
        intro u5 M6 J7 hI8 hK9 h10 h11 hm15
        refine q_iload_n C dX3_tellParameters_15 (n := 16) rfl rfl ?_
        refine q_aload_n C dX3_tellParameters_16 (n := 17) rfl rfl ?_
        have g16 := zI.at hI8 h_row.2.2.2.2.2.2.2.2.2.2
        refine q_getI C dX3_tellParameters_17 (n := 20) rfl f_X3_134 h_row.1 (v := M6 rr 3) rfl ?_
        refine q_icmp_ge C 179 dX3_tellParameters_20 (n := 23) rfl rfl (by omega) (fun h17 => ?_) (fun h17 => ?_)
        · refine q_aload_n C dX3_tellParameters_179 (n := 180) rfl rfl ?_
          refine q_getR C dX3_tellParameters_180 (n := 183) rfl f_X3_66 h0.1 (hF _ _ _ h0.2.2.2.2.2.2.2.2.2.2.2.2.2.2.2.2.2.2.2.2.2.2.2.2.2.2.2.2.2.2.2.2.2.2.2.2.2.2.2.2.2.2.2.1) ?_
          refine q_iconst C dX3_tellParameters_183 (n := 184) rfl ?_
          refine q_iload_n C dX3_tellParameters_184 (n := 185) rfl rfl ?_
          refine q_callVv C dX3_tellParameters_185 (n := 188) rfl m_X3_139 v_yX1_meet h0.2.2.2.2.2.2.2.2.2.2.2.2.2.2.2.2.2.2.2.2.2.2.2.2.2.2.2.2.2.2.2.2.2.2.2.2.2.2.2.2.2.2.2.2.1.1 ⟨by decide, rfl⟩ (c_X1_meet (w := w) (J := J7) hI8 hF h0.2.2.2.2.2.2.2.2.2.2.2.2.2.2.2.2.2.2.2.2.2.2.2.2.2.2.2.2.2.2.2.2.2.2.2.2.2.2.2.2.2.2.2.2.1 2 v1 (by omega) (by omega)) (Nat.le_of_ble_eq_true rfl) rfl rfl (Nat.le_of_ble_eq_true rfl) ⟨Nat.le_refl _, Nat.le_refl _⟩ (fun M18 J19  hI20 h21 => ?_)
          have hK23 := hK9.tr h21 (by decide)
          refine q_aload_n C dX3_tellParameters_188 (n := 189) rfl rfl ?_
          have g24 := zI.at hI20 h_row.2.2.2.2.2.2.2.2.2.2
          refine q_getI C dX3_tellParameters_189 (n := 192) rfl f_X3_134 h_row.1 (v := M18 rr 3) rfl ?_
          exact q_iret C dX3_tellParameters_192 ⟨rfl, rfl⟩ (by rw [hPo]; exact ⟨M18 rr 3, M18, J19, rfl, rfl, hI20, hK23, by omega⟩)
        · refine q_aload_n C dX3_tellParameters_23 (n := 24) rfl rfl ?_
          refine q_getR C dX3_tellParameters_24 (n := 27) rfl f_X3_105 h_row.1 (hF _ _ _ h_row.2.2.2.2.1) ?_
          refine q_iload_n C dX3_tellParameters_27 (n := 28) rfl rfl ?_
          have g25 := zI.at hI (h_row.2.2.2.2.2.2.1 u5)
          refine q_iald C dX3_tellParameters_28 (n := 29) rfl h_row.2.2.2.2.2.1 (by omega) (v := M (rr + 2) u5) (hK9 _ _ (zle_t (h_row.2.2.2.2.2.2.1 u5) (by decide))) ?_
          refine q_callSp C dX3_tellParameters_29 (n := 32) rfl m_X3_143 s_yX5_kindOf (c_X5_kindOf (w := w) (J := J7) hI8 hF (M (rr + 2) u5)) (Nat.le_of_ble_eq_true rfl) rfl rfl (Nat.le_of_ble_eq_true rfl) ⟨Nat.le_refl _, Nat.le_refl _⟩ (fun x27 h28 => ?_)
          have J_29 : zK w p e 3 0 0 s m args below meth c 4 T Po 45 [.ref (w.2.1 + a), .ref (w.2.1 + rr), .null, zi u5] [] (T, M6, J7, R) := by
            refine q_aload_n C dX3_tellParameters_45 (n := 46) rfl rfl ?_
            refine q_getR C dX3_tellParameters_46 (n := 49) rfl f_X3_66 h0.1 (hF _ _ _ h0.2.2.2.2.2.2.2.2.2.2.2.2.2.2.2.2.2.2.2.2.2.2.2.2.2.2.2.2.2.2.2.2.2.2.2.2.2.2.2.2.2.2.2.1) ?_
            refine q_iconst C dX3_tellParameters_49 (n := 50) rfl ?_
            refine q_aload_n C dX3_tellParameters_50 (n := 51) rfl rfl ?_
            refine q_getR C dX3_tellParameters_51 (n := 54) rfl f_X3_105 h_row.1 (hF _ _ _ h_row.2.2.2.2.1) ?_
            refine q_iload_n C dX3_tellParameters_54 (n := 55) rfl rfl ?_
            refine q_iald C dX3_tellParameters_55 (n := 56) rfl h_row.2.2.2.2.2.1 (by omega) (v := M (rr + 2) u5) (hK9 _ _ (zle_t (h_row.2.2.2.2.2.2.1 u5) (by decide))) ?_
            refine q_callVv C dX3_tellParameters_56 (n := 59) rfl m_X3_139 v_yX1_meet h0.2.2.2.2.2.2.2.2.2.2.2.2.2.2.2.2.2.2.2.2.2.2.2.2.2.2.2.2.2.2.2.2.2.2.2.2.2.2.2.2.2.2.2.2.1.1 ⟨by decide, rfl⟩ (c_X1_meet (w := w) (J := J7) hI8 hF h0.2.2.2.2.2.2.2.2.2.2.2.2.2.2.2.2.2.2.2.2.2.2.2.2.2.2.2.2.2.2.2.2.2.2.2.2.2.2.2.2.2.2.2.2.1 2 (M (rr + 2) u5) (by omega) (by omega)) (Nat.le_of_ble_eq_true rfl) rfl rfl (Nat.le_of_ble_eq_true rfl) ⟨Nat.le_refl _, Nat.le_refl _⟩ (fun M30 J31  hI32 h33 => ?_)
            have hK35 := hK9.tr h33 (by decide)
            refine q_aload_n C dX3_tellParameters_59 (n := 60) rfl rfl ?_
            have g36 := zI.at hI32 h_row.2.2.2.2.2.2.2.2.2.2
            refine q_getI C dX3_tellParameters_60 (n := 63) rfl f_X3_134 h_row.1 (v := M30 rr 3) rfl ?_
            exact q_iret C dX3_tellParameters_63 ⟨rfl, rfl⟩ (by rw [hPo]; exact ⟨M30 rr 3, M30, J31, rfl, rfl, hI32, hK35, by omega⟩)
          refine q_if_ne C 45 dX3_tellParameters_32 (n := 35) rfl rfl (by omega) (fun h37 => ?_) (fun h37 => ?_)
          · exact zK.weak (J_29) (zwk_c (zwk_c (zwk_n (zwk_c zwk_e))))
          · refine q_aload_n C dX3_tellParameters_35 (n := 36) rfl rfl ?_
            refine q_aload_n C dX3_tellParameters_36 (n := 37) rfl rfl ?_
            refine q_iload_n C dX3_tellParameters_37 (n := 38) rfl rfl ?_
            refine q_callVp C dX3_tellParameters_38 (n := 41) rfl m_X3_155 v_yX3_parameterAt h0.1 ⟨by decide, rfl⟩ (c_X3_parameterAt (w := w) (J := J7) hI8 hF h0 h_row u5 (by omega) (by omega)) (Nat.le_of_ble_eq_true rfl) rfl rfl (Nat.le_of_ble_eq_true rfl) ⟨Nat.le_refl _, Nat.le_refl _⟩ (fun x39 h40 => ?_)
            refine q_iconst C dX3_tellParameters_41 (n := 42) rfl ?_
            refine q_icmp_eq C 64 dX3_tellParameters_42 (n := 45) rfl rfl (by omega) (fun h41 => ?_) (fun h41 => ?_)
            · refine q_aload_n C dX3_tellParameters_64 (n := 65) rfl rfl ?_
              have g42 := zI.at hI8 h0.2.2.2.2.2.2.2.2.2.2.2.2.2.2.2.2.2.2.2.2.2.2.2.2.2.2.2.2.2.2.2.2.2.2.2.2.2.2.2.2.2.2.2.2.2.2.2.2
              refine q_getI C dX3_tellParameters_65 (n := 68) rfl f_X3_59 h0.1 (v := M6 a 17) rfl ?_
              refine q_iconst C dX3_tellParameters_68 (n := 69) rfl ?_
              refine q_icmp_lt C 92 dX3_tellParameters_69 (n := 72) rfl rfl (by omega) (fun h43 => ?_) (fun h43 => ?_)
              · refine q_aload_n C dX3_tellParameters_92 (n := 93) rfl rfl ?_
                refine q_getR C dX3_tellParameters_93 (n := 96) rfl f_X3_56 h0.1 (hF _ _ _ h0.2.2.2.2.2.2.2.2.2.2.2.2.2.2.2.2.2.2.2.2.2.2.2.2.2.2.2.2.2.2.2.2.2.2.2.2.2.2.2.2.2.2.2.2.2.1) ?_
                refine q_aload_n C dX3_tellParameters_96 (n := 97) rfl rfl ?_
                refine q_getI C dX3_tellParameters_97 (n := 100) rfl f_X3_59 h0.1 (v := M6 a 17) rfl ?_
                refine q_iload_n C dX3_tellParameters_100 (n := 101) rfl rfl ?_
                refine q_iast C dX3_tellParameters_101 (n := 102) rfl h0.2.2.2.2.2.2.2.2.2.2.2.2.2.2.2.2.2.2.2.2.2.2.2.2.2.2.2.2.2.2.2.2.2.2.2.2.2.2.2.2.2.2.2.2.2.2.1 (by omega)  (fun M44 e45 => ?_)
                have hI46 : zI G M44 := hI8.put e45 (h0.2.2.2.2.2.2.2.2.2.2.2.2.2.2.2.2.2.2.2.2.2.2.2.2.2.2.2.2.2.2.2.2.2.2.2.2.2.2.2.2.2.2.2.2.2.2.2.1 (M6 a 17)) rfl (by omega)
                have hK47 := hK9.put e45 (h0.2.2.2.2.2.2.2.2.2.2.2.2.2.2.2.2.2.2.2.2.2.2.2.2.2.2.2.2.2.2.2.2.2.2.2.2.2.2.2.2.2.2.2.2.2.2.2.1 (M6 a 17)) (by decide)
                refine q_aload_n C dX3_tellParameters_102 (n := 103) rfl rfl ?_
                refine q_dup C dX3_tellParameters_103 (n := 104) rfl rfl ?_
                refine q_getI C dX3_tellParameters_104 (n := 107) rfl f_X3_59 h0.1 (v := M6 a 17) (zup_p e45 (by omega) _) ?_
                refine q_iconst C dX3_tellParameters_107 (n := 108) rfl ?_
                refine q_iadd C dX3_tellParameters_108 (n := 109) rfl (v := (M6 a 17) + 1) rfl ?_
                refine q_putI C dX3_tellParameters_109 (n := 112) rfl f_X3_59 h0.1 ⟨rfl, rfl⟩ (fun M48 (e49 : M48 = zup M44 a 17 ((M6 a 17) + 1)) => ?_)
                have hI50 : zI G M48 := hI46.put e49 h0.2.2.2.2.2.2.2.2.2.2.2.2.2.2.2.2.2.2.2.2.2.2.2.2.2.2.2.2.2.2.2.2.2.2.2.2.2.2.2.2.2.2.2.2.2.2.2.2 rfl (by omega)
                have hK51 := hK47.put e49 h0.2.2.2.2.2.2.2.2.2.2.2.2.2.2.2.2.2.2.2.2.2.2.2.2.2.2.2.2.2.2.2.2.2.2.2.2.2.2.2.2.2.2.2.2.2.2.2.2 (by decide)
                refine q_aload_n C dX3_tellParameters_112 (n := 113) rfl rfl ?_
                refine q_aload_n C dX3_tellParameters_113 (n := 114) rfl rfl ?_
                refine q_iload_n C dX3_tellParameters_114 (n := 115) rfl rfl ?_
                refine q_iconst C dX3_tellParameters_115 (n := 116) rfl ?_
                refine q_iadd C dX3_tellParameters_116 (n := 117) rfl (v := u5 + 1) rfl ?_
                refine q_bipush C dX3_tellParameters_117 (n := 119) rfl (x := 41) (by decide) ?_
                refine q_callVp C dX3_tellParameters_119 (n := 122) rfl m_X3_101 v_yX3_isSign h0.1 ⟨by decide, rfl⟩ (c_X3_isSign (w := w) (J := J7) hI50 hF h0 h_row (u5 + 1) 41 (by omega) (by omega) (by omega)) (Nat.le_of_ble_eq_true rfl) rfl rfl (Nat.le_of_ble_eq_true rfl) ⟨Nat.le_refl _, Nat.le_refl _⟩ (fun x53 h54 => ?_)
                refine q_if_eq C 129 dX3_tellParameters_122 (n := 125) rfl rfl (by omega) (fun h55 => ?_) (fun h55 => ?_)
                · refine q_iload_n C dX3_tellParameters_129 (n := 130) rfl rfl ?_
                  refine q_iconst C dX3_tellParameters_130 (n := 131) rfl ?_
                  refine q_iadd C dX3_tellParameters_131 (n := 132) rfl (v := u5 + 1) rfl ?_
                  refine q_aload_n C dX3_tellParameters_132 (n := 133) rfl rfl ?_
                  have g56 := zI.at hI50 h_row.2.2.2.2.2.2.2.2.2.2
                  refine q_getI C dX3_tellParameters_133 (n := 136) rfl f_X3_134 h_row.1 (v := M48 rr 3) rfl ?_
                  have J_57 : zK w p e 3 0 0 s m args below meth c 4 T Po 173 [.ref (w.2.1 + a), .ref (w.2.1 + rr), zi v1, zi u5] [] (T, M48, J7, R) := by
                    refine q_iinc C [.ref (w.2.1 + a), .ref (w.2.1 + rr), zi v1, zi (u5 + 2)] dX3_tellParameters_173 (n := 176) rfl rfl rfl rfl ?_
                    refine q_goto C 15 dX3_tellParameters_176 rfl ?_
                    exact zK.weak (ih14 (u5 + 2) M48 J7 hI50 hK51 (by omega) (by omega) (by omega)) (zwk_c (zwk_c (zwk_c (zwk_c zwk_e))))
                  refine q_icmp_ge C 173 dX3_tellParameters_136 (n := 139) rfl rfl (by omega) (fun h58 => ?_) (fun h58 => ?_)
                  · exact zK.weak (J_57) (zwk_c (zwk_c (zwk_c (zwk_c zwk_e))))
                  · refine q_aload_n C dX3_tellParameters_139 (n := 140) rfl rfl ?_
                    refine q_aload_n C dX3_tellParameters_140 (n := 141) rfl rfl ?_
                    refine q_iload_n C dX3_tellParameters_141 (n := 142) rfl rfl ?_
                    refine q_iconst C dX3_tellParameters_142 (n := 143) rfl ?_
                    refine q_iadd C dX3_tellParameters_143 (n := 144) rfl (v := u5 + 1) rfl ?_
                    refine q_bipush C dX3_tellParameters_144 (n := 146) rfl (x := 44) (by decide) ?_
                    refine q_callVp C dX3_tellParameters_146 (n := 149) rfl m_X3_101 v_yX3_isSign h0.1 ⟨by decide, rfl⟩ (c_X3_isSign (w := w) (J := J7) hI50 hF h0 h_row (u5 + 1) 44 (by omega) (by omega) (by omega)) (Nat.le_of_ble_eq_true rfl) rfl rfl (Nat.le_of_ble_eq_true rfl) ⟨Nat.le_refl _, Nat.le_refl _⟩ (fun x60 h61 => ?_)
                    refine q_if_ne C 173 dX3_tellParameters_149 (n := 152) rfl rfl (by omega) (fun h62 => ?_) (fun h62 => ?_)
                    · exact zK.weak (J_57) (zwk_c (zwk_c (zwk_c (zwk_c zwk_e))))
                    · refine q_aload_n C dX3_tellParameters_152 (n := 153) rfl rfl ?_
                      refine q_getR C dX3_tellParameters_153 (n := 156) rfl f_X3_66 h0.1 (hF _ _ _ h0.2.2.2.2.2.2.2.2.2.2.2.2.2.2.2.2.2.2.2.2.2.2.2.2.2.2.2.2.2.2.2.2.2.2.2.2.2.2.2.2.2.2.2.1) ?_
                      refine q_iconst C dX3_tellParameters_156 (n := 157) rfl ?_
                      refine q_aload_n C dX3_tellParameters_157 (n := 158) rfl rfl ?_
                      refine q_getR C dX3_tellParameters_158 (n := 161) rfl f_X3_105 h_row.1 (hF _ _ _ h_row.2.2.2.2.1) ?_
                      refine q_iload_n C dX3_tellParameters_161 (n := 162) rfl rfl ?_
                      refine q_iconst C dX3_tellParameters_162 (n := 163) rfl ?_
                      refine q_iadd C dX3_tellParameters_163 (n := 164) rfl (v := u5 + 1) rfl ?_
                      have g63 := zI.at hI (h_row.2.2.2.2.2.2.1 (u5 + 1))
                      refine q_iald C dX3_tellParameters_164 (n := 165) rfl h_row.2.2.2.2.2.1 (by omega) (v := M (rr + 2) (u5 + 1)) ((zup_n e49 (zne_t (h_row.2.2.2.2.2.2.1 (u5 + 1)) h0.2.2.2.2.2.2.2.2.2.2.2.2.2.2.2.2.2.2.2.2.2.2.2.2.2.2.2.2.2.2.2.2.2.2.2.2.2.2.2.2.2.2.2.2.2.2.2.2 (by decide))).trans ((zup_n e45 (zne_t (h_row.2.2.2.2.2.2.1 (u5 + 1)) (h0.2.2.2.2.2.2.2.2.2.2.2.2.2.2.2.2.2.2.2.2.2.2.2.2.2.2.2.2.2.2.2.2.2.2.2.2.2.2.2.2.2.2.2.2.2.2.2.1 (M6 a 17)) (by decide))).trans (hK9 _ _ (zle_t (h_row.2.2.2.2.2.2.1 (u5 + 1)) (by decide))))) ?_
                      refine q_callVv C dX3_tellParameters_165 (n := 168) rfl m_X3_139 v_yX1_meet h0.2.2.2.2.2.2.2.2.2.2.2.2.2.2.2.2.2.2.2.2.2.2.2.2.2.2.2.2.2.2.2.2.2.2.2.2.2.2.2.2.2.2.2.2.1.1 ⟨by decide, rfl⟩ (c_X1_meet (w := w) (J := J7) hI50 hF h0.2.2.2.2.2.2.2.2.2.2.2.2.2.2.2.2.2.2.2.2.2.2.2.2.2.2.2.2.2.2.2.2.2.2.2.2.2.2.2.2.2.2.2.2.1 2 (M (rr + 2) (u5 + 1)) (by omega) (by omega)) (Nat.le_of_ble_eq_true rfl) rfl rfl (Nat.le_of_ble_eq_true rfl) ⟨Nat.le_refl _, Nat.le_refl _⟩ (fun M64 J65  hI66 h67 => ?_)
                      have hK69 := hK51.tr h67 (by decide)
                      refine q_aload_n C dX3_tellParameters_168 (n := 169) rfl rfl ?_
                      have g70 := zI.at hI66 h_row.2.2.2.2.2.2.2.2.2.2
                      refine q_getI C dX3_tellParameters_169 (n := 172) rfl f_X3_134 h_row.1 (v := M64 rr 3) rfl ?_
                      exact q_iret C dX3_tellParameters_172 ⟨rfl, rfl⟩ (by rw [hPo]; exact ⟨M64 rr 3, M64, J65, rfl, rfl, hI66, hK69, by omega⟩)
                · refine q_iload_n C dX3_tellParameters_125 (n := 126) rfl rfl ?_
                  refine q_iconst C dX3_tellParameters_126 (n := 127) rfl ?_
                  refine q_iadd C dX3_tellParameters_127 (n := 128) rfl (v := u5 + 2) rfl ?_
                  exact q_iret C dX3_tellParameters_128 ⟨rfl, rfl⟩ (by rw [hPo]; exact ⟨u5 + 2, M48, J7, rfl, rfl, hI50, hK51, by omega⟩)
              · refine q_aload_n C dX3_tellParameters_72 (n := 73) rfl rfl ?_
                refine q_getR C dX3_tellParameters_73 (n := 76) rfl f_X3_66 h0.1 (hF _ _ _ h0.2.2.2.2.2.2.2.2.2.2.2.2.2.2.2.2.2.2.2.2.2.2.2.2.2.2.2.2.2.2.2.2.2.2.2.2.2.2.2.2.2.2.2.1) ?_
                refine q_bipush C dX3_tellParameters_76 (n := 78) rfl (x := 7) (by decide) ?_
                refine q_aload_n C dX3_tellParameters_78 (n := 79) rfl rfl ?_
                refine q_getR C dX3_tellParameters_79 (n := 82) rfl f_X3_105 h_row.1 (hF _ _ _ h_row.2.2.2.2.1) ?_
                refine q_iload_n C dX3_tellParameters_82 (n := 83) rfl rfl ?_
                refine q_iald C dX3_tellParameters_83 (n := 84) rfl h_row.2.2.2.2.2.1 (by omega) (v := M (rr + 2) u5) (hK9 _ _ (zle_t (h_row.2.2.2.2.2.2.1 u5) (by decide))) ?_
                refine q_callVv C dX3_tellParameters_84 (n := 87) rfl m_X3_139 v_yX1_meet h0.2.2.2.2.2.2.2.2.2.2.2.2.2.2.2.2.2.2.2.2.2.2.2.2.2.2.2.2.2.2.2.2.2.2.2.2.2.2.2.2.2.2.2.2.1.1 ⟨by decide, rfl⟩ (c_X1_meet (w := w) (J := J7) hI8 hF h0.2.2.2.2.2.2.2.2.2.2.2.2.2.2.2.2.2.2.2.2.2.2.2.2.2.2.2.2.2.2.2.2.2.2.2.2.2.2.2.2.2.2.2.2.1 7 (M (rr + 2) u5) (by omega) (by omega)) (Nat.le_of_ble_eq_true rfl) rfl rfl (Nat.le_of_ble_eq_true rfl) ⟨Nat.le_refl _, Nat.le_refl _⟩ (fun M71 J72  hI73 h74 => ?_)
                have hK76 := hK9.tr h74 (by decide)
                refine q_aload_n C dX3_tellParameters_87 (n := 88) rfl rfl ?_
                have g77 := zI.at hI73 h_row.2.2.2.2.2.2.2.2.2.2
                refine q_getI C dX3_tellParameters_88 (n := 91) rfl f_X3_134 h_row.1 (v := M71 rr 3) rfl ?_
                exact q_iret C dX3_tellParameters_91 ⟨rfl, rfl⟩ (by rw [hPo]; exact ⟨M71 rr 3, M71, J72, rfl, rfl, hI73, hK76, by omega⟩)
            · exact zK.weak (J_29) (zwk_c (zwk_c (zwk_n (zwk_c zwk_e))))
    exact zK.weak (L_12 _ 4 M J hI hK0 (by omega) (by omega) (Int.self_le_toNat _)) (zwk_c (zwk_c (zwk_c (zwk_c zwk_e))))
  · refine q_iconst C dX3_tellParameters_11 (n := 12) rfl ?_
    exact q_iret C dX3_tellParameters_12 ⟨rfl, rfl⟩ (by rw [hPo]; exact ⟨5, M, J, rfl, rfl, hI, hK0, by omega⟩)
theorem c_X3_isBody {w : zWp} {T : zTl} {M : zMm} {J : zJm} {R : zRm'} {G : zGt} {F : zRm'} {a t q L rr : Nat} (hI : zI G M) (hF : zF F R) (h0 : zMacros T F G a t q L) (h_row : zRow T F G rr 440 (L : Int)) (v1 : Int) (v2 : Int) (p1 : L ≤ 1000000) (p2 : 0 ≤ v1 ∧ v1 ≤ 1000) (p3 : v2 = 0 ∨ v2 = 1) : zCt w 3 0 0 yX3_isBody cX3_isBody 6 (some .boolean) [.ref (w.2.1 + a), .ref (w.2.1 + rr), zi v1, zi v2] (T, M, J, R) (zPi T R G (fun x M2 => (zKp G 1 M M2) ∧ (x = 0 ∨ x = 1))) := by
  refine zCt.of rfl (Nat.le_of_ble_eq_true rfl) ?_
  intro p e s m args below meth c C
  obtain ⟨Po, hPo⟩ : ∃ Po, Po = zPi T R G (fun x M2 => (zKp G 1 M M2) ∧ (x = 0 ∨ x = 1)) := ⟨_, rfl⟩
  rw [← hPo]
  have hK0 : zKp G 1 M M := zKp.rf
  show zK w p e 3 0 0 s m args below meth c 6 T Po 0 [.ref (w.2.1 + a), .ref (w.2.1 + rr), zi v1, zi v2, .null, .null] [] (T, M, J, R)
  refine q_iload_n C dX3_isBody_0 (n := 1) rfl rfl ?_
  refine q_istore C [.ref (w.2.1 + a), .ref (w.2.1 + rr), zi v1, zi v2, zi v1, .null] dX3_isBody_1 (n := 3) rfl rfl rfl ?_
  have L_4 : ∀ n5 : Nat, ∀ (u1 : Int), (-2147483648 ≤ u1 ∧ u1 ≤ 2147483647) → (v1 ≤ u1 ∧ u1 ≤ 1440) → (1500 - u1 ≤ (n5 : Int)) → zK w p e 3 0 0 s m args below meth c 6 T Po 3 [.ref (w.2.1 + a), .ref (w.2.1 + rr), zi v1, zi v2, zi u1, .null] [] (T, M, J, R) := by
    intro n5
    induction n5 with
    | zero =>
      intro u1 h2 h3 hm7
      exfalso
      omega
    | succ n5 ih6 =>
      intro u1 h2 h3 hm7
      refine q_iload C dX3_isBody_3 (n := 5) rfl rfl ?_
      refine q_aload_n C dX3_isBody_5 (n := 6) rfl rfl ?_
      have g8 := zI.at hI h_row.2.2.2.2.2.2.2.2.2.2
      refine q_getI C dX3_isBody_6 (n := 9) rfl f_X3_134 h_row.1 (v := M rr 3) rfl ?_
      refine q_icmp_ge C 165 dX3_isBody_9 (n := 12) rfl rfl (by omega) (fun h9 => ?_) (fun h9 => ?_)
      · refine q_iconst C dX3_isBody_165 (n := 166) rfl ?_
        exact q_zret C dX3_isBody_166 ⟨rfl, rfl⟩ (by omega) (by rw [hPo]; exact ⟨1, M, J, rfl, rfl, hI, hK0, by omega⟩)
      · refine q_iload C dX3_isBody_12 (n := 14) rfl rfl ?_
        refine q_iload_n C dX3_isBody_14 (n := 15) rfl rfl ?_
        have J_13 : ∀ (u10 : Int), (-2147483648 ≤ u10 ∧ u10 ≤ 2147483647) → (u10 = 0 ∨ u10 = 1) → zK w p e 3 0 0 s m args below meth c 6 T Po 49 [.ref (w.2.1 + a), .ref (w.2.1 + rr), zi v1, zi v2, zi u1, .null] [zi u10] (T, M, J, R) := by
          intro u10 h11 h12
          refine q_istore C [.ref (w.2.1 + a), .ref (w.2.1 + rr), zi v1, zi v2, zi u1, zi u10] dX3_isBody_49 (n := 51) rfl rfl rfl ?_
          refine q_aload_n C dX3_isBody_51 (n := 52) rfl rfl ?_
          refine q_aload_n C dX3_isBody_52 (n := 53) rfl rfl ?_
          refine q_iload C dX3_isBody_53 (n := 55) rfl rfl ?_
          refine q_sipush C dX3_isBody_55 (n := 58) rfl (x := 8995) (by decide) ?_
          refine q_callVp C dX3_isBody_58 (n := 61) rfl m_X3_101 v_yX3_isSign h0.1 ⟨by decide, rfl⟩ (c_X3_isSign (w := w) (J := J) hI hF h0 h_row u1 8995 (by omega) (by omega) (by omega)) (Nat.le_of_ble_eq_true rfl) rfl rfl (Nat.le_of_ble_eq_true rfl) ⟨Nat.le_refl _, Nat.le_refl _⟩ (fun x15 h16 => ?_)
          have J_17 : zK w p e 3 0 0 s m args below meth c 6 T Po 86 [.ref (w.2.1 + a), .ref (w.2.1 + rr), zi v1, zi v2, zi u1, .null] [] (T, M, J, R) := by
            refine q_iload_n C dX3_isBody_86 (n := 87) rfl rfl ?_
            have J_18 : zK w p e 3 0 0 s m args below meth c 6 T Po 132 [.ref (w.2.1 + a), .ref (w.2.1 + rr), zi v1, zi v2, zi u1, .null] [] (T, M, J, R) := by
              refine q_iload C dX3_isBody_132 (n := 134) rfl rfl ?_
              refine q_iload_n C dX3_isBody_134 (n := 135) rfl rfl ?_
              refine q_isub C dX3_isBody_135 (n := 136) rfl (v := u1 - v1) rfl ?_
              refine q_bipush C dX3_isBody_136 (n := 138) rfl (x := 20) (by decide) ?_
              refine q_icmp_lt C 159 dX3_isBody_138 (n := 141) rfl rfl (by omega) (fun h19 => ?_) (fun h19 => ?_)
              · refine q_iinc C [.ref (w.2.1 + a), .ref (w.2.1 + rr), zi v1, zi v2, zi (u1 + 1), .null] dX3_isBody_159 (n := 162) rfl rfl rfl rfl ?_
                refine q_goto C 3 dX3_isBody_162 rfl ?_
                exact zK.weak (ih6 (u1 + 1) (by omega) (by omega) (by omega)) (zwk_c (zwk_c (zwk_c (zwk_c (zwk_c (zwk_n zwk_e))))))
              · refine q_aload_n C dX3_isBody_141 (n := 142) rfl rfl ?_
                refine q_getR C dX3_isBody_142 (n := 145) rfl f_X3_66 h0.1 (hF _ _ _ h0.2.2.2.2.2.2.2.2.2.2.2.2.2.2.2.2.2.2.2.2.2.2.2.2.2.2.2.2.2.2.2.2.2.2.2.2.2.2.2.2.2.2.2.1) ?_
                refine q_bipush C dX3_isBody_145 (n := 147) rfl (x := 7) (by decide) ?_
                refine q_aload_n C dX3_isBody_147 (n := 148) rfl rfl ?_
                refine q_getR C dX3_isBody_148 (n := 151) rfl f_X3_105 h_row.1 (hF _ _ _ h_row.2.2.2.2.1) ?_
                refine q_iload C dX3_isBody_151 (n := 153) rfl rfl ?_
                have g20 := zI.at hI (h_row.2.2.2.2.2.2.1 u1)
                refine q_iald C dX3_isBody_153 (n := 154) rfl h_row.2.2.2.2.2.1 (by omega) (v := M (rr + 2) u1) rfl ?_
                refine q_callVv C dX3_isBody_154 (n := 157) rfl m_X3_139 v_yX1_meet h0.2.2.2.2.2.2.2.2.2.2.2.2.2.2.2.2.2.2.2.2.2.2.2.2.2.2.2.2.2.2.2.2.2.2.2.2.2.2.2.2.2.2.2.2.1.1 ⟨by decide, rfl⟩ (c_X1_meet (w := w) (J := J) hI hF h0.2.2.2.2.2.2.2.2.2.2.2.2.2.2.2.2.2.2.2.2.2.2.2.2.2.2.2.2.2.2.2.2.2.2.2.2.2.2.2.2.2.2.2.2.1 7 (M (rr + 2) u1) (by omega) (by omega)) (Nat.le_of_ble_eq_true rfl) rfl rfl (Nat.le_of_ble_eq_true rfl) ⟨Nat.le_refl _, Nat.le_refl _⟩ (fun M21 J22  hI23 h24 => ?_)
                have hK26 := hK0.tr h24 (by decide)
                refine q_iconst C dX3_isBody_157 (n := 158) rfl ?_
                exact q_zret C dX3_isBody_158 ⟨rfl, rfl⟩ (by omega) (by rw [hPo]; exact ⟨0, M21, J22, rfl, rfl, hI23, hK26, by omega⟩)
            refine q_if_eq C 132 dX3_isBody_87 (n := 90) rfl rfl (by omega) (fun h27 => ?_) (fun h27 => ?_)
            · exact zK.weak (J_18) (zwk_c (zwk_c (zwk_c (zwk_c (zwk_c (zwk_n zwk_e))))))
            · refine q_aload_n C dX3_isBody_90 (n := 91) rfl rfl ?_
              refine q_aload_n C dX3_isBody_91 (n := 92) rfl rfl ?_
              refine q_iload C dX3_isBody_92 (n := 94) rfl rfl ?_
              refine q_bipush C dX3_isBody_94 (n := 96) rfl (x := 35) (by decide) ?_
              refine q_callVp C dX3_isBody_96 (n := 99) rfl m_X3_101 v_yX3_isSign h0.1 ⟨by decide, rfl⟩ (c_X3_isSign (w := w) (J := J) hI hF h0 h_row u1 35 (by omega) (by omega) (by omega)) (Nat.le_of_ble_eq_true rfl) rfl rfl (Nat.le_of_ble_eq_true rfl) ⟨Nat.le_refl _, Nat.le_refl _⟩ (fun x29 h30 => ?_)
              refine q_if_eq C 132 dX3_isBody_99 (n := 102) rfl rfl (by omega) (fun h31 => ?_) (fun h31 => ?_)
              · exact zK.weak (J_18) (zwk_c (zwk_c (zwk_c (zwk_c (zwk_c (zwk_n zwk_e))))))
              · refine q_aload_n C dX3_isBody_102 (n := 103) rfl rfl ?_
                refine q_aload_n C dX3_isBody_103 (n := 104) rfl rfl ?_
                refine q_iload C dX3_isBody_104 (n := 106) rfl rfl ?_
                refine q_iconst C dX3_isBody_106 (n := 107) rfl ?_
                refine q_iadd C dX3_isBody_107 (n := 108) rfl (v := u1 + 1) rfl ?_
                refine q_callVp C dX3_isBody_108 (n := 111) rfl m_X3_155 v_yX3_parameterAt h0.1 ⟨by decide, rfl⟩ (c_X3_parameterAt (w := w) (J := J) hI hF h0 h_row (u1 + 1) (by omega) (by omega)) (Nat.le_of_ble_eq_true rfl) rfl rfl (Nat.le_of_ble_eq_true rfl) ⟨Nat.le_refl _, Nat.le_refl _⟩ (fun x33 h34 => ?_)
                refine q_iconst C dX3_isBody_111 (n := 112) rfl ?_
                refine q_icmp_ne C 132 dX3_isBody_112 (n := 115) rfl rfl (by omega) (fun h35 => ?_) (fun h35 => ?_)
                · exact zK.weak (J_18) (zwk_c (zwk_c (zwk_c (zwk_c (zwk_c (zwk_n zwk_e))))))
                · refine q_aload_n C dX3_isBody_115 (n := 116) rfl rfl ?_
                  refine q_getR C dX3_isBody_116 (n := 119) rfl f_X3_66 h0.1 (hF _ _ _ h0.2.2.2.2.2.2.2.2.2.2.2.2.2.2.2.2.2.2.2.2.2.2.2.2.2.2.2.2.2.2.2.2.2.2.2.2.2.2.2.2.2.2.2.1) ?_
                  refine q_iconst C dX3_isBody_119 (n := 120) rfl ?_
                  refine q_aload_n C dX3_isBody_120 (n := 121) rfl rfl ?_
                  refine q_getR C dX3_isBody_121 (n := 124) rfl f_X3_105 h_row.1 (hF _ _ _ h_row.2.2.2.2.1) ?_
                  refine q_iload C dX3_isBody_124 (n := 126) rfl rfl ?_
                  have g36 := zI.at hI (h_row.2.2.2.2.2.2.1 u1)
                  refine q_iald C dX3_isBody_126 (n := 127) rfl h_row.2.2.2.2.2.1 (by omega) (v := M (rr + 2) u1) rfl ?_
                  refine q_callVv C dX3_isBody_127 (n := 130) rfl m_X3_139 v_yX1_meet h0.2.2.2.2.2.2.2.2.2.2.2.2.2.2.2.2.2.2.2.2.2.2.2.2.2.2.2.2.2.2.2.2.2.2.2.2.2.2.2.2.2.2.2.2.1.1 ⟨by decide, rfl⟩ (c_X1_meet (w := w) (J := J) hI hF h0.2.2.2.2.2.2.2.2.2.2.2.2.2.2.2.2.2.2.2.2.2.2.2.2.2.2.2.2.2.2.2.2.2.2.2.2.2.2.2.2.2.2.2.2.1 2 (M (rr + 2) u1) (by omega) (by omega)) (Nat.le_of_ble_eq_true rfl) rfl rfl (Nat.le_of_ble_eq_true rfl) ⟨Nat.le_refl _, Nat.le_refl _⟩ (fun M37 J38  hI39 h40 => ?_)
                  have hK42 := hK0.tr h40 (by decide)
                  refine q_iconst C dX3_isBody_130 (n := 131) rfl ?_
                  exact q_zret C dX3_isBody_131 ⟨rfl, rfl⟩ (by omega) (by rw [hPo]; exact ⟨0, M37, J38, rfl, rfl, hI39, hK42, by omega⟩)
          refine q_if_eq C 86 dX3_isBody_61 (n := 64) rfl rfl (by omega) (fun h43 => ?_) (fun h43 => ?_)
          · exact zK.weak (J_17) (zwk_c (zwk_c (zwk_c (zwk_c (zwk_c (zwk_n zwk_e))))))
          · refine q_iload C dX3_isBody_64 (n := 66) rfl rfl ?_
            refine q_if_eq C 86 dX3_isBody_66 (n := 69) rfl rfl (by omega) (fun h44 => ?_) (fun h44 => ?_)
            · exact zK.weak (J_17) (zwk_c (zwk_c (zwk_c (zwk_c (zwk_c (zwk_n zwk_e))))))
            · refine q_aload_n C dX3_isBody_69 (n := 70) rfl rfl ?_
              refine q_getR C dX3_isBody_70 (n := 73) rfl f_X3_66 h0.1 (hF _ _ _ h0.2.2.2.2.2.2.2.2.2.2.2.2.2.2.2.2.2.2.2.2.2.2.2.2.2.2.2.2.2.2.2.2.2.2.2.2.2.2.2.2.2.2.2.1) ?_
              refine q_iconst C dX3_isBody_73 (n := 74) rfl ?_
              refine q_aload_n C dX3_isBody_74 (n := 75) rfl rfl ?_
              refine q_getR C dX3_isBody_75 (n := 78) rfl f_X3_105 h_row.1 (hF _ _ _ h_row.2.2.2.2.1) ?_
              refine q_iload C dX3_isBody_78 (n := 80) rfl rfl ?_
              have g45 := zI.at hI (h_row.2.2.2.2.2.2.1 u1)
              refine q_iald C dX3_isBody_80 (n := 81) rfl h_row.2.2.2.2.2.1 (by omega) (v := M (rr + 2) u1) rfl ?_
              refine q_callVv C dX3_isBody_81 (n := 84) rfl m_X3_139 v_yX1_meet h0.2.2.2.2.2.2.2.2.2.2.2.2.2.2.2.2.2.2.2.2.2.2.2.2.2.2.2.2.2.2.2.2.2.2.2.2.2.2.2.2.2.2.2.2.1.1 ⟨by decide, rfl⟩ (c_X1_meet (w := w) (J := J) hI hF h0.2.2.2.2.2.2.2.2.2.2.2.2.2.2.2.2.2.2.2.2.2.2.2.2.2.2.2.2.2.2.2.2.2.2.2.2.2.2.2.2.2.2.2.2.1 2 (M (rr + 2) u1) (by omega) (by omega)) (Nat.le_of_ble_eq_true rfl) rfl rfl (Nat.le_of_ble_eq_true rfl) ⟨Nat.le_refl _, Nat.le_refl _⟩ (fun M46 J47  hI48 h49 => ?_)
              have hK51 := hK0.tr h49 (by decide)
              refine q_iconst C dX3_isBody_84 (n := 85) rfl ?_
              exact q_zret C dX3_isBody_85 ⟨rfl, rfl⟩ (by omega) (by rw [hPo]; exact ⟨0, M46, J47, rfl, rfl, hI48, hK51, by omega⟩)
        have J_52 : zK w p e 3 0 0 s m args below meth c 6 T Po 44 [.ref (w.2.1 + a), .ref (w.2.1 + rr), zi v1, zi v2, zi u1, .null] [] (T, M, J, R) := by
          refine q_iconst C dX3_isBody_44 (n := 45) rfl ?_
          refine q_goto C 49 dX3_isBody_45 rfl ?_
          exact zK.weak (J_13 1 (by omega) (by omega)) (zwk_c (zwk_c (zwk_c (zwk_c (zwk_c (zwk_n zwk_e))))))
        refine q_icmp_eq C 44 dX3_isBody_15 (n := 18) rfl rfl (by omega) (fun h53 => ?_) (fun h53 => ?_)
        · exact zK.weak (J_52) (zwk_c (zwk_c (zwk_c (zwk_c (zwk_c (zwk_n zwk_e))))))
        · refine q_iload C dX3_isBody_18 (n := 20) rfl rfl ?_
          refine q_aload_n C dX3_isBody_20 (n := 21) rfl rfl ?_
          refine q_getI C dX3_isBody_21 (n := 24) rfl f_X3_134 h_row.1 (v := M rr 3) rfl ?_
          refine q_iconst C dX3_isBody_24 (n := 25) rfl ?_
          refine q_isub C dX3_isBody_25 (n := 26) rfl (v := (M rr 3) - 1) rfl ?_
          refine q_icmp_eq C 44 dX3_isBody_26 (n := 29) rfl rfl (by omega) (fun h54 => ?_) (fun h54 => ?_)
          · exact zK.weak (J_52) (zwk_c (zwk_c (zwk_c (zwk_c (zwk_c (zwk_n zwk_e))))))
          · refine q_aload_n C dX3_isBody_29 (n := 30) rfl rfl ?_
            refine q_aload_n C dX3_isBody_30 (n := 31) rfl rfl ?_
            refine q_iload C dX3_isBody_31 (n := 33) rfl rfl ?_
            refine q_iconst C dX3_isBody_33 (n := 34) rfl ?_
            refine q_isub C dX3_isBody_34 (n := 35) rfl (v := u1 - 1) rfl ?_
            refine q_sipush C dX3_isBody_35 (n := 38) rfl (x := 8995) (by decide) ?_
            refine q_callVp C dX3_isBody_38 (n := 41) rfl m_X3_101 v_yX3_isSign h0.1 ⟨by decide, rfl⟩ (c_X3_isSign (w := w) (J := J) hI hF h0 h_row (u1 - 1) 8995 (by omega) (by omega) (by omega)) (Nat.le_of_ble_eq_true rfl) rfl rfl (Nat.le_of_ble_eq_true rfl) ⟨Nat.le_refl _, Nat.le_refl _⟩ (fun x56 h57 => ?_)
            refine q_if_eq C 48 dX3_isBody_41 (n := 44) rfl rfl (by omega) (fun h58 => ?_) (fun h58 => ?_)
            · refine q_iconst C dX3_isBody_48 (n := 49) rfl ?_
              exact zK.weak (J_13 0 (by omega) (by omega)) (zwk_c (zwk_c (zwk_c (zwk_c (zwk_c (zwk_n zwk_e))))))
            · exact zK.weak (J_52) (zwk_c (zwk_c (zwk_c (zwk_c (zwk_c (zwk_n zwk_e))))))
  exact zK.weak (L_4 _ v1 (by omega) (by omega) (Int.self_le_toNat _)) (zwk_c (zwk_c (zwk_c (zwk_c (zwk_c (zwk_n zwk_e))))))
theorem c_X3_makeItems {w : zWp} {T : zTl} {M : zMm} {J : zJm} {R : zRm'} {G : zGt} {F : zRm'} {a t q L rr : Nat} (hI : zI G M) (hF : zF F R) (h0 : zMacros T F G a t q L) (v0 : Int) (h_row : zRow T F G rr 440 (L : Int)) (v1 : Int) (v2 : Int) (p1 : L ≤ 1000000) (p2 : 0 ≤ v0 ∧ v0 ≤ 11) (p3 : 0 ≤ v1 ∧ v1 ≤ 1000) (p4 : v2 = 0 ∨ v2 = 1) : zCt w 3 0 0 yX3_makeItems cX3_makeItems 11 none [.ref (w.2.1 + a), zi v0, .ref (w.2.1 + rr), zi v1, zi v2] (T, M, J, R) (zPv T R G (fun M2 => (zKp G 4 M M2))) := by
  refine zCt.of rfl (Nat.le_of_ble_eq_true rfl) ?_
  intro p e s m args below meth c C
  obtain ⟨Po, hPo⟩ : ∃ Po, Po = zPv T R G (fun M2 => (zKp G 4 M M2)) := ⟨_, rfl⟩
  rw [← hPo]
  have hK0 : zKp G 4 M M := zKp.rf
  show zK w p e 3 0 0 s m args below meth c 11 T Po 0 [.ref (w.2.1 + a), zi v0, .ref (w.2.1 + rr), zi v1, zi v2, .null, .null, .null, .null, .null, .null] [] (T, M, J, R)
  refine q_aload_n C dX3_makeItems_0 (n := 1) rfl rfl ?_
  refine q_getR C dX3_makeItems_1 (n := 4) rfl f_X3_41 h0.1 (hF _ _ _ h0.2.2.2.2.2.2.2.2.2.2.2.2.2.2.2.2.2.2.2.2.2.2.2.2.2.2.1) ?_
  refine q_iload_n C dX3_makeItems_4 (n := 5) rfl rfl ?_
  refine q_iconst C dX3_makeItems_5 (n := 6) rfl ?_
  refine q_iast C dX3_makeItems_6 (n := 7) rfl h0.2.2.2.2.2.2.2.2.2.2.2.2.2.2.2.2.2.2.2.2.2.2.2.2.2.2.2.1 (by omega)  (fun M1 e2 => ?_)
  have hI3 : zI G M1 := hI.put e2 (h0.2.2.2.2.2.2.2.2.2.2.2.2.2.2.2.2.2.2.2.2.2.2.2.2.2.2.2.2.1 v0) rfl (by omega)
  have hK4 := hK0.put e2 (h0.2.2.2.2.2.2.2.2.2.2.2.2.2.2.2.2.2.2.2.2.2.2.2.2.2.2.2.2.1 v0) (by decide)
  refine q_iconst C dX3_makeItems_7 (n := 8) rfl ?_
  refine q_istore C [.ref (w.2.1 + a), zi v0, .ref (w.2.1 + rr), zi v1, zi v2, zi 0, .null, .null, .null, .null, .null] dX3_makeItems_8 (n := 10) rfl rfl rfl ?_
  refine q_iload_n C dX3_makeItems_10 (n := 11) rfl rfl ?_
  refine q_istore C [.ref (w.2.1 + a), zi v0, .ref (w.2.1 + rr), zi v1, zi v2, zi 0, zi v1, .null, .null, .null, .null] dX3_makeItems_11 (n := 13) rfl rfl rfl ?_
  have L_14 : ∀ n15 : Nat, ∀ (u5 : Int) (u6 : Int) (M7 : zMm) (J8 : zJm), zI G M7 → zKp G 4 M M7 → (-2147483648 ≤ u5 ∧ u5 ≤ 2147483647) → (-2147483648 ≤ u6 ∧ u6 ≤ 2147483647) → (v1 ≤ u6 ∧ u6 ≤ 1440) → (1500 - u6 ≤ (n15 : Int)) → zK w p e 3 0 0 s m args below meth c 11 T Po 13 [.ref (w.2.1 + a), zi v0, .ref (w.2.1 + rr), .null, zi v2, zi u5, zi u6, .null, .null, .null, .null] [] (T, M7, J8, R) := by
    intro n15
    induction n15 with
    | zero =>
      intro u5 u6 M7 J8 hI9 hK10 h11 h12 h13 hm17
      exfalso
      omega
    | succ n15 ih16 =>
      intro u5 u6 M7 J8 hI9 hK10 h11 h12 h13 hm17
      refine q_iload C dX3_makeItems_13 (n := 15) rfl rfl ?_
      refine q_aload_n C dX3_makeItems_15 (n := 16) rfl rfl ?_
      have g18 := zI.at hI9 h_row.2.2.2.2.2.2.2.2.2.2
      refine q_getI C dX3_makeItems_16 (n := 19) rfl f_X3_134 h_row.1 (v := M7 rr 3) rfl ?_
      refine q_icmp_ge C 165 dX3_makeItems_19 (n := 22) rfl rfl (by omega) (fun h19 => ?_) (fun h19 => ?_)
      · exact q_vret C dX3_makeItems_165 ⟨rfl, rfl⟩ (by rw [hPo]; exact ⟨M7, J8, rfl, rfl, hI9, hK10⟩)
      · refine q_aload_n C dX3_makeItems_22 (n := 23) rfl rfl ?_
        refine q_aload_n C dX3_makeItems_23 (n := 24) rfl rfl ?_
        refine q_iload C dX3_makeItems_24 (n := 26) rfl rfl ?_
        refine q_sipush C dX3_makeItems_26 (n := 29) rfl (x := 8995) (by decide) ?_
        refine q_callVp C dX3_makeItems_29 (n := 32) rfl m_X3_101 v_yX3_isSign h0.1 ⟨by decide, rfl⟩ (c_X3_isSign (w := w) (J := J8) hI9 hF h0 h_row u6 8995 (by omega) (by omega) (by omega)) (Nat.le_of_ble_eq_true rfl) rfl rfl (Nat.le_of_ble_eq_true rfl) ⟨Nat.le_refl _, Nat.le_refl _⟩ (fun x21 h22 => ?_)
        have J_32 : ∀ (u23 : Int) (u24 : Int) (M25 : zMm) (J26 : zJm), zI G M25 → zKp G 4 M M25 → (-2147483648 ≤ u23 ∧ u23 ≤ 2147483647) → (-2147483648 ≤ u24 ∧ u24 ≤ 2147483647) → (u6 ≤ u24 ∧ u24 ≤ u6 + 1) → zK w p e 3 0 0 s m args below meth c 11 T Po 159 [.ref (w.2.1 + a), zi v0, .ref (w.2.1 + rr), .null, zi v2, zi u23, zi u24, .null, .null, .null, .null] [] (T, M25, J26, R) := by
          intro u23 u24 M25 J26 hI27 hK28 h29 h30 h31
          refine q_iinc C [.ref (w.2.1 + a), zi v0, .ref (w.2.1 + rr), .null, zi v2, zi u23, zi (u24 + 1), .null, .null, .null, .null] dX3_makeItems_159 (n := 162) rfl rfl rfl rfl ?_
          refine q_goto C 13 dX3_makeItems_162 rfl ?_
          exact zK.weak (ih16 u23 (u24 + 1) M25 J26 hI27 hK28 (by omega) (by omega) (by omega) (by omega)) (zwk_c (zwk_c (zwk_c (zwk_n (zwk_c (zwk_c (zwk_c (zwk_n (zwk_n (zwk_n (zwk_n zwk_e)))))))))))
        refine q_if_eq C 42 dX3_makeItems_32 (n := 35) rfl rfl (by omega) (fun h33 => ?_) (fun h33 => ?_)
        · refine q_aload_n C dX3_makeItems_42 (n := 43) rfl rfl ?_
          refine q_getR C dX3_makeItems_43 (n := 46) rfl f_X3_105 h_row.1 (hF _ _ _ h_row.2.2.2.2.1) ?_
          refine q_iload C dX3_makeItems_46 (n := 48) rfl rfl ?_
          have g34 := zI.at hI9 (h_row.2.2.2.2.2.2.1 u6)
          refine q_iald C dX3_makeItems_48 (n := 49) rfl h_row.2.2.2.2.2.1 (by omega) (v := M7 (rr + 2) u6) rfl ?_
          refine q_istore C [.ref (w.2.1 + a), zi v0, .ref (w.2.1 + rr), .null, zi v2, zi u5, zi u6, zi (M7 (rr + 2) u6), .null, .null, .null] dX3_makeItems_49 (n := 51) rfl rfl rfl ?_
          refine q_aload_n C dX3_makeItems_51 (n := 52) rfl rfl ?_
          refine q_getR C dX3_makeItems_52 (n := 55) rfl f_X3_128 h_row.1 (hF _ _ _ h_row.2.1) ?_
          refine q_iload C dX3_makeItems_55 (n := 57) rfl rfl ?_
          have g35 := zI.at hI9 (h_row.2.2.2.1 u6)
          have g36 : M7 (rr + 1) u6 + zand (M7 (rr + 2) u6) 31 ≤ (L : Int) ∧ zand (M7 (rr + 2) u6) 31 ≤ 30 := zI.row hI9 (h_row.2.2.2.1 u6)
          refine q_iald C dX3_makeItems_57 (n := 58) rfl h_row.2.2.1 (by omega) (v := M7 (rr + 1) u6) rfl ?_
          refine q_istore C [.ref (w.2.1 + a), zi v0, .ref (w.2.1 + rr), .null, zi v2, zi u5, zi u6, zi (M7 (rr + 2) u6), zi (M7 (rr + 1) u6), .null, .null] dX3_makeItems_58 (n := 60) rfl rfl rfl ?_
          refine q_iconst C dX3_makeItems_60 (n := 61) rfl ?_
          refine q_istore C [.ref (w.2.1 + a), zi v0, .ref (w.2.1 + rr), .null, zi v2, zi u5, zi u6, zi (M7 (rr + 2) u6), zi (M7 (rr + 1) u6), zi 0, .null] dX3_makeItems_61 (n := 63) rfl rfl rfl ?_
          refine q_aload_n C dX3_makeItems_63 (n := 64) rfl rfl ?_
          refine q_aload_n C dX3_makeItems_64 (n := 65) rfl rfl ?_
          refine q_iload C dX3_makeItems_65 (n := 67) rfl rfl ?_
          refine q_callVp C dX3_makeItems_67 (n := 70) rfl m_X3_155 v_yX3_parameterAt h0.1 ⟨by decide, rfl⟩ (c_X3_parameterAt (w := w) (J := J8) hI9 hF h0 h_row u6 (by omega) (by omega)) (Nat.le_of_ble_eq_true rfl) rfl rfl (Nat.le_of_ble_eq_true rfl) ⟨Nat.le_refl _, Nat.le_refl _⟩ (fun x38 h39 => ?_)
          refine q_istore C [.ref (w.2.1 + a), zi v0, .ref (w.2.1 + rr), .null, zi v2, zi u5, zi u6, zi (M7 (rr + 2) u6), zi (M7 (rr + 1) u6), zi 0, zi x38] dX3_makeItems_70 (n := 72) rfl rfl rfl ?_
          refine q_iload C dX3_makeItems_72 (n := 74) rfl rfl ?_
          have J_48 : ∀ (u40 : Int) (u41 : Int) (u42 : Int), (-2147483648 ≤ u40 ∧ u40 ≤ 2147483647) → (-2147483648 ≤ u41 ∧ u41 ≤ 2147483647) → (-2147483648 ≤ u42 ∧ u42 ≤ 2147483647) → (u6 ≤ u40 ∧ u40 ≤ u6 + 1) → (-1 ≤ u42 ∧ u42 ≤ 3) → zK w p e 3 0 0 s m args below meth c 11 T Po 140 [.ref (w.2.1 + a), zi v0, .ref (w.2.1 + rr), .null, zi v2, zi u5, zi u40, zi (M7 (rr + 2) u6), zi (M7 (rr + 1) u6), zi u41, zi u42] [] (T, M7, J8, R) := by
            intro u40 u41 u42 h43 h44 h45 h46 h47
            refine q_aload_n C dX3_makeItems_140 (n := 141) rfl rfl ?_
            refine q_iload_n C dX3_makeItems_141 (n := 142) rfl rfl ?_
            refine q_iload C dX3_makeItems_142 (n := 144) rfl rfl ?_
            refine q_iload C dX3_makeItems_144 (n := 146) rfl rfl ?_
            refine q_ior C dX3_makeItems_146 (n := 147) rfl (v := zor u41 u5) rfl ?_
            have g49 := zr_or u41 u5
            have g50 : zand u41 31 = 0 → zand (zor u41 u5) 31 = zand u5 31 := fun h => zl_or h
            refine q_iload C dX3_makeItems_147 (n := 149) rfl rfl ?_
            refine q_iload C dX3_makeItems_149 (n := 151) rfl rfl ?_
            refine q_iload C dX3_makeItems_151 (n := 153) rfl rfl ?_
            refine q_callVv C dX3_makeItems_153 (n := 156) rfl m_X3_93 v_yX3_addItem h0.1 ⟨by decide, rfl⟩ (c_X3_addItem (w := w) (J := J8) hI9 hF h0 v0 (zor u41 u5) u42 (M7 (rr + 1) u6) (M7 (rr + 2) u6) (by omega) (by omega) (by omega) (by omega) (by omega)) (Nat.le_of_ble_eq_true rfl) rfl rfl (Nat.le_of_ble_eq_true rfl) ⟨Nat.le_refl _, Nat.le_refl _⟩ (fun M51 J52  hI53 h54 => ?_)
            have hK56 := hK10.tr h54 (by decide)
            refine q_iconst C dX3_makeItems_156 (n := 157) rfl ?_
            refine q_istore C [.ref (w.2.1 + a), zi v0, .ref (w.2.1 + rr), .null, zi v2, zi 0, zi u40, zi (M7 (rr + 2) u6), zi (M7 (rr + 1) u6), zi u41, zi u42] dX3_makeItems_157 (n := 159) rfl rfl rfl ?_
            exact zK.weak (J_32 0 u40 M51 J52 hI53 hK56 (by omega) (by omega) (by omega)) (zwk_c (zwk_c (zwk_c (zwk_n (zwk_c (zwk_c (zwk_c (zwk_n (zwk_n (zwk_n (zwk_n zwk_e)))))))))))
          have J_57 : zK w p e 3 0 0 s m args below meth c 11 T Po 107 [.ref (w.2.1 + a), zi v0, .ref (w.2.1 + rr), .null, zi v2, zi u5, zi u6, zi (M7 (rr + 2) u6), zi (M7 (rr + 1) u6), zi 0, zi x38] [] (T, M7, J8, R) := by
            refine q_iload C dX3_makeItems_107 (n := 109) rfl rfl ?_
            refine q_iconst C dX3_makeItems_109 (n := 110) rfl ?_
            refine q_icmp_eq C 140 dX3_makeItems_110 (n := 113) rfl rfl (by omega) (fun h58 => ?_) (fun h58 => ?_)
            · exact zK.weak (J_48 u6 0 x38 (by omega) (by omega) (by omega) (by omega) (by omega)) (zwk_c (zwk_c (zwk_c (zwk_n (zwk_c (zwk_c (zwk_c (zwk_c (zwk_c (zwk_c (zwk_c zwk_e)))))))))))
            · refine q_iload C dX3_makeItems_113 (n := 115) rfl rfl ?_
              have J_61 : ∀ (u59 : Int), (-2147483648 ≤ u59 ∧ u59 ≤ 2147483647) → zK w p e 3 0 0 s m args below meth c 11 T Po 138 [.ref (w.2.1 + a), zi v0, .ref (w.2.1 + rr), .null, zi v2, zi u5, zi u6, zi (M7 (rr + 2) u6), zi (M7 (rr + 1) u6), .null, zi x38] [zi u59] (T, M7, J8, R) := by
                intro u59 h60
                refine q_istore C [.ref (w.2.1 + a), zi v0, .ref (w.2.1 + rr), .null, zi v2, zi u5, zi u6, zi (M7 (rr + 2) u6), zi (M7 (rr + 1) u6), zi u59, zi x38] dX3_makeItems_138 (n := 140) rfl rfl rfl ?_
                exact zK.weak (J_48 u6 u59 x38 (by omega) (by omega) (by omega) (by omega) (by omega)) (zwk_c (zwk_c (zwk_c (zwk_n (zwk_c (zwk_c (zwk_c (zwk_c (zwk_c (zwk_c (zwk_c zwk_e)))))))))))
              have J_62 : zK w p e 3 0 0 s m args below meth c 11 T Po 133 [.ref (w.2.1 + a), zi v0, .ref (w.2.1 + rr), .null, zi v2, zi u5, zi u6, zi (M7 (rr + 2) u6), zi (M7 (rr + 1) u6), .null, zi x38] [] (T, M7, J8, R) := by
                refine q_iconst C dX3_makeItems_133 (n := 134) rfl ?_
                refine q_goto C 138 dX3_makeItems_134 rfl ?_
                exact zK.weak (J_61 3 (by omega)) (zwk_c (zwk_c (zwk_c (zwk_n (zwk_c (zwk_c (zwk_c (zwk_c (zwk_c (zwk_n (zwk_c zwk_e)))))))))))
              refine q_if_ne C 133 dX3_makeItems_115 (n := 118) rfl rfl (by omega) (fun h63 => ?_) (fun h63 => ?_)
              · exact zK.weak (J_62) (zwk_c (zwk_c (zwk_c (zwk_n (zwk_c (zwk_c (zwk_c (zwk_c (zwk_c (zwk_n (zwk_c zwk_e)))))))))))
              · refine q_aload_n C dX3_makeItems_118 (n := 119) rfl rfl ?_
                refine q_aload_n C dX3_makeItems_119 (n := 120) rfl rfl ?_
                refine q_iload C dX3_makeItems_120 (n := 122) rfl rfl ?_
                refine q_iconst C dX3_makeItems_122 (n := 123) rfl ?_
                refine q_iadd C dX3_makeItems_123 (n := 124) rfl (v := u6 + 1) rfl ?_
                refine q_sipush C dX3_makeItems_124 (n := 127) rfl (x := 8995) (by decide) ?_
                refine q_callVp C dX3_makeItems_127 (n := 130) rfl m_X3_101 v_yX3_isSign h0.1 ⟨by decide, rfl⟩ (c_X3_isSign (w := w) (J := J8) hI9 hF h0 h_row (u6 + 1) 8995 (by omega) (by omega) (by omega)) (Nat.le_of_ble_eq_true rfl) rfl rfl (Nat.le_of_ble_eq_true rfl) ⟨Nat.le_refl _, Nat.le_refl _⟩ (fun x65 h66 => ?_)
                refine q_if_eq C 137 dX3_makeItems_130 (n := 133) rfl rfl (by omega) (fun h67 => ?_) (fun h67 => ?_)
                · refine q_iconst C dX3_makeItems_137 (n := 138) rfl ?_
                  exact zK.weak (J_61 1 (by omega)) (zwk_c (zwk_c (zwk_c (zwk_n (zwk_c (zwk_c (zwk_c (zwk_c (zwk_c (zwk_n (zwk_c zwk_e)))))))))))
                · exact zK.weak (J_62) (zwk_c (zwk_c (zwk_c (zwk_n (zwk_c (zwk_c (zwk_c (zwk_c (zwk_c (zwk_n (zwk_c zwk_e)))))))))))
          refine q_if_eq C 107 dX3_makeItems_74 (n := 77) rfl rfl (by omega) (fun h68 => ?_) (fun h68 => ?_)
          · exact zK.weak (J_57) (zwk_c (zwk_c (zwk_c (zwk_n (zwk_c (zwk_c (zwk_c (zwk_c (zwk_c (zwk_c (zwk_c zwk_e)))))))))))
          · refine q_aload_n C dX3_makeItems_77 (n := 78) rfl rfl ?_
            refine q_aload_n C dX3_makeItems_78 (n := 79) rfl rfl ?_
            refine q_iload C dX3_makeItems_79 (n := 81) rfl rfl ?_
            refine q_bipush C dX3_makeItems_81 (n := 83) rfl (x := 35) (by decide) ?_
            refine q_callVp C dX3_makeItems_83 (n := 86) rfl m_X3_101 v_yX3_isSign h0.1 ⟨by decide, rfl⟩ (c_X3_isSign (w := w) (J := J8) hI9 hF h0 h_row u6 35 (by omega) (by omega) (by omega)) (Nat.le_of_ble_eq_true rfl) rfl rfl (Nat.le_of_ble_eq_true rfl) ⟨Nat.le_refl _, Nat.le_refl _⟩ (fun x70 h71 => ?_)
            refine q_if_eq C 107 dX3_makeItems_86 (n := 89) rfl rfl (by omega) (fun h72 => ?_) (fun h72 => ?_)
            · exact zK.weak (J_57) (zwk_c (zwk_c (zwk_c (zwk_n (zwk_c (zwk_c (zwk_c (zwk_c (zwk_c (zwk_c (zwk_c zwk_e)))))))))))
            · refine q_iconst C dX3_makeItems_89 (n := 90) rfl ?_
              refine q_istore C [.ref (w.2.1 + a), zi v0, .ref (w.2.1 + rr), .null, zi v2, zi u5, zi u6, zi (M7 (rr + 2) u6), zi (M7 (rr + 1) u6), zi 4, zi x38] dX3_makeItems_90 (n := 92) rfl rfl rfl ?_
              refine q_iinc C [.ref (w.2.1 + a), zi v0, .ref (w.2.1 + rr), .null, zi v2, zi u5, zi (u6 + 1), zi (M7 (rr + 2) u6), zi (M7 (rr + 1) u6), zi 4, zi x38] dX3_makeItems_92 (n := 95) rfl rfl rfl rfl ?_
              refine q_aload_n C dX3_makeItems_95 (n := 96) rfl rfl ?_
              refine q_aload_n C dX3_makeItems_96 (n := 97) rfl rfl ?_
              refine q_iload C dX3_makeItems_97 (n := 99) rfl rfl ?_
              refine q_callVp C dX3_makeItems_99 (n := 102) rfl m_X3_155 v_yX3_parameterAt h0.1 ⟨by decide, rfl⟩ (c_X3_parameterAt (w := w) (J := J8) hI9 hF h0 h_row (u6 + 1) (by omega) (by omega)) (Nat.le_of_ble_eq_true rfl) rfl rfl (Nat.le_of_ble_eq_true rfl) ⟨Nat.le_refl _, Nat.le_refl _⟩ (fun x74 h75 => ?_)
              refine q_istore C [.ref (w.2.1 + a), zi v0, .ref (w.2.1 + rr), .null, zi v2, zi u5, zi (u6 + 1), zi (M7 (rr + 2) u6), zi (M7 (rr + 1) u6), zi 4, zi x74] dX3_makeItems_102 (n := 104) rfl rfl rfl ?_
              refine q_goto C 140 dX3_makeItems_104 rfl ?_
              exact zK.weak (J_48 (u6 + 1) 4 x74 (by omega) (by omega) (by omega) (by omega) (by omega)) (zwk_c (zwk_c (zwk_c (zwk_n (zwk_c (zwk_c (zwk_c (zwk_c (zwk_c (zwk_c (zwk_c zwk_e)))))))))))
        · refine q_bipush C dX3_makeItems_35 (n := 37) rfl (x := 8) (by decide) ?_
          refine q_istore C [.ref (w.2.1 + a), zi v0, .ref (w.2.1 + rr), .null, zi v2, zi 8, zi u6, .null, .null, .null, .null] dX3_makeItems_37 (n := 39) rfl rfl rfl ?_
          refine q_goto C 159 dX3_makeItems_39 rfl ?_
          exact zK.weak (J_32 8 u6 M7 J8 hI9 hK10 (by omega) (by omega) (by omega)) (zwk_c (zwk_c (zwk_c (zwk_n (zwk_c (zwk_c (zwk_c (zwk_n (zwk_n (zwk_n (zwk_n zwk_e)))))))))))
  exact zK.weak (L_14 _ 0 v1 M1 J hI3 hK4 (by omega) (by omega) (by omega) (Int.self_le_toNat _)) (zwk_c (zwk_c (zwk_c (zwk_n (zwk_c (zwk_c (zwk_c (zwk_n (zwk_n (zwk_n (zwk_n zwk_e)))))))))))
theorem c_X3_newNumber {w : zWp} {T : zTl} {M : zMm} {J : zJm} {R : zRm'} {G : zGt} {F : zRm'} {a t q L rr : Nat} (hI : zI G M) (hF : zF F R) (h0 : zMacros T F G a t q L) (h_row : zRow T F G rr 440 (L : Int)) (v1 : Int) (p1 : L ≤ 1000000) (p2 : -2147483648 ≤ v1 ∧ v1 ≤ 2147483647) : zCt w 10 0 0 yX3_newNumber cX3_newNumber 6 (some .int) [.ref (w.2.1 + a), .ref (w.2.1 + rr), zi v1] (T, M, J, R) (zPi T R G (fun x M2 => (zKp G 1 M M2) ∧ (-1 ≤ x ∧ x ≤ 12))) := by
  refine zCt.of rfl (Nat.le_of_ble_eq_true rfl) ?_
  intro p e s m args below meth c C
  obtain ⟨Po, hPo⟩ : ∃ Po, Po = zPi T R G (fun x M2 => (zKp G 1 M M2) ∧ (-1 ≤ x ∧ x ≤ 12)) := ⟨_, rfl⟩
  rw [← hPo]
  have hK0 : zKp G 1 M M := zKp.rf
  show zK w p e 10 0 0 s m args below meth c 6 T Po 0 [.ref (w.2.1 + a), .ref (w.2.1 + rr), zi v1, .null, .null, .null] [] (T, M, J, R)
  refine q_aload_n C dX3_newNumber_0 (n := 1) rfl rfl ?_
  have g1 := zI.at hI h_row.2.2.2.2.2.2.2.2.2.2
  refine q_getI C dX3_newNumber_1 (n := 4) rfl f_X3_134 h_row.1 (v := M rr 3) rfl ?_
  refine q_iconst C dX3_newNumber_4 (n := 5) rfl ?_
  refine q_icmp_ge C 19 dX3_newNumber_5 (n := 8) rfl rfl (by omega) (fun h2 => ?_) (fun h2 => ?_)
  · refine q_aload_n C dX3_newNumber_19 (n := 20) rfl rfl ?_
    refine q_getR C dX3_newNumber_20 (n := 23) rfl f_X3_105 h_row.1 (hF _ _ _ h_row.2.2.2.2.1) ?_
    refine q_iconst C dX3_newNumber_23 (n := 24) rfl ?_
    have g3 := zI.at hI (h_row.2.2.2.2.2.2.1 2)
    refine q_iald C dX3_newNumber_24 (n := 25) rfl h_row.2.2.2.2.2.1 (by omega) (v := M (rr + 2) 2) rfl ?_
    refine q_callSp C dX3_newNumber_25 (n := 28) rfl m_X3_131 s_yX5_lengthOf (c_X5_lengthOf (w := w) (J := J) hI hF (M (rr + 2) 2)) (Nat.le_of_ble_eq_true rfl) rfl rfl (Nat.le_of_ble_eq_true rfl) ⟨Nat.le_refl _, Nat.le_refl _⟩ (fun x6 h7 => ?_)
    obtain ⟨h4, h5⟩ := h7
    refine q_istore_n C [.ref (w.2.1 + a), .ref (w.2.1 + rr), zi v1, zi x6, .null, .null] dX3_newNumber_28 (n := 29) rfl rfl rfl ?_
    refine q_aload_n C dX3_newNumber_29 (n := 30) rfl rfl ?_
    refine q_getR C dX3_newNumber_30 (n := 33) rfl f_X3_128 h_row.1 (hF _ _ _ h_row.2.1) ?_
    refine q_iconst C dX3_newNumber_33 (n := 34) rfl ?_
    have g8 := zI.at hI (h_row.2.2.2.1 2)
    have g9 : M (rr + 1) 2 + zand (M (rr + 2) 2) 31 ≤ (L : Int) ∧ zand (M (rr + 2) 2) 31 ≤ 30 := zI.row hI (h_row.2.2.2.1 2)
    refine q_iald C dX3_newNumber_34 (n := 35) rfl h_row.2.2.1 (by omega) (v := M (rr + 1) 2) rfl ?_
    refine q_istore C [.ref (w.2.1 + a), .ref (w.2.1 + rr), zi v1, zi x6, zi (M (rr + 1) 2), .null] dX3_newNumber_35 (n := 37) rfl rfl rfl ?_
    refine q_aload_n C dX3_newNumber_37 (n := 38) rfl rfl ?_
    refine q_getR C dX3_newNumber_38 (n := 41) rfl f_X3_105 h_row.1 (hF _ _ _ h_row.2.2.2.2.1) ?_
    refine q_iconst C dX3_newNumber_41 (n := 42) rfl ?_
    refine q_iald C dX3_newNumber_42 (n := 43) rfl h_row.2.2.2.2.2.1 (by omega) (v := M (rr + 2) 2) rfl ?_
    refine q_callSp C dX3_newNumber_43 (n := 46) rfl m_X3_143 s_yX5_kindOf (c_X5_kindOf (w := w) (J := J) hI hF (M (rr + 2) 2)) (Nat.le_of_ble_eq_true rfl) rfl rfl (Nat.le_of_ble_eq_true rfl) ⟨Nat.le_refl _, Nat.le_refl _⟩ (fun x11 h12 => ?_)
    have J_13 : zK w p e 10 0 0 s m args below meth c 6 T Po 70 [.ref (w.2.1 + a), .ref (w.2.1 + rr), .null, .null, .null, .null] [] (T, M, J, R) := by
      refine q_aload_n C dX3_newNumber_70 (n := 71) rfl rfl ?_
      refine q_getR C dX3_newNumber_71 (n := 74) rfl f_X3_66 h0.1 (hF _ _ _ h0.2.2.2.2.2.2.2.2.2.2.2.2.2.2.2.2.2.2.2.2.2.2.2.2.2.2.2.2.2.2.2.2.2.2.2.2.2.2.2.2.2.2.2.1) ?_
      refine q_iconst C dX3_newNumber_74 (n := 75) rfl ?_
      refine q_aload_n C dX3_newNumber_75 (n := 76) rfl rfl ?_
      refine q_getR C dX3_newNumber_76 (n := 79) rfl f_X3_105 h_row.1 (hF _ _ _ h_row.2.2.2.2.1) ?_
      refine q_iconst C dX3_newNumber_79 (n := 80) rfl ?_
      refine q_iald C dX3_newNumber_80 (n := 81) rfl h_row.2.2.2.2.2.1 (by omega) (v := M (rr + 2) 2) rfl ?_
      refine q_callVv C dX3_newNumber_81 (n := 84) rfl m_X3_139 v_yX1_meet h0.2.2.2.2.2.2.2.2.2.2.2.2.2.2.2.2.2.2.2.2.2.2.2.2.2.2.2.2.2.2.2.2.2.2.2.2.2.2.2.2.2.2.2.2.1.1 ⟨by decide, rfl⟩ (c_X1_meet (w := w) (J := J) hI hF h0.2.2.2.2.2.2.2.2.2.2.2.2.2.2.2.2.2.2.2.2.2.2.2.2.2.2.2.2.2.2.2.2.2.2.2.2.2.2.2.2.2.2.2.2.1 2 (M (rr + 2) 2) (by omega) (by omega)) (Nat.le_of_ble_eq_true rfl) rfl rfl (Nat.le_of_ble_eq_true rfl) ⟨Nat.le_refl _, Nat.le_refl _⟩ (fun M14 J15  hI16 h17 => ?_)
      have hK19 := hK0.tr h17 (by decide)
      refine q_iconst C dX3_newNumber_84 (n := 85) rfl ?_
      exact q_iret C dX3_newNumber_85 ⟨rfl, rfl⟩ (by rw [hPo]; exact ⟨(-1), M14, J15, rfl, rfl, hI16, hK19, by omega⟩)
    refine q_if_ne C 70 dX3_newNumber_46 (n := 49) rfl rfl (by omega) (fun h20 => ?_) (fun h20 => ?_)
    · exact zK.weak (J_13) (zwk_c (zwk_c (zwk_n (zwk_n (zwk_n (zwk_n zwk_e))))))
    · refine q_aload_n C dX3_newNumber_49 (n := 50) rfl rfl ?_
      refine q_getR C dX3_newNumber_50 (n := 53) rfl f_X3_62 h0.1 (hF _ _ _ h0.2.2.2.2.2.2.2.2.2.2.2.2.2.2.2.2.2.2.2.2.2.2.2.2.2.2.2.2.2.2.2.2.2.2.2.2.2.2.2.2.2.1) ?_
      refine q_getR C dX3_newNumber_53 (n := 56) rfl f_X3_70 h0.2.2.2.2.2.2.2.2.2.2.2.2.2.2.2.2.2.2.2.2.2.2.2.2.2.2.2.2.2.2.2.2.2.2.2.2.2.2.2.2.2.2.1.1 (hF _ _ _ h0.2.2.2.2.2.2.2.2.2.2.2.2.2.2.2.2.2.2.2.2.2.2.2.2.2.2.2.2.2.2.2.2.2.2.2.2.2.2.2.2.2.2.1.2.1) ?_
      refine q_iload C dX3_newNumber_56 (n := 58) rfl rfl ?_
      refine q_iload C dX3_newNumber_58 (n := 60) rfl rfl ?_
      refine q_iload_n C dX3_newNumber_60 (n := 61) rfl rfl ?_
      refine q_iadd C dX3_newNumber_61 (n := 62) rfl (v := (M (rr + 1) 2) + x6) rfl ?_
      refine q_ldcS C dX3_newNumber_62 (n := 64) rfl (k := 0) (by decide) ?_
      refine q_callSp C dX3_newNumber_64 (n := 67) rfl m_X3_148 s_yX10_says (c_X10_says (w := w) (J := J) hI hF h0.2.2.2.2.2.2.2.2.2.2.2.2.2.2.2.2.2.2.2.2.2.2.2.2.2.2.2.2.2.2.2.2.2.2.2.2.2.2.2.2.2.2.1.2.2.1 h0.2.2.2.2.2.2.2.2.2.2.2.2.2.2.2.2.2.2.2.2.2.2.2.2.2.2.2.2.2.2.2.2.2.2.2.2.2.2.2.2.2.2.1.2.2.2.1 (M (rr + 1) 2) ((M (rr + 1) 2) + x6) 0 (by decide) (by omega) (by omega) (by omega)) (Nat.le_of_ble_eq_true rfl) rfl rfl (Nat.le_of_ble_eq_true rfl) ⟨Nat.le_refl _, Nat.le_refl _⟩ (fun x22 h23 => ?_)
      refine q_if_eq C 86 dX3_newNumber_67 (n := 70) rfl rfl (by omega) (fun h24 => ?_) (fun h24 => ?_)
      · refine q_aload_n C dX3_newNumber_86 (n := 87) rfl rfl ?_
        refine q_iload C dX3_newNumber_87 (n := 89) rfl rfl ?_
        refine q_iload_n C dX3_newNumber_89 (n := 90) rfl rfl ?_
        refine q_callVp C dX3_newNumber_90 (n := 93) rfl m_X3_80 v_yX3_numberOf h0.1 ⟨by decide, rfl⟩ (c_X3_numberOf (w := w) (J := J) hI hF h0 (M (rr + 1) 2) x6 (by omega) (by omega) (by omega)) (Nat.le_of_ble_eq_true rfl) rfl rfl (Nat.le_of_ble_eq_true rfl) ⟨Nat.le_refl _, Nat.le_refl _⟩ (fun x26 h27 => ?_)
        refine q_istore C [.ref (w.2.1 + a), .ref (w.2.1 + rr), zi v1, zi x6, zi (M (rr + 1) 2), zi x26] dX3_newNumber_93 (n := 95) rfl rfl rfl ?_
        refine q_iload C dX3_newNumber_95 (n := 97) rfl rfl ?_
        refine q_iconst C dX3_newNumber_97 (n := 98) rfl ?_
        have J_28 : zK w p e 10 0 0 s m args below meth c 6 T Po 127 [.ref (w.2.1 + a), .ref (w.2.1 + rr), .null, .null, .null, zi x26] [] (T, M, J, R) := by
          refine q_iload C dX3_newNumber_127 (n := 129) rfl rfl ?_
          refine q_iconst C dX3_newNumber_129 (n := 130) rfl ?_
          have J_29 : zK w p e 10 0 0 s m args below meth c 6 T Po 159 [.ref (w.2.1 + a), .null, .null, .null, .null, zi x26] [] (T, M, J, R) := by
            refine q_iload C dX3_newNumber_159 (n := 161) rfl rfl ?_
            refine q_iconst C dX3_newNumber_161 (n := 162) rfl ?_
            refine q_icmp_ne C 172 dX3_newNumber_162 (n := 165) rfl rfl (by omega) (fun h30 => ?_) (fun h30 => ?_)
            · refine q_iload C dX3_newNumber_172 (n := 174) rfl rfl ?_
              exact q_iret C dX3_newNumber_174 ⟨rfl, rfl⟩ (by rw [hPo]; exact ⟨x26, M, J, rfl, rfl, hI, hK0, by omega⟩)
            · refine q_aload_n C dX3_newNumber_165 (n := 166) rfl rfl ?_
              have g31 := zI.at hI h0.2.1
              refine q_getI C dX3_newNumber_166 (n := 169) rfl f_X3_9 h0.1 (v := M a 0) rfl ?_
              refine q_goto C 174 dX3_newNumber_169 rfl ?_
              exact q_iret C dX3_newNumber_174 ⟨rfl, rfl⟩ (by rw [hPo]; exact ⟨M a 0, M, J, rfl, rfl, hI, hK0, by omega⟩)
          refine q_icmp_ne C 159 dX3_newNumber_130 (n := 133) rfl rfl (by omega) (fun h32 => ?_) (fun h32 => ?_)
          · exact zK.weak (J_29) (zwk_c (zwk_n (zwk_n (zwk_n (zwk_n (zwk_c zwk_e))))))
          · refine q_aload_n C dX3_newNumber_133 (n := 134) rfl rfl ?_
            have g33 := zI.at hI h0.2.1
            refine q_getI C dX3_newNumber_134 (n := 137) rfl f_X3_9 h0.1 (v := M a 0) rfl ?_
            refine q_bipush C dX3_newNumber_137 (n := 139) rfl (x := 12) (by decide) ?_
            refine q_icmp_lt C 159 dX3_newNumber_139 (n := 142) rfl rfl (by omega) (fun h34 => ?_) (fun h34 => ?_)
            · exact zK.weak (J_29) (zwk_c (zwk_n (zwk_n (zwk_n (zwk_n (zwk_c zwk_e))))))
            · refine q_aload_n C dX3_newNumber_142 (n := 143) rfl rfl ?_
              refine q_getR C dX3_newNumber_143 (n := 146) rfl f_X3_66 h0.1 (hF _ _ _ h0.2.2.2.2.2.2.2.2.2.2.2.2.2.2.2.2.2.2.2.2.2.2.2.2.2.2.2.2.2.2.2.2.2.2.2.2.2.2.2.2.2.2.2.1) ?_
              refine q_bipush C dX3_newNumber_146 (n := 148) rfl (x := 7) (by decide) ?_
              refine q_aload_n C dX3_newNumber_148 (n := 149) rfl rfl ?_
              refine q_getR C dX3_newNumber_149 (n := 152) rfl f_X3_105 h_row.1 (hF _ _ _ h_row.2.2.2.2.1) ?_
              refine q_iconst C dX3_newNumber_152 (n := 153) rfl ?_
              refine q_iald C dX3_newNumber_153 (n := 154) rfl h_row.2.2.2.2.2.1 (by omega) (v := M (rr + 2) 2) rfl ?_
              refine q_callVv C dX3_newNumber_154 (n := 157) rfl m_X3_139 v_yX1_meet h0.2.2.2.2.2.2.2.2.2.2.2.2.2.2.2.2.2.2.2.2.2.2.2.2.2.2.2.2.2.2.2.2.2.2.2.2.2.2.2.2.2.2.2.2.1.1 ⟨by decide, rfl⟩ (c_X1_meet (w := w) (J := J) hI hF h0.2.2.2.2.2.2.2.2.2.2.2.2.2.2.2.2.2.2.2.2.2.2.2.2.2.2.2.2.2.2.2.2.2.2.2.2.2.2.2.2.2.2.2.2.1 7 (M (rr + 2) 2) (by omega) (by omega)) (Nat.le_of_ble_eq_true rfl) rfl rfl (Nat.le_of_ble_eq_true rfl) ⟨Nat.le_refl _, Nat.le_refl _⟩ (fun M35 J36  hI37 h38 => ?_)
              have hK40 := hK0.tr h38 (by decide)
              refine q_iconst C dX3_newNumber_157 (n := 158) rfl ?_
              exact q_iret C dX3_newNumber_158 ⟨rfl, rfl⟩ (by rw [hPo]; exact ⟨(-1), M35, J36, rfl, rfl, hI37, hK40, by omega⟩)
        refine q_icmp_eq C 127 dX3_newNumber_98 (n := 101) rfl rfl (by omega) (fun h41 => ?_) (fun h41 => ?_)
        · exact zK.weak (J_28) (zwk_c (zwk_c (zwk_n (zwk_n (zwk_n (zwk_c zwk_e))))))
        · refine q_aload_n C dX3_newNumber_101 (n := 102) rfl rfl ?_
          refine q_getR C dX3_newNumber_102 (n := 105) rfl f_X3_22 h0.1 (hF _ _ _ h0.2.2.2.2.2.2.2.2.1) ?_
          refine q_iload C dX3_newNumber_105 (n := 107) rfl rfl ?_
          have g42 := zI.at hI (h0.2.2.2.2.2.2.2.2.2.2.1 x26)
          refine q_zald C dX3_newNumber_107 (n := 108) rfl h0.2.2.2.2.2.2.2.2.2.1 (by omega) (v := M (a + 3) x26) rfl ?_
          refine q_if_eq C 127 dX3_newNumber_108 (n := 111) rfl rfl (by omega) (fun h43 => ?_) (fun h43 => ?_)
          · exact zK.weak (J_28) (zwk_c (zwk_c (zwk_n (zwk_n (zwk_n (zwk_c zwk_e))))))
          · refine q_aload_n C dX3_newNumber_111 (n := 112) rfl rfl ?_
            refine q_getR C dX3_newNumber_112 (n := 115) rfl f_X3_66 h0.1 (hF _ _ _ h0.2.2.2.2.2.2.2.2.2.2.2.2.2.2.2.2.2.2.2.2.2.2.2.2.2.2.2.2.2.2.2.2.2.2.2.2.2.2.2.2.2.2.2.1) ?_
            refine q_iconst C dX3_newNumber_115 (n := 116) rfl ?_
            refine q_aload_n C dX3_newNumber_116 (n := 117) rfl rfl ?_
            refine q_getR C dX3_newNumber_117 (n := 120) rfl f_X3_105 h_row.1 (hF _ _ _ h_row.2.2.2.2.1) ?_
            refine q_iconst C dX3_newNumber_120 (n := 121) rfl ?_
            refine q_iald C dX3_newNumber_121 (n := 122) rfl h_row.2.2.2.2.2.1 (by omega) (v := M (rr + 2) 2) rfl ?_
            refine q_callVv C dX3_newNumber_122 (n := 125) rfl m_X3_139 v_yX1_meet h0.2.2.2.2.2.2.2.2.2.2.2.2.2.2.2.2.2.2.2.2.2.2.2.2.2.2.2.2.2.2.2.2.2.2.2.2.2.2.2.2.2.2.2.2.1.1 ⟨by decide, rfl⟩ (c_X1_meet (w := w) (J := J) hI hF h0.2.2.2.2.2.2.2.2.2.2.2.2.2.2.2.2.2.2.2.2.2.2.2.2.2.2.2.2.2.2.2.2.2.2.2.2.2.2.2.2.2.2.2.2.1 5 (M (rr + 2) 2) (by omega) (by omega)) (Nat.le_of_ble_eq_true rfl) rfl rfl (Nat.le_of_ble_eq_true rfl) ⟨Nat.le_refl _, Nat.le_refl _⟩ (fun M44 J45  hI46 h47 => ?_)
            have hK49 := hK0.tr h47 (by decide)
            refine q_iconst C dX3_newNumber_125 (n := 126) rfl ?_
            exact q_iret C dX3_newNumber_126 ⟨rfl, rfl⟩ (by rw [hPo]; exact ⟨(-1), M44, J45, rfl, rfl, hI46, hK49, by omega⟩)
      · exact zK.weak (J_13) (zwk_c (zwk_c (zwk_n (zwk_n (zwk_n (zwk_n zwk_e))))))
  · refine q_aload_n C dX3_newNumber_8 (n := 9) rfl rfl ?_
    refine q_getR C dX3_newNumber_9 (n := 12) rfl f_X3_66 h0.1 (hF _ _ _ h0.2.2.2.2.2.2.2.2.2.2.2.2.2.2.2.2.2.2.2.2.2.2.2.2.2.2.2.2.2.2.2.2.2.2.2.2.2.2.2.2.2.2.2.1) ?_
    refine q_iconst C dX3_newNumber_12 (n := 13) rfl ?_
    refine q_iload_n C dX3_newNumber_13 (n := 14) rfl rfl ?_
    refine q_callVv C dX3_newNumber_14 (n := 17) rfl m_X3_139 v_yX1_meet h0.2.2.2.2.2.2.2.2.2.2.2.2.2.2.2.2.2.2.2.2.2.2.2.2.2.2.2.2.2.2.2.2.2.2.2.2.2.2.2.2.2.2.2.2.1.1 ⟨by decide, rfl⟩ (c_X1_meet (w := w) (J := J) hI hF h0.2.2.2.2.2.2.2.2.2.2.2.2.2.2.2.2.2.2.2.2.2.2.2.2.2.2.2.2.2.2.2.2.2.2.2.2.2.2.2.2.2.2.2.2.1 2 v1 (by omega) (by omega)) (Nat.le_of_ble_eq_true rfl) rfl rfl (Nat.le_of_ble_eq_true rfl) ⟨Nat.le_refl _, Nat.le_refl _⟩ (fun M50 J51  hI52 h53 => ?_)
    have hK55 := hK0.tr h53 (by decide)
    refine q_iconst C dX3_newNumber_17 (n := 18) rfl ?_
    exact q_iret C dX3_newNumber_18 ⟨rfl, rfl⟩ (by rw [hPo]; exact ⟨(-1), M50, J51, rfl, rfl, hI52, hK55, by omega⟩)
theorem c_X3_define {w : zWp} {T : zTl} {M : zMm} {J : zJm} {R : zRm'} {G : zGt} {F : zRm'} {a t q L rr : Nat} (hI : zI G M) (hF : zF F R) (h0 : zMacros T F G a t q L) (h_row : zRow T F G rr 440 (L : Int)) (v1 : Int) (p1 : L ≤ 1000000) (p2 : -2147483648 ≤ v1 ∧ v1 ≤ 2147483647) : zCt w 11 0 0 yX3_define cX3_define 6 none [.ref (w.2.1 + a), .ref (w.2.1 + rr), zi v1] (T, M, J, R) (zPv T R G (fun M2 => (zKp G 4 M M2))) := by
  refine zCt.of rfl (Nat.le_of_ble_eq_true rfl) ?_
  intro p e s m args below meth c C
  obtain ⟨Po, hPo⟩ : ∃ Po, Po = zPv T R G (fun M2 => (zKp G 4 M M2)) := ⟨_, rfl⟩
  rw [← hPo]
  have hK0 : zKp G 4 M M := zKp.rf
  show zK w p e 11 0 0 s m args below meth c 6 T Po 0 [.ref (w.2.1 + a), .ref (w.2.1 + rr), zi v1, .null, .null, .null] [] (T, M, J, R)
  refine q_aload_n C dX3_define_0 (n := 1) rfl rfl ?_
  refine q_aload_n C dX3_define_1 (n := 2) rfl rfl ?_
  refine q_iload_n C dX3_define_2 (n := 3) rfl rfl ?_
  refine q_callVi C dX3_define_3 (n := 6) rfl m_X3_97 v_yX3_newNumber h0.1 ⟨by decide, rfl⟩ (c_X3_newNumber (w := w) (J := J) hI hF h0 h_row v1 (by omega) (by omega)) (Nat.le_of_ble_eq_true rfl) rfl rfl (Nat.le_of_ble_eq_true rfl) ⟨Nat.le_refl _, Nat.le_refl _⟩ (fun x6 M2 J3  hI4 h5 => ?_)
  obtain ⟨hk7, h1⟩ := h5
  have hK8 := hK0.tr hk7 (by decide)
  refine q_istore_n C [.ref (w.2.1 + a), .ref (w.2.1 + rr), zi v1, zi x6, .null, .null] dX3_define_6 (n := 7) rfl rfl rfl ?_
  refine q_iload_n C dX3_define_7 (n := 8) rfl rfl ?_
  refine q_iconst C dX3_define_8 (n := 9) rfl ?_
  refine q_icmp_eq C 18 dX3_define_9 (n := 12) rfl rfl (by omega) (fun h9 => ?_) (fun h9 => ?_)
  · exact q_vret C dX3_define_18 ⟨rfl, rfl⟩ (by rw [hPo]; exact ⟨M2, J3, rfl, rfl, hI4, hK8⟩)
  · refine q_iload_n C dX3_define_12 (n := 13) rfl rfl ?_
    refine q_bipush C dX3_define_13 (n := 15) rfl (x := 12) (by decide) ?_
    refine q_icmp_lt C 19 dX3_define_15 (n := 18) rfl rfl (by omega) (fun h10 => ?_) (fun h10 => ?_)
    · refine q_iconst C dX3_define_19 (n := 20) rfl ?_
      refine q_istore C [.ref (w.2.1 + a), .ref (w.2.1 + rr), zi v1, zi x6, zi 3, .null] dX3_define_20 (n := 22) rfl rfl rfl ?_
      refine q_iconst C dX3_define_22 (n := 23) rfl ?_
      refine q_istore C [.ref (w.2.1 + a), .ref (w.2.1 + rr), zi v1, zi x6, zi 3, zi (-1)] dX3_define_23 (n := 25) rfl rfl rfl ?_
      refine q_aload_n C dX3_define_25 (n := 26) rfl rfl ?_
      refine q_iconst C dX3_define_26 (n := 27) rfl ?_
      refine q_putI C dX3_define_27 (n := 30) rfl f_X3_59 h0.1 ⟨rfl, rfl⟩ (fun M11 (e12 : M11 = zup M2 a 17 0) => ?_)
      have hI13 : zI G M11 := hI4.put e12 h0.2.2.2.2.2.2.2.2.2.2.2.2.2.2.2.2.2.2.2.2.2.2.2.2.2.2.2.2.2.2.2.2.2.2.2.2.2.2.2.2.2.2.2.2.2.2.2.2 rfl (by omega)
      have hK14 := hK8.put e12 h0.2.2.2.2.2.2.2.2.2.2.2.2.2.2.2.2.2.2.2.2.2.2.2.2.2.2.2.2.2.2.2.2.2.2.2.2.2.2.2.2.2.2.2.2.2.2.2.2 (by decide)
      refine q_aload_n C dX3_define_30 (n := 31) rfl rfl ?_
      refine q_aload_n C dX3_define_31 (n := 32) rfl rfl ?_
      refine q_iconst C dX3_define_32 (n := 33) rfl ?_
      refine q_bipush C dX3_define_33 (n := 35) rfl (x := 40) (by decide) ?_
      refine q_callVp C dX3_define_35 (n := 38) rfl m_X3_101 v_yX3_isSign h0.1 ⟨by decide, rfl⟩ (c_X3_isSign (w := w) (J := J3) hI13 hF h0 h_row 3 40 (by omega) (by omega) (by omega)) (Nat.le_of_ble_eq_true rfl) rfl rfl (Nat.le_of_ble_eq_true rfl) ⟨Nat.le_refl _, Nat.le_refl _⟩ (fun x16 h17 => ?_)
      have J_28 : ∀ (u18 : Int) (u19 : Int) (M20 : zMm) (J21 : zJm), zI G M20 → zKp G 4 M M20 → (-2147483648 ≤ u18 ∧ u18 ≤ 2147483647) → (-2147483648 ≤ u19 ∧ u19 ≤ 2147483647) → (0 ≤ u18 ∧ u18 ≤ 1000) → (-1 ≤ u19 ∧ u19 ≤ 4) → zK w p e 11 0 0 s m args below meth c 6 T Po 67 [.ref (w.2.1 + a), .ref (w.2.1 + rr), zi v1, zi x6, zi u18, zi u19] [] (T, M20, J21, R) := by
        intro u18 u19 M20 J21 hI22 hK23 h24 h25 h26 h27
        refine q_aload_n C dX3_define_67 (n := 68) rfl rfl ?_
        refine q_getR C dX3_define_68 (n := 71) rfl f_X3_66 h0.1 (hF _ _ _ h0.2.2.2.2.2.2.2.2.2.2.2.2.2.2.2.2.2.2.2.2.2.2.2.2.2.2.2.2.2.2.2.2.2.2.2.2.2.2.2.2.2.2.2.1) ?_
        have g29 := zI.at hI22 h0.2.2.2.2.2.2.2.2.2.2.2.2.2.2.2.2.2.2.2.2.2.2.2.2.2.2.2.2.2.2.2.2.2.2.2.2.2.2.2.2.2.2.2.2.1.2.1
        refine q_getI C dX3_define_71 (n := 74) rfl f_X3_115 h0.2.2.2.2.2.2.2.2.2.2.2.2.2.2.2.2.2.2.2.2.2.2.2.2.2.2.2.2.2.2.2.2.2.2.2.2.2.2.2.2.2.2.2.2.1.1 (v := M20 q 0) rfl ?_
        refine q_if_ne C 185 dX3_define_74 (n := 77) rfl rfl (by omega) (fun h30 => ?_) (fun h30 => ?_)
        · exact q_vret C dX3_define_185 ⟨rfl, rfl⟩ (by rw [hPo]; exact ⟨M20, J21, rfl, rfl, hI22, hK23⟩)
        · refine q_aload_n C dX3_define_77 (n := 78) rfl rfl ?_
          refine q_aload_n C dX3_define_78 (n := 79) rfl rfl ?_
          refine q_iload C dX3_define_79 (n := 81) rfl rfl ?_
          refine q_iload C dX3_define_81 (n := 83) rfl rfl ?_
          refine q_iconst C dX3_define_83 (n := 84) rfl ?_
          have J_34 : ∀ (u31 : Int), (-2147483648 ≤ u31 ∧ u31 ≤ 2147483647) → (u31 = 0 ∨ u31 = 1) → zK w p e 11 0 0 s m args below meth c 6 T Po 92 [.ref (w.2.1 + a), .ref (w.2.1 + rr), zi v1, zi x6, zi u18, zi u19] [zi u31, zi u18, .ref (w.2.1 + rr), .ref (w.2.1 + a)] (T, M20, J21, R) := by
            intro u31 h32 h33
            refine q_callVi C dX3_define_92 (n := 95) rfl m_X3_120 v_yX3_isBody h0.1 ⟨by decide, rfl⟩ (c_X3_isBody (w := w) (J := J21) hI22 hF h0 h_row u18 u31 (by omega) (by omega) (by omega)) (Nat.le_of_ble_eq_true rfl) rfl rfl (Nat.le_of_ble_eq_true rfl) ⟨Nat.le_refl _, Nat.le_refl _⟩ (fun x40 M36 J37  hI38 h39 => ?_)
            obtain ⟨hk41, h35⟩ := h39
            have hK42 := hK23.tr hk41 (by decide)
            refine q_if_eq C 185 dX3_define_95 (n := 98) rfl rfl (by omega) (fun h43 => ?_) (fun h43 => ?_)
            · exact q_vret C dX3_define_185 ⟨rfl, rfl⟩ (by rw [hPo]; exact ⟨M36, J37, rfl, rfl, hI38, hK42⟩)
            · refine q_aload_n C dX3_define_98 (n := 99) rfl rfl ?_
              refine q_iload_n C dX3_define_99 (n := 100) rfl rfl ?_
              refine q_aload_n C dX3_define_100 (n := 101) rfl rfl ?_
              refine q_iload C dX3_define_101 (n := 103) rfl rfl ?_
              refine q_iload C dX3_define_103 (n := 105) rfl rfl ?_
              refine q_iconst C dX3_define_105 (n := 106) rfl ?_
              have J_47 : ∀ (u44 : Int), (-2147483648 ≤ u44 ∧ u44 ≤ 2147483647) → (u44 = 0 ∨ u44 = 1) → zK w p e 11 0 0 s m args below meth c 6 T Po 114 [.ref (w.2.1 + a), .ref (w.2.1 + rr), zi v1, zi x6, zi u18, zi u19] [zi u44, zi u18, .ref (w.2.1 + rr), zi x6, .ref (w.2.1 + a)] (T, M36, J37, R) := by
                intro u44 h45 h46
                refine q_callVv C dX3_define_114 (n := 117) rfl m_X3_124 v_yX3_makeItems h0.1 ⟨by decide, rfl⟩ (c_X3_makeItems (w := w) (J := J37) hI38 hF h0 x6 h_row u18 u44 (by omega) (by omega) (by omega) (by omega)) (Nat.le_of_ble_eq_true rfl) rfl rfl (Nat.le_of_ble_eq_true rfl) ⟨Nat.le_refl _, Nat.le_refl _⟩ (fun M48 J49  hI50 h51 => ?_)
                have hK53 := hK42.tr h51 (by decide)
                refine q_aload_n C dX3_define_117 (n := 118) rfl rfl ?_
                refine q_iload_n C dX3_define_118 (n := 119) rfl rfl ?_
                refine q_aload_n C dX3_define_119 (n := 120) rfl rfl ?_
                refine q_getR C dX3_define_120 (n := 123) rfl f_X3_128 h_row.1 (hF _ _ _ h_row.2.1) ?_
                refine q_iconst C dX3_define_123 (n := 124) rfl ?_
                have g54 := zI.at hI50 (h_row.2.2.2.1 2)
                have g55 : M48 (rr + 1) 2 + zand (M48 (rr + 2) 2) 31 ≤ (L : Int) ∧ zand (M48 (rr + 2) 2) 31 ≤ 30 := zI.row hI50 (h_row.2.2.2.1 2)
                refine q_iald C dX3_define_124 (n := 125) rfl h_row.2.2.1 (by omega) (v := M48 (rr + 1) 2) rfl ?_
                refine q_aload_n C dX3_define_125 (n := 126) rfl rfl ?_
                refine q_getR C dX3_define_126 (n := 129) rfl f_X3_105 h_row.1 (hF _ _ _ h_row.2.2.2.2.1) ?_
                refine q_iconst C dX3_define_129 (n := 130) rfl ?_
                have g56 := zI.at hI50 (h_row.2.2.2.2.2.2.1 2)
                refine q_iald C dX3_define_130 (n := 131) rfl h_row.2.2.2.2.2.1 (by omega) (v := M48 (rr + 2) 2) rfl ?_
                refine q_callSp C dX3_define_131 (n := 134) rfl m_X3_131 s_yX5_lengthOf (c_X5_lengthOf (w := w) (J := J49) hI50 hF (M48 (rr + 2) 2)) (Nat.le_of_ble_eq_true rfl) rfl rfl (Nat.le_of_ble_eq_true rfl) ⟨Nat.le_refl _, Nat.le_refl _⟩ (fun x59 h60 => ?_)
                obtain ⟨h57, h58⟩ := h60
                refine q_callVv C dX3_define_134 (n := 137) rfl m_X3_84 v_yX3_enter h0.1 ⟨by decide, rfl⟩ (c_X3_enter (w := w) (J := J49) hI50 hF h0 x6 (M48 (rr + 1) 2) x59 (by omega) (by omega) (by omega)) (Nat.le_of_ble_eq_true rfl) rfl rfl (Nat.le_of_ble_eq_true rfl) ⟨Nat.le_refl _, Nat.le_refl _⟩ (fun M61 J62  hI63 h64 => ?_)
                have hK66 := hK53.tr h64 (by decide)
                refine q_aload_n C dX3_define_137 (n := 138) rfl rfl ?_
                refine q_getR C dX3_define_138 (n := 141) rfl f_X3_22 h0.1 (hF _ _ _ h0.2.2.2.2.2.2.2.2.1) ?_
                refine q_iload_n C dX3_define_141 (n := 142) rfl rfl ?_
                refine q_iconst C dX3_define_142 (n := 143) rfl ?_
                refine q_zast C dX3_define_143 (n := 144) rfl h0.2.2.2.2.2.2.2.2.2.1 (by omega) (by omega) (fun M67 e68 => ?_)
                have hI69 : zI G M67 := hI63.put e68 (h0.2.2.2.2.2.2.2.2.2.2.1 x6) rfl (by omega)
                have hK70 := hK66.put e68 (h0.2.2.2.2.2.2.2.2.2.2.1 x6) (by decide)
                refine q_aload_n C dX3_define_144 (n := 145) rfl rfl ?_
                refine q_getR C dX3_define_145 (n := 148) rfl f_X3_26 h0.1 (hF _ _ _ h0.2.2.2.2.2.2.2.2.2.2.2.1) ?_
                refine q_iload_n C dX3_define_148 (n := 149) rfl rfl ?_
                refine q_iload C dX3_define_149 (n := 151) rfl rfl ?_
                refine q_iast C dX3_define_151 (n := 152) rfl h0.2.2.2.2.2.2.2.2.2.2.2.2.1 (by omega)  (fun M71 e72 => ?_)
                have hI73 : zI G M71 := hI69.put e72 (h0.2.2.2.2.2.2.2.2.2.2.2.2.2.1 x6) rfl (by omega)
                have hK74 := hK70.put e72 (h0.2.2.2.2.2.2.2.2.2.2.2.2.2.1 x6) (by decide)
                refine q_aload_n C dX3_define_152 (n := 153) rfl rfl ?_
                refine q_getR C dX3_define_153 (n := 156) rfl f_X3_29 h0.1 (hF _ _ _ h0.2.2.2.2.2.2.2.2.2.2.2.2.2.2.1) ?_
                refine q_iload_n C dX3_define_156 (n := 157) rfl rfl ?_
                refine q_aload_n C dX3_define_157 (n := 158) rfl rfl ?_
                have g75 := zI.at hI73 h_row.2.2.2.2.2.2.2.2.2.2
                refine q_getI C dX3_define_158 (n := 161) rfl f_X3_134 h_row.1 (v := M71 rr 3) rfl ?_
                refine q_iload C dX3_define_161 (n := 163) rfl rfl ?_
                refine q_isub C dX3_define_163 (n := 164) rfl (v := (M71 rr 3) - u18) rfl ?_
                refine q_wrap C ?_
                have g76 := zr_wr ((M71 rr 3) - u18)
                refine q_iast C dX3_define_164 (n := 165) rfl h0.2.2.2.2.2.2.2.2.2.2.2.2.2.2.2.1 (by omega)  (fun M77 e78 => ?_)
                have hI79 : zI G M77 := hI73.put e78 (h0.2.2.2.2.2.2.2.2.2.2.2.2.2.2.2.2.1 x6) rfl (by omega)
                have hK80 := hK74.put e78 (h0.2.2.2.2.2.2.2.2.2.2.2.2.2.2.2.2.1 x6) (by decide)
                refine q_aload_n C dX3_define_165 (n := 166) rfl rfl ?_
                refine q_getR C dX3_define_166 (n := 169) rfl f_X3_32 h0.1 (hF _ _ _ h0.2.2.2.2.2.2.2.2.2.2.2.2.2.2.2.2.2.1) ?_
                refine q_iload_n C dX3_define_169 (n := 170) rfl rfl ?_
                refine q_iload_n C dX3_define_170 (n := 171) rfl rfl ?_
                refine q_callSp C dX3_define_171 (n := 174) rfl m_X3_135 s_yX5_fileOf (c_X5_fileOf (w := w) (J := J62) hI79 hF v1) (Nat.le_of_ble_eq_true rfl) rfl rfl (Nat.le_of_ble_eq_true rfl) ⟨Nat.le_refl _, Nat.le_refl _⟩ (fun x82 h83 => ?_)
                refine q_iast C dX3_define_174 (n := 175) rfl h0.2.2.2.2.2.2.2.2.2.2.2.2.2.2.2.2.2.2.1 (by omega)  (fun M84 e85 => ?_)
                have hI86 : zI G M84 := hI79.put e85 (h0.2.2.2.2.2.2.2.2.2.2.2.2.2.2.2.2.2.2.2.1 x6) rfl (by omega)
                have hK87 := hK80.put e85 (h0.2.2.2.2.2.2.2.2.2.2.2.2.2.2.2.2.2.2.2.1 x6) (by decide)
                refine q_aload_n C dX3_define_175 (n := 176) rfl rfl ?_
                refine q_getR C dX3_define_176 (n := 179) rfl f_X3_35 h0.1 (hF _ _ _ h0.2.2.2.2.2.2.2.2.2.2.2.2.2.2.2.2.2.2.2.2.1) ?_
                refine q_iload_n C dX3_define_179 (n := 180) rfl rfl ?_
                refine q_iload_n C dX3_define_180 (n := 181) rfl rfl ?_
                refine q_callSp C dX3_define_181 (n := 184) rfl m_X3_137 s_yX5_lineOf (c_X5_lineOf (w := w) (J := J62) hI86 hF v1) (Nat.le_of_ble_eq_true rfl) rfl rfl (Nat.le_of_ble_eq_true rfl) ⟨Nat.le_refl _, Nat.le_refl _⟩ (fun x89 h90 => ?_)
                refine q_iast C dX3_define_184 (n := 185) rfl h0.2.2.2.2.2.2.2.2.2.2.2.2.2.2.2.2.2.2.2.2.2.1 (by omega)  (fun M91 e92 => ?_)
                have hI93 : zI G M91 := hI86.put e92 (h0.2.2.2.2.2.2.2.2.2.2.2.2.2.2.2.2.2.2.2.2.2.2.1 x6) rfl (by omega)
                have hK94 := hK87.put e92 (h0.2.2.2.2.2.2.2.2.2.2.2.2.2.2.2.2.2.2.2.2.2.2.1 x6) (by decide)
                exact q_vret C dX3_define_185 ⟨rfl, rfl⟩ (by rw [hPo]; exact ⟨M91, J62, rfl, rfl, hI93, hK94⟩)
              refine q_icmp_eq C 113 dX3_define_106 (n := 109) rfl rfl (by omega) (fun h95 => ?_) (fun h95 => ?_)
              · refine q_iconst C dX3_define_113 (n := 114) rfl ?_
                exact zK.weak (J_47 0 (by omega) (by omega)) (zwk_c (zwk_c (zwk_c (zwk_c (zwk_c (zwk_c zwk_e))))))
              · refine q_iconst C dX3_define_109 (n := 110) rfl ?_
                refine q_goto C 114 dX3_define_110 rfl ?_
                exact zK.weak (J_47 1 (by omega) (by omega)) (zwk_c (zwk_c (zwk_c (zwk_c (zwk_c (zwk_c zwk_e))))))
          refine q_icmp_eq C 91 dX3_define_84 (n := 87) rfl rfl (by omega) (fun h96 => ?_) (fun h96 => ?_)
          · refine q_iconst C dX3_define_91 (n := 92) rfl ?_
            exact zK.weak (J_34 0 (by omega) (by omega)) (zwk_c (zwk_c (zwk_c (zwk_c (zwk_c (zwk_c zwk_e))))))
          · refine q_iconst C dX3_define_87 (n := 88) rfl ?_
            refine q_goto C 92 dX3_define_88 rfl ?_
            exact zK.weak (J_34 1 (by omega) (by omega)) (zwk_c (zwk_c (zwk_c (zwk_c (zwk_c (zwk_c zwk_e))))))
      refine q_if_eq C 67 dX3_define_38 (n := 41) rfl rfl (by omega) (fun h97 => ?_) (fun h97 => ?_)
      · exact zK.weak (J_28 3 (-1) M11 J3 hI13 hK14 (by omega) (by omega) (by omega) (by omega)) (zwk_c (zwk_c (zwk_c (zwk_c (zwk_c (zwk_c zwk_e))))))
      · refine q_aload_n C dX3_define_41 (n := 42) rfl rfl ?_
        refine q_getR C dX3_define_42 (n := 45) rfl f_X3_105 h_row.1 (hF _ _ _ h_row.2.2.2.2.1) ?_
        refine q_iconst C dX3_define_45 (n := 46) rfl ?_
        have g98 := zI.at hI (h_row.2.2.2.2.2.2.1 3)
        refine q_iald C dX3_define_46 (n := 47) rfl h_row.2.2.2.2.2.1 (by omega) (v := M (rr + 2) 3) ((zup_n e12 (zne_t (h_row.2.2.2.2.2.2.1 3) h0.2.2.2.2.2.2.2.2.2.2.2.2.2.2.2.2.2.2.2.2.2.2.2.2.2.2.2.2.2.2.2.2.2.2.2.2.2.2.2.2.2.2.2.2.2.2.2.2 (by decide))).trans (hk7 _ _ (zle_t (h_row.2.2.2.2.2.2.1 3) (by decide)))) ?_
        refine q_callSp C dX3_define_47 (n := 50) rfl m_X3_108 s_yX5_blankOf (c_X5_blankOf (w := w) (J := J3) hI13 hF (M (rr + 2) 3)) (Nat.le_of_ble_eq_true rfl) rfl rfl (Nat.le_of_ble_eq_true rfl) ⟨Nat.le_refl _, Nat.le_refl _⟩ (fun x100 h101 => ?_)
        refine q_if_ne C 67 dX3_define_50 (n := 53) rfl rfl (by omega) (fun h102 => ?_) (fun h102 => ?_)
        · exact zK.weak (J_28 3 (-1) M11 J3 hI13 hK14 (by omega) (by omega) (by omega) (by omega)) (zwk_c (zwk_c (zwk_c (zwk_c (zwk_c (zwk_c zwk_e))))))
        · refine q_aload_n C dX3_define_53 (n := 54) rfl rfl ?_
          refine q_aload_n C dX3_define_54 (n := 55) rfl rfl ?_
          refine q_iload_n C dX3_define_55 (n := 56) rfl rfl ?_
          refine q_callVi C dX3_define_56 (n := 59) rfl m_X3_112 v_yX3_tellParameters h0.1 ⟨by decide, rfl⟩ (c_X3_tellParameters (w := w) (J := J3) hI13 hF h0 h_row v1 (by omega) (by omega)) (Nat.le_of_ble_eq_true rfl) rfl rfl (Nat.le_of_ble_eq_true rfl) ⟨Nat.le_refl _, Nat.le_refl _⟩ (fun x108 M104 J105  hI106 h107 => ?_)
          obtain ⟨hk109, h103⟩ := h107
          have hK110 := hK14.tr hk109 (by decide)
          refine q_istore C [.ref (w.2.1 + a), .ref (w.2.1 + rr), zi v1, zi x6, zi x108, zi (-1)] dX3_define_59 (n := 61) rfl rfl rfl ?_
          refine q_aload_n C dX3_define_61 (n := 62) rfl rfl ?_
          have g111 := zI.at hI106 h0.2.2.2.2.2.2.2.2.2.2.2.2.2.2.2.2.2.2.2.2.2.2.2.2.2.2.2.2.2.2.2.2.2.2.2.2.2.2.2.2.2.2.2.2.2.2.2.2
          refine q_getI C dX3_define_62 (n := 65) rfl f_X3_59 h0.1 (v := M104 a 17) rfl ?_
          refine q_istore C [.ref (w.2.1 + a), .ref (w.2.1 + rr), zi v1, zi x6, zi x108, zi (M104 a 17)] dX3_define_65 (n := 67) rfl rfl rfl ?_
          exact zK.weak (J_28 x108 (M104 a 17) M104 J105 hI106 hK110 (by omega) (by omega) (by omega) (by omega)) (zwk_c (zwk_c (zwk_c (zwk_c (zwk_c (zwk_c zwk_e))))))
    · exact q_vret C dX3_define_18 ⟨rfl, rfl⟩ (by rw [hPo]; exact ⟨M2, J3, rfl, rfl, hI4, hK8⟩)
