theorem c_X4_skipBlanks {w : zWp} {T : zTl} {M : zMm} {J : zJm} {R : zRm'} {G : zGt} {F : zRm'} {a : Nat} (hI : zI G M) (hF : zF F R) (h0 : zPage T F G a) (v1 : Int) (v2 : Int) (p1 : 0 ≤ v1 ∧ v1 ≤ 1000) (p2 : -1 ≤ v2 ∧ v2 ≤ 401) : zCt w 1 0 0 yX4_skipBlanks cX4_skipBlanks 4 (some .int) [.ref (w.2.1 + a), zi v1, zi v2] (T, M, J, R) (zPp T M J R (fun x => (v1 ≤ x ∧ (x ≤ v2 ∨ x = v1)))) := by
  refine zCt.of rfl (Nat.le_of_ble_eq_true rfl) ?_
  intro p e s m args below meth c C
  obtain ⟨Po, hPo⟩ : ∃ Po, Po = zPp T M J R (fun x => (v1 ≤ x ∧ (x ≤ v2 ∨ x = v1))) := ⟨_, rfl⟩
  rw [← hPo]
  show zK w p e 1 0 0 s m args below meth c 4 T Po 0 [.ref (w.2.1 + a), zi v1, zi v2, .null] [] (T, M, J, R)
  refine q_iload_n C dX4_skipBlanks_0 (n := 1) rfl rfl ?_
  refine q_istore_n C [.ref (w.2.1 + a), zi v1, zi v2, zi v1] dX4_skipBlanks_1 (n := 2) rfl rfl rfl ?_
  have L_4 : ∀ n5 : Nat, ∀ (u1 : Int), (-2147483648 ≤ u1 ∧ u1 ≤ 2147483647) → (v1 ≤ u1 ∧ (u1 ≤ v2 ∨ u1 = v1)) → (1500 - u1 ≤ (n5 : Int)) → zK w p e 1 0 0 s m args below meth c 4 T Po 2 [.ref (w.2.1 + a), .null, zi v2, zi u1] [] (T, M, J, R) := by
    intro n5
    induction n5 with
    | zero =>
      intro u1 h2 h3 hm7
      exfalso
      omega
    | succ n5 ih6 =>
      intro u1 h2 h3 hm7
      refine q_iload_n C dX4_skipBlanks_2 (n := 3) rfl rfl ?_
      refine q_iload_n C dX4_skipBlanks_3 (n := 4) rfl rfl ?_
      refine q_icmp_ge C 24 dX4_skipBlanks_4 (n := 7) rfl rfl (by omega) (fun h8 => ?_) (fun h8 => ?_)
      · refine q_iload_n C dX4_skipBlanks_24 (n := 25) rfl rfl ?_
        exact q_iret C dX4_skipBlanks_25 ⟨rfl, rfl⟩ (by rw [hPo]; exact ⟨u1, rfl, rfl, by omega⟩)
      · refine q_aload_n C dX4_skipBlanks_7 (n := 8) rfl rfl ?_
        refine q_getR C dX4_skipBlanks_8 (n := 11) rfl f_X4_9 h0.1 (hF _ _ _ h0.2.1) ?_
        refine q_iload_n C dX4_skipBlanks_11 (n := 12) rfl rfl ?_
        have g9 := zI.at hI (h0.2.2.2.1 u1)
        refine q_bald C dX4_skipBlanks_12 (n := 13) rfl h0.2.2.1 (by omega) (v := M (a + 1) u1) rfl ?_
        refine q_bipush C dX4_skipBlanks_13 (n := 15) rfl (x := 32) (by decide) ?_
        refine q_icmp_ne C 24 dX4_skipBlanks_15 (n := 18) rfl rfl (by omega) (fun h10 => ?_) (fun h10 => ?_)
        · refine q_iload_n C dX4_skipBlanks_24 (n := 25) rfl rfl ?_
          exact q_iret C dX4_skipBlanks_25 ⟨rfl, rfl⟩ (by rw [hPo]; exact ⟨u1, rfl, rfl, by omega⟩)
        · refine q_iinc C [.ref (w.2.1 + a), .null, zi v2, zi (u1 + 1)] dX4_skipBlanks_18 (n := 21) rfl rfl rfl rfl ?_
          refine q_goto C 2 dX4_skipBlanks_21 rfl ?_
          exact zK.weak (ih6 (u1 + 1) (by omega) (by omega) (by omega)) (zwk_c (zwk_n (zwk_c (zwk_c zwk_e))))
  exact zK.weak (L_4 _ v1 (by omega) (by omega) (Int.self_le_toNat _)) (zwk_c (zwk_n (zwk_c (zwk_c zwk_e))))
theorem c_X4_skipWord {w : zWp} {T : zTl} {M : zMm} {J : zJm} {R : zRm'} {G : zGt} {F : zRm'} {a : Nat} (hI : zI G M) (hF : zF F R) (h0 : zPage T F G a) (v1 : Int) (v2 : Int) (p1 : 0 ≤ v1 ∧ v1 ≤ 1000) (p2 : -1 ≤ v2 ∧ v2 ≤ 401) : zCt w 2 0 0 yX4_skipWord cX4_skipWord 4 (some .int) [.ref (w.2.1 + a), zi v1, zi v2] (T, M, J, R) (zPp T M J R (fun x => (v1 ≤ x ∧ (x ≤ v2 ∨ x = v1)))) := by
  refine zCt.of rfl (Nat.le_of_ble_eq_true rfl) ?_
  intro p e s m args below meth c C
  obtain ⟨Po, hPo⟩ : ∃ Po, Po = zPp T M J R (fun x => (v1 ≤ x ∧ (x ≤ v2 ∨ x = v1))) := ⟨_, rfl⟩
  rw [← hPo]
  show zK w p e 2 0 0 s m args below meth c 4 T Po 0 [.ref (w.2.1 + a), zi v1, zi v2, .null] [] (T, M, J, R)
  refine q_iload_n C dX4_skipWord_0 (n := 1) rfl rfl ?_
  refine q_istore_n C [.ref (w.2.1 + a), zi v1, zi v2, zi v1] dX4_skipWord_1 (n := 2) rfl rfl rfl ?_
  have L_4 : ∀ n5 : Nat, ∀ (u1 : Int), (-2147483648 ≤ u1 ∧ u1 ≤ 2147483647) → (v1 ≤ u1 ∧ (u1 ≤ v2 ∨ u1 = v1)) → (1500 - u1 ≤ (n5 : Int)) → zK w p e 2 0 0 s m args below meth c 4 T Po 2 [.ref (w.2.1 + a), .null, zi v2, zi u1] [] (T, M, J, R) := by
    intro n5
    induction n5 with
    | zero =>
      intro u1 h2 h3 hm7
      exfalso
      omega
    | succ n5 ih6 =>
      intro u1 h2 h3 hm7
      refine q_iload_n C dX4_skipWord_2 (n := 3) rfl rfl ?_
      refine q_iload_n C dX4_skipWord_3 (n := 4) rfl rfl ?_
      refine q_icmp_ge C 25 dX4_skipWord_4 (n := 7) rfl rfl (by omega) (fun h8 => ?_) (fun h8 => ?_)
      · refine q_iload_n C dX4_skipWord_25 (n := 26) rfl rfl ?_
        exact q_iret C dX4_skipWord_26 ⟨rfl, rfl⟩ (by rw [hPo]; exact ⟨u1, rfl, rfl, by omega⟩)
      · refine q_aload_n C dX4_skipWord_7 (n := 8) rfl rfl ?_
        refine q_getR C dX4_skipWord_8 (n := 11) rfl f_X4_9 h0.1 (hF _ _ _ h0.2.1) ?_
        refine q_iload_n C dX4_skipWord_11 (n := 12) rfl rfl ?_
        have g9 := zI.at hI (h0.2.2.2.1 u1)
        refine q_bald C dX4_skipWord_12 (n := 13) rfl h0.2.2.1 (by omega) (v := M (a + 1) u1) rfl ?_
        refine q_callSp C dX4_skipWord_13 (n := 16) rfl m_X4_53 s_yX10_isWord (c_X10_isWord (w := w) (J := J) hI hF (M (a + 1) u1) (by omega)) (Nat.le_of_ble_eq_true rfl) rfl rfl (Nat.le_of_ble_eq_true rfl) ⟨Nat.le_refl _, Nat.le_refl _⟩ (fun x11 h12 => ?_)
        refine q_if_eq C 25 dX4_skipWord_16 (n := 19) rfl rfl (by omega) (fun h13 => ?_) (fun h13 => ?_)
        · refine q_iload_n C dX4_skipWord_25 (n := 26) rfl rfl ?_
          exact q_iret C dX4_skipWord_26 ⟨rfl, rfl⟩ (by rw [hPo]; exact ⟨u1, rfl, rfl, by omega⟩)
        · refine q_iinc C [.ref (w.2.1 + a), .null, zi v2, zi (u1 + 1)] dX4_skipWord_19 (n := 22) rfl rfl rfl rfl ?_
          refine q_goto C 2 dX4_skipWord_22 rfl ?_
          exact zK.weak (ih6 (u1 + 1) (by omega) (by omega) (by omega)) (zwk_c (zwk_n (zwk_c (zwk_c zwk_e))))
  exact zK.weak (L_4 _ v1 (by omega) (by omega) (Int.self_le_toNat _)) (zwk_c (zwk_n (zwk_c (zwk_c zwk_e))))
theorem c_X4_firstOf {w : zWp} {T : zTl} {M : zMm} {J : zJm} {R : zRm'} {G : zGt} {F : zRm'} {a : Nat} (hI : zI G M) (hF : zF F R) (h0 : zPage T F G a) (v1 : Int) (p1 : 0 ≤ v1 ∧ v1 ≤ 39) : zCt w 2 0 0 yX4_firstOf cX4_firstOf 2 (some .int) [.ref (w.2.1 + a), zi v1] (T, M, J, R) (zPp T M J R (fun x => (0 ≤ x ∧ x ≤ 401))) := by
  refine zCt.of rfl (Nat.le_of_ble_eq_true rfl) ?_
  intro p e s m args below meth c C
  obtain ⟨Po, hPo⟩ : ∃ Po, Po = zPp T M J R (fun x => (0 ≤ x ∧ x ≤ 401)) := ⟨_, rfl⟩
  rw [← hPo]
  show zK w p e 2 0 0 s m args below meth c 2 T Po 0 [.ref (w.2.1 + a), zi v1] [] (T, M, J, R)
  refine q_aload_n C dX4_firstOf_0 (n := 1) rfl rfl ?_
  refine q_aload_n C dX4_firstOf_1 (n := 2) rfl rfl ?_
  refine q_getR C dX4_firstOf_2 (n := 5) rfl f_X4_15 h0.1 (hF _ _ _ h0.2.2.2.2.1) ?_
  refine q_iload_n C dX4_firstOf_5 (n := 6) rfl rfl ?_
  have g1 := zI.at hI (h0.2.2.2.2.2.2.1 v1)
  refine q_iald C dX4_firstOf_6 (n := 7) rfl h0.2.2.2.2.2.1 (by omega) (v := M (a + 2) v1) rfl ?_
  refine q_aload_n C dX4_firstOf_7 (n := 8) rfl rfl ?_
  refine q_getR C dX4_firstOf_8 (n := 11) rfl f_X4_15 h0.1 (hF _ _ _ h0.2.2.2.2.1) ?_
  refine q_iload_n C dX4_firstOf_11 (n := 12) rfl rfl ?_
  refine q_iconst C dX4_firstOf_12 (n := 13) rfl ?_
  refine q_iadd C dX4_firstOf_13 (n := 14) rfl (v := v1 + 1) rfl ?_
  have g2 := zI.at hI (h0.2.2.2.2.2.2.1 (v1 + 1))
  refine q_iald C dX4_firstOf_14 (n := 15) rfl h0.2.2.2.2.2.1 (by omega) (v := M (a + 2) (v1 + 1)) rfl ?_
  refine q_iconst C dX4_firstOf_15 (n := 16) rfl ?_
  refine q_isub C dX4_firstOf_16 (n := 17) rfl (v := (M (a + 2) (v1 + 1)) - 1) rfl ?_
  refine q_callVp C dX4_firstOf_17 (n := 20) rfl m_X4_49 v_yX4_skipBlanks h0.1 ⟨by decide, rfl⟩ (c_X4_skipBlanks (w := w) (J := J) hI hF h0 (M (a + 2) v1) ((M (a + 2) (v1 + 1)) - 1) (by omega) (by omega)) (Nat.le_of_ble_eq_true rfl) rfl rfl (Nat.le_of_ble_eq_true rfl) ⟨Nat.le_refl _, Nat.le_refl _⟩ (fun x4 h5 => ?_)
  exact q_iret C dX4_firstOf_20 ⟨rfl, rfl⟩ (by rw [hPo]; exact ⟨x4, rfl, rfl, by omega⟩)
theorem c_X4_wordOf {w : zWp} {T : zTl} {M : zMm} {J : zJm} {R : zRm'} {G : zGt} {F : zRm'} {a : Nat} (hI : zI G M) (hF : zF F R) (h0 : zPage T F G a) (v1 : Int) (p1 : 0 ≤ v1 ∧ v1 ≤ 39) : zCt w 10 0 0 yX4_wordOf cX4_wordOf 6 (some .int) [.ref (w.2.1 + a), zi v1] (T, M, J, R) (zPp T M J R (fun x => (0 ≤ x ∧ x ≤ 4))) := by
  refine zCt.of rfl (Nat.le_of_ble_eq_true rfl) ?_
  intro p e s m args below meth c C
  obtain ⟨Po, hPo⟩ : ∃ Po, Po = zPp T M J R (fun x => (0 ≤ x ∧ x ≤ 4)) := ⟨_, rfl⟩
  rw [← hPo]
  show zK w p e 10 0 0 s m args below meth c 6 T Po 0 [.ref (w.2.1 + a), zi v1, .null, .null, .null, .null] [] (T, M, J, R)
  refine q_aload_n C dX4_wordOf_0 (n := 1) rfl rfl ?_
  refine q_getR C dX4_wordOf_1 (n := 4) rfl f_X4_15 h0.1 (hF _ _ _ h0.2.2.2.2.1) ?_
  refine q_iload_n C dX4_wordOf_4 (n := 5) rfl rfl ?_
  refine q_iconst C dX4_wordOf_5 (n := 6) rfl ?_
  refine q_iadd C dX4_wordOf_6 (n := 7) rfl (v := v1 + 1) rfl ?_
  have g1 := zI.at hI (h0.2.2.2.2.2.2.1 (v1 + 1))
  refine q_iald C dX4_wordOf_7 (n := 8) rfl h0.2.2.2.2.2.1 (by omega) (v := M (a + 2) (v1 + 1)) rfl ?_
  refine q_iconst C dX4_wordOf_8 (n := 9) rfl ?_
  refine q_isub C dX4_wordOf_9 (n := 10) rfl (v := (M (a + 2) (v1 + 1)) - 1) rfl ?_
  refine q_istore_n C [.ref (w.2.1 + a), zi v1, zi ((M (a + 2) (v1 + 1)) - 1), .null, .null, .null] dX4_wordOf_10 (n := 11) rfl rfl rfl ?_
  refine q_aload_n C dX4_wordOf_11 (n := 12) rfl rfl ?_
  refine q_iload_n C dX4_wordOf_12 (n := 13) rfl rfl ?_
  refine q_callVp C dX4_wordOf_13 (n := 16) rfl m_X4_67 v_yX4_firstOf h0.1 ⟨by decide, rfl⟩ (c_X4_firstOf (w := w) (J := J) hI hF h0 v1 (by omega)) (Nat.le_of_ble_eq_true rfl) rfl rfl (Nat.le_of_ble_eq_true rfl) ⟨Nat.le_refl _, Nat.le_refl _⟩ (fun x3 h4 => ?_)
  refine q_istore_n C [.ref (w.2.1 + a), zi v1, zi ((M (a + 2) (v1 + 1)) - 1), zi x3, .null, .null] dX4_wordOf_16 (n := 17) rfl rfl rfl ?_
  refine q_iload_n C dX4_wordOf_17 (n := 18) rfl rfl ?_
  refine q_iload_n C dX4_wordOf_18 (n := 19) rfl rfl ?_
  refine q_icmp_ge C 33 dX4_wordOf_19 (n := 22) rfl rfl (by omega) (fun h5 => ?_) (fun h5 => ?_)
  · refine q_iconst C dX4_wordOf_33 (n := 34) rfl ?_
    exact q_iret C dX4_wordOf_34 ⟨rfl, rfl⟩ (by rw [hPo]; exact ⟨0, rfl, rfl, by omega⟩)
  · refine q_aload_n C dX4_wordOf_22 (n := 23) rfl rfl ?_
    refine q_getR C dX4_wordOf_23 (n := 26) rfl f_X4_9 h0.1 (hF _ _ _ h0.2.1) ?_
    refine q_iload_n C dX4_wordOf_26 (n := 27) rfl rfl ?_
    have g6 := zI.at hI (h0.2.2.2.1 x3)
    refine q_bald C dX4_wordOf_27 (n := 28) rfl h0.2.2.1 (by omega) (v := M (a + 1) x3) rfl ?_
    refine q_bipush C dX4_wordOf_28 (n := 30) rfl (x := 35) (by decide) ?_
    refine q_icmp_eq C 35 dX4_wordOf_30 (n := 33) rfl rfl (by omega) (fun h7 => ?_) (fun h7 => ?_)
    · refine q_aload_n C dX4_wordOf_35 (n := 36) rfl rfl ?_
      refine q_iload_n C dX4_wordOf_36 (n := 37) rfl rfl ?_
      refine q_iconst C dX4_wordOf_37 (n := 38) rfl ?_
      refine q_iadd C dX4_wordOf_38 (n := 39) rfl (v := x3 + 1) rfl ?_
      refine q_iload_n C dX4_wordOf_39 (n := 40) rfl rfl ?_
      refine q_callVp C dX4_wordOf_40 (n := 43) rfl m_X4_49 v_yX4_skipBlanks h0.1 ⟨by decide, rfl⟩ (c_X4_skipBlanks (w := w) (J := J) hI hF h0 (x3 + 1) ((M (a + 2) (v1 + 1)) - 1) (by omega) (by omega)) (Nat.le_of_ble_eq_true rfl) rfl rfl (Nat.le_of_ble_eq_true rfl) ⟨Nat.le_refl _, Nat.le_refl _⟩ (fun x9 h10 => ?_)
      refine q_istore C [.ref (w.2.1 + a), zi v1, zi ((M (a + 2) (v1 + 1)) - 1), zi x3, zi x9, .null] dX4_wordOf_43 (n := 45) rfl rfl rfl ?_
      refine q_aload_n C dX4_wordOf_45 (n := 46) rfl rfl ?_
      refine q_iload C dX4_wordOf_46 (n := 48) rfl rfl ?_
      refine q_iload_n C dX4_wordOf_48 (n := 49) rfl rfl ?_
      refine q_callVp C dX4_wordOf_49 (n := 52) rfl m_X4_70 v_yX4_skipWord h0.1 ⟨by decide, rfl⟩ (c_X4_skipWord (w := w) (J := J) hI hF h0 x9 ((M (a + 2) (v1 + 1)) - 1) (by omega) (by omega)) (Nat.le_of_ble_eq_true rfl) rfl rfl (Nat.le_of_ble_eq_true rfl) ⟨Nat.le_refl _, Nat.le_refl _⟩ (fun x12 h13 => ?_)
      refine q_istore C [.ref (w.2.1 + a), zi v1, zi ((M (a + 2) (v1 + 1)) - 1), zi x3, zi x9, zi x12] dX4_wordOf_52 (n := 54) rfl rfl rfl ?_
      refine q_aload_n C dX4_wordOf_54 (n := 55) rfl rfl ?_
      refine q_getR C dX4_wordOf_55 (n := 58) rfl f_X4_9 h0.1 (hF _ _ _ h0.2.1) ?_
      refine q_iload C dX4_wordOf_58 (n := 60) rfl rfl ?_
      refine q_iload C dX4_wordOf_60 (n := 62) rfl rfl ?_
      refine q_ldcS C dX4_wordOf_62 (n := 64) rfl (k := 1) (by decide) ?_
      refine q_callSp C dX4_wordOf_64 (n := 67) rfl m_X4_75 s_yX10_says (c_X10_says (w := w) (J := J) hI hF h0.2.2.1 h0.2.2.2.1 x9 x12 1 (by decide) (by omega) (by omega) (by omega)) (Nat.le_of_ble_eq_true rfl) rfl rfl (Nat.le_of_ble_eq_true rfl) ⟨Nat.le_refl _, Nat.le_refl _⟩ (fun x15 h16 => ?_)
      refine q_if_ne C 102 dX4_wordOf_67 (n := 70) rfl rfl (by omega) (fun h17 => ?_) (fun h17 => ?_)
      · refine q_iconst C dX4_wordOf_102 (n := 103) rfl ?_
        exact q_iret C dX4_wordOf_103 ⟨rfl, rfl⟩ (by rw [hPo]; exact ⟨1, rfl, rfl, by omega⟩)
      · refine q_aload_n C dX4_wordOf_70 (n := 71) rfl rfl ?_
        refine q_getR C dX4_wordOf_71 (n := 74) rfl f_X4_9 h0.1 (hF _ _ _ h0.2.1) ?_
        refine q_iload C dX4_wordOf_74 (n := 76) rfl rfl ?_
        refine q_iload C dX4_wordOf_76 (n := 78) rfl rfl ?_
        refine q_ldcS C dX4_wordOf_78 (n := 80) rfl (k := 2) (by decide) ?_
        refine q_callSp C dX4_wordOf_80 (n := 83) rfl m_X4_75 s_yX10_says (c_X10_says (w := w) (J := J) hI hF h0.2.2.1 h0.2.2.2.1 x9 x12 2 (by decide) (by omega) (by omega) (by omega)) (Nat.le_of_ble_eq_true rfl) rfl rfl (Nat.le_of_ble_eq_true rfl) ⟨Nat.le_refl _, Nat.le_refl _⟩ (fun x19 h20 => ?_)
        refine q_if_ne C 102 dX4_wordOf_83 (n := 86) rfl rfl (by omega) (fun h21 => ?_) (fun h21 => ?_)
        · refine q_iconst C dX4_wordOf_102 (n := 103) rfl ?_
          exact q_iret C dX4_wordOf_103 ⟨rfl, rfl⟩ (by rw [hPo]; exact ⟨1, rfl, rfl, by omega⟩)
        · refine q_aload_n C dX4_wordOf_86 (n := 87) rfl rfl ?_
          refine q_getR C dX4_wordOf_87 (n := 90) rfl f_X4_9 h0.1 (hF _ _ _ h0.2.1) ?_
          refine q_iload C dX4_wordOf_90 (n := 92) rfl rfl ?_
          refine q_iload C dX4_wordOf_92 (n := 94) rfl rfl ?_
          refine q_ldcS C dX4_wordOf_94 (n := 96) rfl (k := 3) (by decide) ?_
          refine q_callSp C dX4_wordOf_96 (n := 99) rfl m_X4_75 s_yX10_says (c_X10_says (w := w) (J := J) hI hF h0.2.2.1 h0.2.2.2.1 x9 x12 3 (by decide) (by omega) (by omega) (by omega)) (Nat.le_of_ble_eq_true rfl) rfl rfl (Nat.le_of_ble_eq_true rfl) ⟨Nat.le_refl _, Nat.le_refl _⟩ (fun x23 h24 => ?_)
          refine q_if_eq C 104 dX4_wordOf_99 (n := 102) rfl rfl (by omega) (fun h25 => ?_) (fun h25 => ?_)
          · refine q_aload_n C dX4_wordOf_104 (n := 105) rfl rfl ?_
            refine q_getR C dX4_wordOf_105 (n := 108) rfl f_X4_9 h0.1 (hF _ _ _ h0.2.1) ?_
            refine q_iload C dX4_wordOf_108 (n := 110) rfl rfl ?_
            refine q_iload C dX4_wordOf_110 (n := 112) rfl rfl ?_
            refine q_ldcS C dX4_wordOf_112 (n := 114) rfl (k := 4) (by decide) ?_
            refine q_callSp C dX4_wordOf_114 (n := 117) rfl m_X4_75 s_yX10_says (c_X10_says (w := w) (J := J) hI hF h0.2.2.1 h0.2.2.2.1 x9 x12 4 (by decide) (by omega) (by omega) (by omega)) (Nat.le_of_ble_eq_true rfl) rfl rfl (Nat.le_of_ble_eq_true rfl) ⟨Nat.le_refl _, Nat.le_refl _⟩ (fun x27 h28 => ?_)
            refine q_if_eq C 122 dX4_wordOf_117 (n := 120) rfl rfl (by omega) (fun h29 => ?_) (fun h29 => ?_)
            · refine q_aload_n C dX4_wordOf_122 (n := 123) rfl rfl ?_
              refine q_getR C dX4_wordOf_123 (n := 126) rfl f_X4_9 h0.1 (hF _ _ _ h0.2.1) ?_
              refine q_iload C dX4_wordOf_126 (n := 128) rfl rfl ?_
              refine q_iload C dX4_wordOf_128 (n := 130) rfl rfl ?_
              refine q_ldcS C dX4_wordOf_130 (n := 132) rfl (k := 5) (by decide) ?_
              refine q_callSp C dX4_wordOf_132 (n := 135) rfl m_X4_75 s_yX10_says (c_X10_says (w := w) (J := J) hI hF h0.2.2.1 h0.2.2.2.1 x9 x12 5 (by decide) (by omega) (by omega) (by omega)) (Nat.le_of_ble_eq_true rfl) rfl rfl (Nat.le_of_ble_eq_true rfl) ⟨Nat.le_refl _, Nat.le_refl _⟩ (fun x31 h32 => ?_)
              refine q_if_eq C 140 dX4_wordOf_135 (n := 138) rfl rfl (by omega) (fun h33 => ?_) (fun h33 => ?_)
              · refine q_aload_n C dX4_wordOf_140 (n := 141) rfl rfl ?_
                refine q_getR C dX4_wordOf_141 (n := 144) rfl f_X4_9 h0.1 (hF _ _ _ h0.2.1) ?_
                refine q_iload C dX4_wordOf_144 (n := 146) rfl rfl ?_
                refine q_iload C dX4_wordOf_146 (n := 148) rfl rfl ?_
                refine q_ldcS C dX4_wordOf_148 (n := 150) rfl (k := 6) (by decide) ?_
                refine q_callSp C dX4_wordOf_150 (n := 153) rfl m_X4_75 s_yX10_says (c_X10_says (w := w) (J := J) hI hF h0.2.2.1 h0.2.2.2.1 x9 x12 6 (by decide) (by omega) (by omega) (by omega)) (Nat.le_of_ble_eq_true rfl) rfl rfl (Nat.le_of_ble_eq_true rfl) ⟨Nat.le_refl _, Nat.le_refl _⟩ (fun x35 h36 => ?_)
                refine q_if_eq C 160 dX4_wordOf_153 (n := 156) rfl rfl (by omega) (fun h37 => ?_) (fun h37 => ?_)
                · refine q_iconst C dX4_wordOf_160 (n := 161) rfl ?_
                  exact q_iret C dX4_wordOf_161 ⟨rfl, rfl⟩ (by rw [hPo]; exact ⟨0, rfl, rfl, by omega⟩)
                · refine q_iconst C dX4_wordOf_156 (n := 157) rfl ?_
                  refine q_goto C 161 dX4_wordOf_157 rfl ?_
                  exact q_iret C dX4_wordOf_161 ⟨rfl, rfl⟩ (by rw [hPo]; exact ⟨4, rfl, rfl, by omega⟩)
              · refine q_iconst C dX4_wordOf_138 (n := 139) rfl ?_
                exact q_iret C dX4_wordOf_139 ⟨rfl, rfl⟩ (by rw [hPo]; exact ⟨3, rfl, rfl, by omega⟩)
            · refine q_iconst C dX4_wordOf_120 (n := 121) rfl ?_
              exact q_iret C dX4_wordOf_121 ⟨rfl, rfl⟩ (by rw [hPo]; exact ⟨2, rfl, rfl, by omega⟩)
          · refine q_iconst C dX4_wordOf_102 (n := 103) rfl ?_
            exact q_iret C dX4_wordOf_103 ⟨rfl, rfl⟩ (by rw [hPo]; exact ⟨1, rfl, rfl, by omega⟩)
    · refine q_iconst C dX4_wordOf_33 (n := 34) rfl ?_
      exact q_iret C dX4_wordOf_34 ⟨rfl, rfl⟩ (by rw [hPo]; exact ⟨0, rfl, rfl, by omega⟩)
theorem c_X4_isWithin {w : zWp} {T : zTl} {M : zMm} {J : zJm} {R : zRm'} {G : zGt} {F : zRm'} {a : Nat} (hI : zI G M) (hF : zF F R) (h0 : zPage T F G a) (v1 : Int) (p1 : 0 ≤ v1 ∧ v1 ≤ 40) : zCt w 1 0 0 yX4_isWithin cX4_isWithin 4 (some .boolean) [.ref (w.2.1 + a), zi v1] (T, M, J, R) (zPp T M J R (fun x => (x = 0 ∨ x = 1))) := by
  refine zCt.of rfl (Nat.le_of_ble_eq_true rfl) ?_
  intro p e s m args below meth c C
  obtain ⟨Po, hPo⟩ : ∃ Po, Po = zPp T M J R (fun x => (x = 0 ∨ x = 1)) := ⟨_, rfl⟩
  rw [← hPo]
  show zK w p e 1 0 0 s m args below meth c 4 T Po 0 [.ref (w.2.1 + a), zi v1, .null, .null] [] (T, M, J, R)
  refine q_iconst C dX4_isWithin_0 (n := 1) rfl ?_
  refine q_istore_n C [.ref (w.2.1 + a), zi v1, zi 0, .null] dX4_isWithin_1 (n := 2) rfl rfl rfl ?_
  refine q_iconst C dX4_isWithin_2 (n := 3) rfl ?_
  refine q_istore_n C [.ref (w.2.1 + a), zi v1, zi 0, zi 0] dX4_isWithin_3 (n := 4) rfl rfl rfl ?_
  have L_7 : ∀ n8 : Nat, ∀ (u1 : Int) (u2 : Int), (-2147483648 ≤ u1 ∧ u1 ≤ 2147483647) → (-2147483648 ≤ u2 ∧ u2 ≤ 2147483647) → (0 ≤ u2 ∧ u2 ≤ v1) → (0 ≤ u1 ∧ u1 ≤ u2) → (v1 - u2 + 1 ≤ (n8 : Int)) → zK w p e 1 0 0 s m args below meth c 4 T Po 4 [.ref (w.2.1 + a), zi v1, zi u1, zi u2] [] (T, M, J, R) := by
    intro n8
    induction n8 with
    | zero =>
      intro u1 u2 h3 h4 h5 h6 hm10
      exfalso
      omega
    | succ n8 ih9 =>
      intro u1 u2 h3 h4 h5 h6 hm10
      refine q_iload_n C dX4_isWithin_4 (n := 5) rfl rfl ?_
      refine q_iload_n C dX4_isWithin_5 (n := 6) rfl rfl ?_
      refine q_icmp_ge C 48 dX4_isWithin_6 (n := 9) rfl rfl (by omega) (fun h11 => ?_) (fun h11 => ?_)
      · refine q_iload_n C dX4_isWithin_48 (n := 49) rfl rfl ?_
        refine q_if_le C 56 dX4_isWithin_49 (n := 52) rfl rfl (by omega) (fun h12 => ?_) (fun h12 => ?_)
        · refine q_iconst C dX4_isWithin_56 (n := 57) rfl ?_
          exact q_zret C dX4_isWithin_57 ⟨rfl, rfl⟩ (by omega) (by rw [hPo]; exact ⟨0, rfl, rfl, by omega⟩)
        · refine q_iconst C dX4_isWithin_52 (n := 53) rfl ?_
          refine q_goto C 57 dX4_isWithin_53 rfl ?_
          exact q_zret C dX4_isWithin_57 ⟨rfl, rfl⟩ (by omega) (by rw [hPo]; exact ⟨1, rfl, rfl, by omega⟩)
      · refine q_aload_n C dX4_isWithin_9 (n := 10) rfl rfl ?_
        refine q_getR C dX4_isWithin_10 (n := 13) rfl f_X4_19 h0.1 (hF _ _ _ h0.2.2.2.2.2.2.2.1) ?_
        refine q_iload_n C dX4_isWithin_13 (n := 14) rfl rfl ?_
        have g13 := zI.at hI (h0.2.2.2.2.2.2.2.2.2.1 u2)
        refine q_iald C dX4_isWithin_14 (n := 15) rfl h0.2.2.2.2.2.2.2.2.1 (by omega) (v := M (a + 3) u2) rfl ?_
        refine q_iconst C dX4_isWithin_15 (n := 16) rfl ?_
        have J_17 : ∀ (u14 : Int), (-2147483648 ≤ u14 ∧ u14 ≤ 2147483647) → (0 ≤ u14 ∧ u14 ≤ u2 + 1) → zK w p e 1 0 0 s m args below meth c 4 T Po 42 [.ref (w.2.1 + a), zi v1, zi u14, zi u2] [] (T, M, J, R) := by
          intro u14 h15 h16
          refine q_iinc C [.ref (w.2.1 + a), zi v1, zi u14, zi (u2 + 1)] dX4_isWithin_42 (n := 45) rfl rfl rfl rfl ?_
          refine q_goto C 4 dX4_isWithin_45 rfl ?_
          exact zK.weak (ih9 u14 (u2 + 1) (by omega) (by omega) (by omega) (by omega) (by omega)) (zwk_c (zwk_c (zwk_c (zwk_c zwk_e))))
        refine q_icmp_ne C 25 dX4_isWithin_16 (n := 19) rfl rfl (by omega) (fun h18 => ?_) (fun h18 => ?_)
        · refine q_aload_n C dX4_isWithin_25 (n := 26) rfl rfl ?_
          refine q_getR C dX4_isWithin_26 (n := 29) rfl f_X4_19 h0.1 (hF _ _ _ h0.2.2.2.2.2.2.2.1) ?_
          refine q_iload_n C dX4_isWithin_29 (n := 30) rfl rfl ?_
          refine q_iald C dX4_isWithin_30 (n := 31) rfl h0.2.2.2.2.2.2.2.2.1 (by omega) (v := M (a + 3) u2) rfl ?_
          refine q_iconst C dX4_isWithin_31 (n := 32) rfl ?_
          refine q_icmp_ne C 42 dX4_isWithin_32 (n := 35) rfl rfl (by omega) (fun h19 => ?_) (fun h19 => ?_)
          · exact zK.weak (J_17 u1 (by omega) (by omega)) (zwk_c (zwk_c (zwk_c (zwk_c zwk_e))))
          · refine q_iload_n C dX4_isWithin_35 (n := 36) rfl rfl ?_
            refine q_if_le C 42 dX4_isWithin_36 (n := 39) rfl rfl (by omega) (fun h20 => ?_) (fun h20 => ?_)
            · exact zK.weak (J_17 u1 (by omega) (by omega)) (zwk_c (zwk_c (zwk_c (zwk_c zwk_e))))
            · refine q_iinc C [.ref (w.2.1 + a), zi v1, zi (u1 + (-1)), zi u2] dX4_isWithin_39 (n := 42) rfl rfl rfl rfl ?_
              exact zK.weak (J_17 (u1 + (-1)) (by omega) (by omega)) (zwk_c (zwk_c (zwk_c (zwk_c zwk_e))))
        · refine q_iinc C [.ref (w.2.1 + a), zi v1, zi (u1 + 1), zi u2] dX4_isWithin_19 (n := 22) rfl rfl rfl rfl ?_
          refine q_goto C 42 dX4_isWithin_22 rfl ?_
          exact zK.weak (J_17 (u1 + 1) (by omega) (by omega)) (zwk_c (zwk_c (zwk_c (zwk_c zwk_e))))
  exact zK.weak (L_7 _ 0 0 (by omega) (by omega) (by omega) (by omega) (Int.self_le_toNat _)) (zwk_c (zwk_c (zwk_c (zwk_c zwk_e))))
theorem c_X4_follower {w : zWp} {T : zTl} {M : zMm} {J : zJm} {R : zRm'} {G : zGt} {F : zRm'} {a : Nat} (hI : zI G M) (hF : zF F R) (h0 : zPage T F G a) (v1 : Int) (p1 : 0 ≤ v1 ∧ v1 ≤ 39) : zCt w 2 0 0 yX4_follower cX4_follower 4 (some .int) [.ref (w.2.1 + a), zi v1] (T, M, J, R) (zPp T M J R (fun x => (-1 ≤ x ∧ x ≤ 39))) := by
  refine zCt.of rfl (Nat.le_of_ble_eq_true rfl) ?_
  intro p e s m args below meth c C
  obtain ⟨Po, hPo⟩ : ∃ Po, Po = zPp T M J R (fun x => (-1 ≤ x ∧ x ≤ 39)) := ⟨_, rfl⟩
  rw [← hPo]
  show zK w p e 2 0 0 s m args below meth c 4 T Po 0 [.ref (w.2.1 + a), zi v1, .null, .null] [] (T, M, J, R)
  refine q_aload_n C dX4_follower_0 (n := 1) rfl rfl ?_
  refine q_getR C dX4_follower_1 (n := 4) rfl f_X4_19 h0.1 (hF _ _ _ h0.2.2.2.2.2.2.2.1) ?_
  refine q_iload_n C dX4_follower_4 (n := 5) rfl rfl ?_
  have g1 := zI.at hI (h0.2.2.2.2.2.2.2.2.2.1 v1)
  refine q_iald C dX4_follower_5 (n := 6) rfl h0.2.2.2.2.2.2.2.2.1 (by omega) (v := M (a + 3) v1) rfl ?_
  refine q_if_eq C 37 dX4_follower_6 (n := 9) rfl rfl (by omega) (fun h2 => ?_) (fun h2 => ?_)
  · refine q_iconst C dX4_follower_37 (n := 38) rfl ?_
    exact q_iret C dX4_follower_38 ⟨rfl, rfl⟩ (by rw [hPo]; exact ⟨(-1), rfl, rfl, by omega⟩)
  · refine q_aload_n C dX4_follower_9 (n := 10) rfl rfl ?_
    refine q_getR C dX4_follower_10 (n := 13) rfl f_X4_19 h0.1 (hF _ _ _ h0.2.2.2.2.2.2.2.1) ?_
    refine q_iload_n C dX4_follower_13 (n := 14) rfl rfl ?_
    refine q_iald C dX4_follower_14 (n := 15) rfl h0.2.2.2.2.2.2.2.2.1 (by omega) (v := M (a + 3) v1) rfl ?_
    refine q_iconst C dX4_follower_15 (n := 16) rfl ?_
    refine q_icmp_eq C 37 dX4_follower_16 (n := 19) rfl rfl (by omega) (fun h3 => ?_) (fun h3 => ?_)
    · refine q_iconst C dX4_follower_37 (n := 38) rfl ?_
      exact q_iret C dX4_follower_38 ⟨rfl, rfl⟩ (by rw [hPo]; exact ⟨(-1), rfl, rfl, by omega⟩)
    · refine q_aload_n C dX4_follower_19 (n := 20) rfl rfl ?_
      refine q_getR C dX4_follower_20 (n := 23) rfl f_X4_19 h0.1 (hF _ _ _ h0.2.2.2.2.2.2.2.1) ?_
      refine q_iload_n C dX4_follower_23 (n := 24) rfl rfl ?_
      refine q_iald C dX4_follower_24 (n := 25) rfl h0.2.2.2.2.2.2.2.2.1 (by omega) (v := M (a + 3) v1) rfl ?_
      refine q_iconst C dX4_follower_25 (n := 26) rfl ?_
      have J_4 : zK w p e 2 0 0 s m args below meth c 4 T Po 39 [.ref (w.2.1 + a), zi v1, .null, .null] [] (T, M, J, R) := by
        refine q_iconst C dX4_follower_39 (n := 40) rfl ?_
        refine q_istore_n C [.ref (w.2.1 + a), zi v1, zi 0, .null] dX4_follower_40 (n := 41) rfl rfl rfl ?_
        refine q_iload_n C dX4_follower_41 (n := 42) rfl rfl ?_
        refine q_iconst C dX4_follower_42 (n := 43) rfl ?_
        refine q_iadd C dX4_follower_43 (n := 44) rfl (v := v1 + 1) rfl ?_
        refine q_istore_n C [.ref (w.2.1 + a), zi v1, zi 0, zi (v1 + 1)] dX4_follower_44 (n := 45) rfl rfl rfl ?_
        have L_11 : ∀ n12 : Nat, ∀ (u5 : Int) (u6 : Int), (-2147483648 ≤ u5 ∧ u5 ≤ 2147483647) → (-2147483648 ≤ u6 ∧ u6 ≤ 2147483647) → (v1 + 1 ≤ u6 ∧ u6 ≤ 40) → (-u6 ≤ u5 ∧ u5 ≤ u6) → (40 - u6 + 1 ≤ (n12 : Int)) → zK w p e 2 0 0 s m args below meth c 4 T Po 45 [.ref (w.2.1 + a), .null, zi u5, zi u6] [] (T, M, J, R) := by
          intro n12
          induction n12 with
          | zero =>
            intro u5 u6 h7 h8 h9 h10 hm14
            exfalso
            omega
          | succ n12 ih13 =>
            intro u5 u6 h7 h8 h9 h10 hm14
            refine q_iload_n C dX4_follower_45 (n := 46) rfl rfl ?_
            refine q_aload_n C dX4_follower_46 (n := 47) rfl rfl ?_
            have g15 := zI.at hI h0.2.2.2.2.2.2.2.2.2.2.1
            refine q_getI C dX4_follower_47 (n := 50) rfl f_X4_22 h0.1 (v := M a 3) rfl ?_
            refine q_icmp_ge C 107 dX4_follower_50 (n := 53) rfl rfl (by omega) (fun h16 => ?_) (fun h16 => ?_)
            · refine q_iconst C dX4_follower_107 (n := 108) rfl ?_
              exact q_iret C dX4_follower_108 ⟨rfl, rfl⟩ (by rw [hPo]; exact ⟨(-1), rfl, rfl, by omega⟩)
            · refine q_aload_n C dX4_follower_53 (n := 54) rfl rfl ?_
              refine q_getR C dX4_follower_54 (n := 57) rfl f_X4_19 h0.1 (hF _ _ _ h0.2.2.2.2.2.2.2.1) ?_
              refine q_iload_n C dX4_follower_57 (n := 58) rfl rfl ?_
              have g17 := zI.at hI (h0.2.2.2.2.2.2.2.2.2.1 u6)
              refine q_iald C dX4_follower_58 (n := 59) rfl h0.2.2.2.2.2.2.2.2.1 (by omega) (v := M (a + 3) u6) rfl ?_
              refine q_iconst C dX4_follower_59 (n := 60) rfl ?_
              have J_18 : zK w p e 2 0 0 s m args below meth c 4 T Po 69 [.ref (w.2.1 + a), .null, zi u5, zi u6] [] (T, M, J, R) := by
                refine q_iload_n C dX4_follower_69 (n := 70) rfl rfl ?_
                refine q_aload_n C dX4_follower_70 (n := 71) rfl rfl ?_
                refine q_getR C dX4_follower_71 (n := 74) rfl f_X4_19 h0.1 (hF _ _ _ h0.2.2.2.2.2.2.2.1) ?_
                refine q_iload_n C dX4_follower_74 (n := 75) rfl rfl ?_
                refine q_iald C dX4_follower_75 (n := 76) rfl h0.2.2.2.2.2.2.2.2.1 (by omega) (v := M (a + 3) u6) rfl ?_
                refine q_iconst C dX4_follower_76 (n := 77) rfl ?_
                have J_22 : ∀ (u19 : Int), (-2147483648 ≤ u19 ∧ u19 ≤ 2147483647) → (-1 ≤ u19 ∧ u19 ≤ 1) → zK w p e 2 0 0 s m args below meth c 4 T Po 99 [.ref (w.2.1 + a), .null, .null, zi u6] [zi u19, zi u5] (T, M, J, R) := by
                  intro u19 h20 h21
                  refine q_iadd C dX4_follower_99 (n := 100) rfl (v := u5 + u19) rfl ?_
                  refine q_istore_n C [.ref (w.2.1 + a), .null, zi (u5 + u19), zi u6] dX4_follower_100 (n := 101) rfl rfl rfl ?_
                  refine q_iinc C [.ref (w.2.1 + a), .null, zi (u5 + u19), zi (u6 + 1)] dX4_follower_101 (n := 104) rfl rfl rfl rfl ?_
                  refine q_goto C 45 dX4_follower_104 rfl ?_
                  exact zK.weak (ih13 (u5 + u19) (u6 + 1) (by omega) (by omega) (by omega) (by omega) (by omega)) (zwk_c (zwk_n (zwk_c (zwk_c zwk_e))))
                refine q_icmp_ne C 84 dX4_follower_77 (n := 80) rfl rfl (by omega) (fun h23 => ?_) (fun h23 => ?_)
                · refine q_aload_n C dX4_follower_84 (n := 85) rfl rfl ?_
                  refine q_getR C dX4_follower_85 (n := 88) rfl f_X4_19 h0.1 (hF _ _ _ h0.2.2.2.2.2.2.2.1) ?_
                  refine q_iload_n C dX4_follower_88 (n := 89) rfl rfl ?_
                  refine q_iald C dX4_follower_89 (n := 90) rfl h0.2.2.2.2.2.2.2.2.1 (by omega) (v := M (a + 3) u6) rfl ?_
                  refine q_iconst C dX4_follower_90 (n := 91) rfl ?_
                  refine q_icmp_ne C 98 dX4_follower_91 (n := 94) rfl rfl (by omega) (fun h24 => ?_) (fun h24 => ?_)
                  · refine q_iconst C dX4_follower_98 (n := 99) rfl ?_
                    exact zK.weak (J_22 0 (by omega) (by omega)) (zwk_c (zwk_n (zwk_n (zwk_c zwk_e))))
                  · refine q_iconst C dX4_follower_94 (n := 95) rfl ?_
                    refine q_goto C 99 dX4_follower_95 rfl ?_
                    exact zK.weak (J_22 (-1) (by omega) (by omega)) (zwk_c (zwk_n (zwk_n (zwk_c zwk_e))))
                · refine q_iconst C dX4_follower_80 (n := 81) rfl ?_
                  refine q_goto C 99 dX4_follower_81 rfl ?_
                  exact zK.weak (J_22 1 (by omega) (by omega)) (zwk_c (zwk_n (zwk_n (zwk_c zwk_e))))
              refine q_icmp_lt C 69 dX4_follower_60 (n := 63) rfl rfl (by omega) (fun h25 => ?_) (fun h25 => ?_)
              · exact zK.weak (J_18) (zwk_c (zwk_n (zwk_c (zwk_c zwk_e))))
              · refine q_iload_n C dX4_follower_63 (n := 64) rfl rfl ?_
                refine q_if_ne C 69 dX4_follower_64 (n := 67) rfl rfl (by omega) (fun h26 => ?_) (fun h26 => ?_)
                · exact zK.weak (J_18) (zwk_c (zwk_n (zwk_c (zwk_c zwk_e))))
                · refine q_iload_n C dX4_follower_67 (n := 68) rfl rfl ?_
                  exact q_iret C dX4_follower_68 ⟨rfl, rfl⟩ (by rw [hPo]; exact ⟨u6, rfl, rfl, by omega⟩)
        exact zK.weak (L_11 _ 0 (v1 + 1) (by omega) (by omega) (by omega) (by omega) (Int.self_le_toNat _)) (zwk_c (zwk_n (zwk_c (zwk_c zwk_e))))
      refine q_icmp_eq C 39 dX4_follower_26 (n := 29) rfl rfl (by omega) (fun h27 => ?_) (fun h27 => ?_)
      · exact zK.weak (J_4) (zwk_c (zwk_c (zwk_n (zwk_n zwk_e))))
      · refine q_aload_n C dX4_follower_29 (n := 30) rfl rfl ?_
        refine q_iload_n C dX4_follower_30 (n := 31) rfl rfl ?_
        refine q_callVp C dX4_follower_31 (n := 34) rfl m_X4_98 v_yX4_isWithin h0.1 ⟨by decide, rfl⟩ (c_X4_isWithin (w := w) (J := J) hI hF h0 v1 (by omega)) (Nat.le_of_ble_eq_true rfl) rfl rfl (Nat.le_of_ble_eq_true rfl) ⟨Nat.le_refl _, Nat.le_refl _⟩ (fun x29 h30 => ?_)
        refine q_if_ne C 39 dX4_follower_34 (n := 37) rfl rfl (by omega) (fun h31 => ?_) (fun h31 => ?_)
        · exact zK.weak (J_4) (zwk_c (zwk_c (zwk_n (zwk_n zwk_e))))
        · refine q_iconst C dX4_follower_37 (n := 38) rfl ?_
          exact q_iret C dX4_follower_38 ⟨rfl, rfl⟩ (by rw [hPo]; exact ⟨(-1), rfl, rfl, by omega⟩)
theorem c_X4_guardedBy {w : zWp} {T : zTl} {M : zMm} {J : zJm} {R : zRm'} {G : zGt} {F : zRm'} {a : Nat} (hI : zI G M) (hF : zF F R) (h0 : zPage T F G a) (v1 : Int) (p1 : 0 ≤ v1 ∧ v1 ≤ 39) : zCt w 10 0 0 yX4_guardedBy cX4_guardedBy 7 (some .int) [.ref (w.2.1 + a), zi v1] (T, M, J, R) (zPi T R G (fun x M2 => (zKr a 4 M M2) ∧ (x = 0 ∨ 0 < x ∧ x ≤ 30 ∧ M2 a 5 + x ≤ 401) ∧ (M2 a 3 = M a 3) ∧ (∀ i, M2 (a + 2) i = M (a + 2) i))) := by
  refine zCt.of rfl (Nat.le_of_ble_eq_true rfl) ?_
  intro p e s m args below meth c C
  obtain ⟨Po, hPo⟩ : ∃ Po, Po = zPi T R G (fun x M2 => (zKr a 4 M M2) ∧ (x = 0 ∨ 0 < x ∧ x ≤ 30 ∧ M2 a 5 + x ≤ 401) ∧ (M2 a 3 = M a 3) ∧ (∀ i, M2 (a + 2) i = M (a + 2) i)) := ⟨_, rfl⟩
  rw [← hPo]
  have hK0 : zKr a 4 M M := zKr.rf
  show zK w p e 10 0 0 s m args below meth c 7 T Po 0 [.ref (w.2.1 + a), zi v1, .null, .null, .null, .null, .null] [] (T, M, J, R)
  refine q_aload_n C dX4_guardedBy_0 (n := 1) rfl rfl ?_
  refine q_getR C dX4_guardedBy_1 (n := 4) rfl f_X4_15 h0.1 (hF _ _ _ h0.2.2.2.2.1) ?_
  refine q_iload_n C dX4_guardedBy_4 (n := 5) rfl rfl ?_
  refine q_iconst C dX4_guardedBy_5 (n := 6) rfl ?_
  refine q_iadd C dX4_guardedBy_6 (n := 7) rfl (v := v1 + 1) rfl ?_
  have g1 := zI.at hI (h0.2.2.2.2.2.2.1 (v1 + 1))
  refine q_iald C dX4_guardedBy_7 (n := 8) rfl h0.2.2.2.2.2.1 (by omega) (v := M (a + 2) (v1 + 1)) rfl ?_
  refine q_iconst C dX4_guardedBy_8 (n := 9) rfl ?_
  refine q_isub C dX4_guardedBy_9 (n := 10) rfl (v := (M (a + 2) (v1 + 1)) - 1) rfl ?_
  refine q_istore_n C [.ref (w.2.1 + a), zi v1, zi ((M (a + 2) (v1 + 1)) - 1), .null, .null, .null, .null] dX4_guardedBy_10 (n := 11) rfl rfl rfl ?_
  refine q_aload_n C dX4_guardedBy_11 (n := 12) rfl rfl ?_
  refine q_aload_n C dX4_guardedBy_12 (n := 13) rfl rfl ?_
  refine q_iload_n C dX4_guardedBy_13 (n := 14) rfl rfl ?_
  refine q_callVp C dX4_guardedBy_14 (n := 17) rfl m_X4_67 v_yX4_firstOf h0.1 ⟨by decide, rfl⟩ (c_X4_firstOf (w := w) (J := J) hI hF h0 v1 (by omega)) (Nat.le_of_ble_eq_true rfl) rfl rfl (Nat.le_of_ble_eq_true rfl) ⟨Nat.le_refl _, Nat.le_refl _⟩ (fun x3 h4 => ?_)
  refine q_iconst C dX4_guardedBy_17 (n := 18) rfl ?_
  refine q_iadd C dX4_guardedBy_18 (n := 19) rfl (v := x3 + 1) rfl ?_
  refine q_iload_n C dX4_guardedBy_19 (n := 20) rfl rfl ?_
  refine q_callVp C dX4_guardedBy_20 (n := 23) rfl m_X4_49 v_yX4_skipBlanks h0.1 ⟨by decide, rfl⟩ (c_X4_skipBlanks (w := w) (J := J) hI hF h0 (x3 + 1) ((M (a + 2) (v1 + 1)) - 1) (by omega) (by omega)) (Nat.le_of_ble_eq_true rfl) rfl rfl (Nat.le_of_ble_eq_true rfl) ⟨Nat.le_refl _, Nat.le_refl _⟩ (fun x6 h7 => ?_)
  refine q_istore_n C [.ref (w.2.1 + a), zi v1, zi ((M (a + 2) (v1 + 1)) - 1), zi x6, .null, .null, .null] dX4_guardedBy_23 (n := 24) rfl rfl rfl ?_
  refine q_aload_n C dX4_guardedBy_24 (n := 25) rfl rfl ?_
  refine q_iload_n C dX4_guardedBy_25 (n := 26) rfl rfl ?_
  refine q_iload_n C dX4_guardedBy_26 (n := 27) rfl rfl ?_
  refine q_callVp C dX4_guardedBy_27 (n := 30) rfl m_X4_70 v_yX4_skipWord h0.1 ⟨by decide, rfl⟩ (c_X4_skipWord (w := w) (J := J) hI hF h0 x6 ((M (a + 2) (v1 + 1)) - 1) (by omega) (by omega)) (Nat.le_of_ble_eq_true rfl) rfl rfl (Nat.le_of_ble_eq_true rfl) ⟨Nat.le_refl _, Nat.le_refl _⟩ (fun x9 h10 => ?_)
  refine q_istore C [.ref (w.2.1 + a), zi v1, zi ((M (a + 2) (v1 + 1)) - 1), zi x6, zi x9, .null, .null] dX4_guardedBy_30 (n := 32) rfl rfl rfl ?_
  refine q_aload_n C dX4_guardedBy_32 (n := 33) rfl rfl ?_
  refine q_getR C dX4_guardedBy_33 (n := 36) rfl f_X4_9 h0.1 (hF _ _ _ h0.2.1) ?_
  refine q_iload_n C dX4_guardedBy_36 (n := 37) rfl rfl ?_
  refine q_iload C dX4_guardedBy_37 (n := 39) rfl rfl ?_
  refine q_ldcS C dX4_guardedBy_39 (n := 41) rfl (k := 3) (by decide) ?_
  refine q_callSp C dX4_guardedBy_41 (n := 44) rfl m_X4_75 s_yX10_says (c_X10_says (w := w) (J := J) hI hF h0.2.2.1 h0.2.2.2.1 x6 x9 3 (by decide) (by omega) (by omega) (by omega)) (Nat.le_of_ble_eq_true rfl) rfl rfl (Nat.le_of_ble_eq_true rfl) ⟨Nat.le_refl _, Nat.le_refl _⟩ (fun x12 h13 => ?_)
  refine q_if_ne C 49 dX4_guardedBy_44 (n := 47) rfl rfl (by omega) (fun h14 => ?_) (fun h14 => ?_)
  · refine q_aload_n C dX4_guardedBy_49 (n := 50) rfl rfl ?_
    refine q_aload_n C dX4_guardedBy_50 (n := 51) rfl rfl ?_
    refine q_iload C dX4_guardedBy_51 (n := 53) rfl rfl ?_
    refine q_iload_n C dX4_guardedBy_53 (n := 54) rfl rfl ?_
    refine q_callVp C dX4_guardedBy_54 (n := 57) rfl m_X4_49 v_yX4_skipBlanks h0.1 ⟨by decide, rfl⟩ (c_X4_skipBlanks (w := w) (J := J) hI hF h0 x9 ((M (a + 2) (v1 + 1)) - 1) (by omega) (by omega)) (Nat.le_of_ble_eq_true rfl) rfl rfl (Nat.le_of_ble_eq_true rfl) ⟨Nat.le_refl _, Nat.le_refl _⟩ (fun x16 h17 => ?_)
    refine q_putI C dX4_guardedBy_57 (n := 60) rfl f_X4_30 h0.1 ⟨rfl, rfl⟩ (fun M18 (e19 : M18 = zup M a 5 x16) => ?_)
    have hI20 : zI G M18 := hI.put e19 h0.2.2.2.2.2.2.2.2.2.2.2.2.1 rfl (by omega)
    have hK21 := hK0.put e19 (by omega)
    refine q_aload_n C dX4_guardedBy_60 (n := 61) rfl rfl ?_
    refine q_aload_n C dX4_guardedBy_61 (n := 62) rfl rfl ?_
    refine q_getI C dX4_guardedBy_62 (n := 65) rfl f_X4_30 h0.1 (v := x16) (zup_s e19) ?_
    refine q_iload_n C dX4_guardedBy_65 (n := 66) rfl rfl ?_
    refine q_callVp C dX4_guardedBy_66 (n := 69) rfl m_X4_70 v_yX4_skipWord h0.1 ⟨by decide, rfl⟩ (c_X4_skipWord (w := w) (J := J) hI20 hF h0 x16 ((M (a + 2) (v1 + 1)) - 1) (by omega) (by omega)) (Nat.le_of_ble_eq_true rfl) rfl rfl (Nat.le_of_ble_eq_true rfl) ⟨Nat.le_refl _, Nat.le_refl _⟩ (fun x23 h24 => ?_)
    refine q_aload_n C dX4_guardedBy_69 (n := 70) rfl rfl ?_
    refine q_getI C dX4_guardedBy_70 (n := 73) rfl f_X4_30 h0.1 (v := x16) (zup_s e19) ?_
    refine q_isub C dX4_guardedBy_73 (n := 74) rfl (v := x23 - x16) rfl ?_
    refine q_istore C [.ref (w.2.1 + a), zi v1, zi ((M (a + 2) (v1 + 1)) - 1), zi x6, zi x9, zi (x23 - x16), .null] dX4_guardedBy_74 (n := 76) rfl rfl rfl ?_
    refine q_iload C dX4_guardedBy_76 (n := 78) rfl rfl ?_
    have J_29 : ∀ (u25 : Int), (-2147483648 ≤ u25 ∧ u25 ≤ 2147483647) → (u25 = 0 ∨ u25 = 1) → (u25 = 0 ∨ 0 < (x23 - x16) ∧ (x23 - x16) ≤ 30) → zK w p e 10 0 0 s m args below meth c 7 T Po 108 [.ref (w.2.1 + a), .null, zi ((M (a + 2) (v1 + 1)) - 1), .null, .null, zi (x23 - x16), .null] [zi u25] (T, M18, J, R) := by
      intro u25 h26 h27 h28
      refine q_istore C [.ref (w.2.1 + a), .null, zi ((M (a + 2) (v1 + 1)) - 1), .null, .null, zi (x23 - x16), zi u25] dX4_guardedBy_108 (n := 110) rfl rfl rfl ?_
      refine q_iload C dX4_guardedBy_110 (n := 112) rfl rfl ?_
      have J_33 : ∀ (u30 : Int), (-2147483648 ≤ u30 ∧ u30 ≤ 2147483647) → (u30 = 0 ∨ u30 = (x23 - x16) ∧ 0 < (x23 - x16) ∧ (x23 - x16) ≤ 30) → zK w p e 10 0 0 s m args below meth c 7 T Po 137 [.null, .null, .null, .null, .null, .null, .null] [zi u30] (T, M18, J, R) := by
        intro u30 h31 h32
        exact q_iret C dX4_guardedBy_137 ⟨rfl, rfl⟩ (by rw [hPo]; exact ⟨u30, M18, J, rfl, rfl, hI20, hK21, (by have hz : M18 a 5 = x16 := (zup_s e19); omega), (by have hz : M18 a 3 = M a 3 := (zup_n e19 (by omega)); omega), (fun i => (zup_p e19 (by omega) _))⟩)
      refine q_if_eq C 136 dX4_guardedBy_112 (n := 115) rfl rfl (by omega) (fun h34 => ?_) (fun h34 => ?_)
      · refine q_iconst C dX4_guardedBy_136 (n := 137) rfl ?_
        exact zK.weak (J_33 0 (by omega) (by omega)) (zwk_n (zwk_n (zwk_n (zwk_n (zwk_n (zwk_n (zwk_n zwk_e)))))))
      · refine q_aload_n C dX4_guardedBy_115 (n := 116) rfl rfl ?_
        refine q_aload_n C dX4_guardedBy_116 (n := 117) rfl rfl ?_
        refine q_getI C dX4_guardedBy_117 (n := 120) rfl f_X4_30 h0.1 (v := x16) (zup_s e19) ?_
        refine q_iload C dX4_guardedBy_120 (n := 122) rfl rfl ?_
        refine q_iadd C dX4_guardedBy_122 (n := 123) rfl (v := x16 + (x23 - x16)) rfl ?_
        refine q_iload_n C dX4_guardedBy_123 (n := 124) rfl rfl ?_
        refine q_callVp C dX4_guardedBy_124 (n := 127) rfl m_X4_49 v_yX4_skipBlanks h0.1 ⟨by decide, rfl⟩ (c_X4_skipBlanks (w := w) (J := J) hI20 hF h0 (x16 + (x23 - x16)) ((M (a + 2) (v1 + 1)) - 1) (by omega) (by omega)) (Nat.le_of_ble_eq_true rfl) rfl rfl (Nat.le_of_ble_eq_true rfl) ⟨Nat.le_refl _, Nat.le_refl _⟩ (fun x36 h37 => ?_)
        refine q_iload_n C dX4_guardedBy_127 (n := 128) rfl rfl ?_
        refine q_icmp_ne C 136 dX4_guardedBy_128 (n := 131) rfl rfl (by omega) (fun h38 => ?_) (fun h38 => ?_)
        · refine q_iconst C dX4_guardedBy_136 (n := 137) rfl ?_
          exact zK.weak (J_33 0 (by omega) (by omega)) (zwk_n (zwk_n (zwk_n (zwk_n (zwk_n (zwk_n (zwk_n zwk_e)))))))
        · refine q_iload C dX4_guardedBy_131 (n := 133) rfl rfl ?_
          refine q_goto C 137 dX4_guardedBy_133 rfl ?_
          exact zK.weak (J_33 (x23 - x16) (by omega) (by omega)) (zwk_n (zwk_n (zwk_n (zwk_n (zwk_n (zwk_n (zwk_n zwk_e)))))))
    have J_39 : zK w p e 10 0 0 s m args below meth c 7 T Po 107 [.ref (w.2.1 + a), .null, zi ((M (a + 2) (v1 + 1)) - 1), .null, .null, zi (x23 - x16), .null] [] (T, M18, J, R) := by
      refine q_iconst C dX4_guardedBy_107 (n := 108) rfl ?_
      exact zK.weak (J_29 0 (by omega) (by omega) (by omega)) (zwk_c (zwk_n (zwk_c (zwk_n (zwk_n (zwk_c (zwk_n zwk_e)))))))
    refine q_if_le C 107 dX4_guardedBy_78 (n := 81) rfl rfl (by omega) (fun h40 => ?_) (fun h40 => ?_)
    · exact zK.weak (J_39) (zwk_c (zwk_n (zwk_c (zwk_n (zwk_n (zwk_c (zwk_n zwk_e)))))))
    · refine q_iload C dX4_guardedBy_81 (n := 83) rfl rfl ?_
      refine q_bipush C dX4_guardedBy_83 (n := 85) rfl (x := 30) (by decide) ?_
      refine q_icmp_gt C 107 dX4_guardedBy_85 (n := 88) rfl rfl (by omega) (fun h41 => ?_) (fun h41 => ?_)
      · exact zK.weak (J_39) (zwk_c (zwk_n (zwk_c (zwk_n (zwk_n (zwk_c (zwk_n zwk_e)))))))
      · refine q_aload_n C dX4_guardedBy_88 (n := 89) rfl rfl ?_
        refine q_getR C dX4_guardedBy_89 (n := 92) rfl f_X4_9 h0.1 (hF _ _ _ h0.2.1) ?_
        refine q_aload_n C dX4_guardedBy_92 (n := 93) rfl rfl ?_
        refine q_getI C dX4_guardedBy_93 (n := 96) rfl f_X4_30 h0.1 (v := x16) (zup_s e19) ?_
        have g42 := zI.at hI (h0.2.2.2.1 x16)
        refine q_bald C dX4_guardedBy_96 (n := 97) rfl h0.2.2.1 (by omega) (v := M (a + 1) x16) (zup_p e19 (by omega) _) ?_
        refine q_callSp C dX4_guardedBy_97 (n := 100) rfl m_X4_95 s_yX10_isDigit (c_X10_isDigit (w := w) (J := J) hI20 hF (M (a + 1) x16) (by omega)) (Nat.le_of_ble_eq_true rfl) rfl rfl (Nat.le_of_ble_eq_true rfl) ⟨Nat.le_refl _, Nat.le_refl _⟩ (fun x44 h45 => ?_)
        refine q_if_ne C 107 dX4_guardedBy_100 (n := 103) rfl rfl (by omega) (fun h46 => ?_) (fun h46 => ?_)
        · exact zK.weak (J_39) (zwk_c (zwk_n (zwk_c (zwk_n (zwk_n (zwk_c (zwk_n zwk_e)))))))
        · refine q_iconst C dX4_guardedBy_103 (n := 104) rfl ?_
          refine q_goto C 108 dX4_guardedBy_104 rfl ?_
          exact zK.weak (J_29 1 (by omega) (by omega) (by omega)) (zwk_c (zwk_n (zwk_c (zwk_n (zwk_n (zwk_c (zwk_n zwk_e)))))))
  · refine q_iconst C dX4_guardedBy_47 (n := 48) rfl ?_
    exact q_iret C dX4_guardedBy_48 ⟨rfl, rfl⟩ (by rw [hPo]; exact ⟨0, M, J, rfl, rfl, hI, hK0, (by have hz : M a 5 = M a 5 := rfl; omega), (by have hz : M a 3 = M a 3 := rfl; omega), (fun i => rfl)⟩)
theorem c_X4_guardOf {w : zWp} {T : zTl} {M : zMm} {J : zJm} {R : zRm'} {G : zGt} {F : zRm'} {a : Nat} (hI : zI G M) (hF : zF F R) (h0 : zPage T F G a) : zCt w 11 0 0 yX4_guardOf cX4_guardOf 3 (some .int) [.ref (w.2.1 + a)] (T, M, J, R) (zPi T R G (fun x M2 => (zKr a 4 M M2) ∧ (x = 0 ∨ 0 < x ∧ x ≤ 30 ∧ M2 a 5 + x ≤ 401) ∧ (M2 a 3 = M a 3) ∧ (∀ i, M2 (a + 2) i = M (a + 2) i))) := by
  refine zCt.of rfl (Nat.le_of_ble_eq_true rfl) ?_
  intro p e s m args below meth c C
  obtain ⟨Po, hPo⟩ : ∃ Po, Po = zPi T R G (fun x M2 => (zKr a 4 M M2) ∧ (x = 0 ∨ 0 < x ∧ x ≤ 30 ∧ M2 a 5 + x ≤ 401) ∧ (M2 a 3 = M a 3) ∧ (∀ i, M2 (a + 2) i = M (a + 2) i)) := ⟨_, rfl⟩
  rw [← hPo]
  have hK0 : zKr a 4 M M := zKr.rf
  show zK w p e 11 0 0 s m args below meth c 3 T Po 0 [.ref (w.2.1 + a), .null, .null] [] (T, M, J, R)
  refine q_iconst C dX4_guardOf_0 (n := 1) rfl ?_
  refine q_istore_n C [.ref (w.2.1 + a), zi 0, .null] dX4_guardOf_1 (n := 2) rfl rfl rfl ?_
  have L_4 : ∀ n5 : Nat, ∀ (u1 : Int), (-2147483648 ≤ u1 ∧ u1 ≤ 2147483647) → (0 ≤ u1 ∧ u1 ≤ 40) → (40 - u1 + 1 ≤ (n5 : Int)) → zK w p e 11 0 0 s m args below meth c 3 T Po 2 [.ref (w.2.1 + a), zi u1, .null] [] (T, M, J, R) := by
    intro n5
    induction n5 with
    | zero =>
      intro u1 h2 h3 hm7
      exfalso
      omega
    | succ n5 ih6 =>
      intro u1 h2 h3 hm7
      refine q_iload_n C dX4_guardOf_2 (n := 3) rfl rfl ?_
      refine q_aload_n C dX4_guardOf_3 (n := 4) rfl rfl ?_
      have g8 := zI.at hI h0.2.2.2.2.2.2.2.2.2.2.1
      refine q_getI C dX4_guardOf_4 (n := 7) rfl f_X4_22 h0.1 (v := M a 3) rfl ?_
      have J_9 : zK w p e 11 0 0 s m args below meth c 3 T Po 34 [.ref (w.2.1 + a), zi u1, .null] [] (T, M, J, R) := by
        refine q_aload_n C dX4_guardOf_34 (n := 35) rfl rfl ?_
        refine q_getI C dX4_guardOf_35 (n := 38) rfl f_X4_22 h0.1 (v := M a 3) rfl ?_
        refine q_iconst C dX4_guardOf_38 (n := 39) rfl ?_
        refine q_isub C dX4_guardOf_39 (n := 40) rfl (v := (M a 3) - 1) rfl ?_
        refine q_istore_n C [.ref (w.2.1 + a), zi u1, zi ((M a 3) - 1)] dX4_guardOf_40 (n := 41) rfl rfl rfl ?_
        have L_13 : ∀ n14 : Nat, ∀ (u10 : Int), (-2147483648 ≤ u10 ∧ u10 ≤ 2147483647) → (-1 ≤ u10 ∧ u10 ≤ 39) → (u10 + 2 ≤ (n14 : Int)) → zK w p e 11 0 0 s m args below meth c 3 T Po 41 [.ref (w.2.1 + a), zi u1, zi u10] [] (T, M, J, R) := by
          intro n14
          induction n14 with
          | zero =>
            intro u10 h11 h12 hm16
            exfalso
            omega
          | succ n14 ih15 =>
            intro u10 h11 h12 hm16
            refine q_iload_n C dX4_guardOf_41 (n := 42) rfl rfl ?_
            refine q_iload_n C dX4_guardOf_42 (n := 43) rfl rfl ?_
            have J_17 : zK w p e 11 0 0 s m args below meth c 3 T Po 70 [.ref (w.2.1 + a), zi u1, zi u10] [] (T, M, J, R) := by
              refine q_iload_n C dX4_guardOf_70 (n := 71) rfl rfl ?_
              refine q_iload_n C dX4_guardOf_71 (n := 72) rfl rfl ?_
              refine q_icmp_ge C 94 dX4_guardOf_72 (n := 75) rfl rfl (by omega) (fun h18 => ?_) (fun h18 => ?_)
              · refine q_iconst C dX4_guardOf_94 (n := 95) rfl ?_
                exact q_iret C dX4_guardOf_95 ⟨rfl, rfl⟩ (by rw [hPo]; exact ⟨0, M, J, rfl, rfl, hI, hK0, (by have hz : M a 5 = M a 5 := rfl; omega), (by have hz : M a 3 = M a 3 := rfl; omega), (fun i => rfl)⟩)
              · refine q_aload_n C dX4_guardOf_75 (n := 76) rfl rfl ?_
                refine q_iload_n C dX4_guardOf_76 (n := 77) rfl rfl ?_
                refine q_callVp C dX4_guardOf_77 (n := 80) rfl m_X4_89 v_yX4_follower h0.1 ⟨by decide, rfl⟩ (c_X4_follower (w := w) (J := J) hI hF h0 u1 (by omega)) (Nat.le_of_ble_eq_true rfl) rfl rfl (Nat.le_of_ble_eq_true rfl) ⟨Nat.le_refl _, Nat.le_refl _⟩ (fun x20 h21 => ?_)
                refine q_iload_n C dX4_guardOf_80 (n := 81) rfl rfl ?_
                refine q_icmp_ne C 94 dX4_guardOf_81 (n := 84) rfl rfl (by omega) (fun h22 => ?_) (fun h22 => ?_)
                · refine q_iconst C dX4_guardOf_94 (n := 95) rfl ?_
                  exact q_iret C dX4_guardOf_95 ⟨rfl, rfl⟩ (by rw [hPo]; exact ⟨0, M, J, rfl, rfl, hI, hK0, (by have hz : M a 5 = M a 5 := rfl; omega), (by have hz : M a 3 = M a 3 := rfl; omega), (fun i => rfl)⟩)
                · refine q_aload_n C dX4_guardOf_84 (n := 85) rfl rfl ?_
                  refine q_getR C dX4_guardOf_85 (n := 88) rfl f_X4_19 h0.1 (hF _ _ _ h0.2.2.2.2.2.2.2.1) ?_
                  refine q_iload_n C dX4_guardOf_88 (n := 89) rfl rfl ?_
                  have g23 := zI.at hI (h0.2.2.2.2.2.2.2.2.2.1 u10)
                  refine q_iald C dX4_guardOf_89 (n := 90) rfl h0.2.2.2.2.2.2.2.2.1 (by omega) (v := M (a + 3) u10) rfl ?_
                  refine q_iconst C dX4_guardOf_90 (n := 91) rfl ?_
                  refine q_icmp_eq C 96 dX4_guardOf_91 (n := 94) rfl rfl (by omega) (fun h24 => ?_) (fun h24 => ?_)
                  · refine q_aload_n C dX4_guardOf_96 (n := 97) rfl rfl ?_
                    refine q_iload_n C dX4_guardOf_97 (n := 98) rfl rfl ?_
                    refine q_callVi C dX4_guardOf_98 (n := 101) rfl m_X4_92 v_yX4_guardedBy h0.1 ⟨by decide, rfl⟩ (c_X4_guardedBy (w := w) (J := J) hI hF h0 u1 (by omega)) (Nat.le_of_ble_eq_true rfl) rfl rfl (Nat.le_of_ble_eq_true rfl) ⟨Nat.le_refl _, Nat.le_refl _⟩ (fun x32 M28 J29  hI30 h31 => ?_)
                    obtain ⟨hk33, h25, h26, h27⟩ := h31
                    have hK34 := hK0.tr hk33
                    exact q_iret C dX4_guardOf_101 ⟨rfl, rfl⟩ (by rw [hPo]; exact ⟨x32, M28, J29, rfl, rfl, hI30, hK34, (by have hz : M28 a 5 = M28 a 5 := rfl; omega), (by have hz : M28 a 3 = M a 3 := (h26); omega), (fun i => (h27 i))⟩)
                  · refine q_iconst C dX4_guardOf_94 (n := 95) rfl ?_
                    exact q_iret C dX4_guardOf_95 ⟨rfl, rfl⟩ (by rw [hPo]; exact ⟨0, M, J, rfl, rfl, hI, hK0, (by have hz : M a 5 = M a 5 := rfl; omega), (by have hz : M a 3 = M a 3 := rfl; omega), (fun i => rfl)⟩)
            refine q_icmp_le C 70 dX4_guardOf_43 (n := 46) rfl rfl (by omega) (fun h35 => ?_) (fun h35 => ?_)
            · exact zK.weak (J_17) (zwk_c (zwk_c (zwk_c zwk_e)))
            · refine q_aload_n C dX4_guardOf_46 (n := 47) rfl rfl ?_
              refine q_iload_n C dX4_guardOf_47 (n := 48) rfl rfl ?_
              refine q_callVp C dX4_guardOf_48 (n := 51) rfl m_X4_67 v_yX4_firstOf h0.1 ⟨by decide, rfl⟩ (c_X4_firstOf (w := w) (J := J) hI hF h0 u10 (by omega)) (Nat.le_of_ble_eq_true rfl) rfl rfl (Nat.le_of_ble_eq_true rfl) ⟨Nat.le_refl _, Nat.le_refl _⟩ (fun x37 h38 => ?_)
              refine q_aload_n C dX4_guardOf_51 (n := 52) rfl rfl ?_
              refine q_getR C dX4_guardOf_52 (n := 55) rfl f_X4_15 h0.1 (hF _ _ _ h0.2.2.2.2.1) ?_
              refine q_iload_n C dX4_guardOf_55 (n := 56) rfl rfl ?_
              refine q_iconst C dX4_guardOf_56 (n := 57) rfl ?_
              refine q_iadd C dX4_guardOf_57 (n := 58) rfl (v := u10 + 1) rfl ?_
              have g39 := zI.at hI (h0.2.2.2.2.2.2.1 (u10 + 1))
              refine q_iald C dX4_guardOf_58 (n := 59) rfl h0.2.2.2.2.2.1 (by omega) (v := M (a + 2) (u10 + 1)) rfl ?_
              refine q_iconst C dX4_guardOf_59 (n := 60) rfl ?_
              refine q_isub C dX4_guardOf_60 (n := 61) rfl (v := (M (a + 2) (u10 + 1)) - 1) rfl ?_
              refine q_icmp_ne C 70 dX4_guardOf_61 (n := 64) rfl rfl (by omega) (fun h40 => ?_) (fun h40 => ?_)
              · exact zK.weak (J_17) (zwk_c (zwk_c (zwk_c zwk_e)))
              · refine q_iinc C [.ref (w.2.1 + a), zi u1, zi (u10 + (-1))] dX4_guardOf_64 (n := 67) rfl rfl rfl rfl ?_
                refine q_goto C 41 dX4_guardOf_67 rfl ?_
                exact zK.weak (ih15 (u10 + (-1)) (by omega) (by omega) (by omega)) (zwk_c (zwk_c (zwk_c zwk_e)))
        exact zK.weak (L_13 _ ((M a 3) - 1) (by omega) (by omega) (Int.self_le_toNat _)) (zwk_c (zwk_c (zwk_c zwk_e)))
      refine q_icmp_ge C 34 dX4_guardOf_7 (n := 10) rfl rfl (by omega) (fun h41 => ?_) (fun h41 => ?_)
      · exact zK.weak (J_9) (zwk_c (zwk_c (zwk_n zwk_e)))
      · refine q_aload_n C dX4_guardOf_10 (n := 11) rfl rfl ?_
        refine q_iload_n C dX4_guardOf_11 (n := 12) rfl rfl ?_
        refine q_callVp C dX4_guardOf_12 (n := 15) rfl m_X4_67 v_yX4_firstOf h0.1 ⟨by decide, rfl⟩ (c_X4_firstOf (w := w) (J := J) hI hF h0 u1 (by omega)) (Nat.le_of_ble_eq_true rfl) rfl rfl (Nat.le_of_ble_eq_true rfl) ⟨Nat.le_refl _, Nat.le_refl _⟩ (fun x43 h44 => ?_)
        refine q_aload_n C dX4_guardOf_15 (n := 16) rfl rfl ?_
        refine q_getR C dX4_guardOf_16 (n := 19) rfl f_X4_15 h0.1 (hF _ _ _ h0.2.2.2.2.1) ?_
        refine q_iload_n C dX4_guardOf_19 (n := 20) rfl rfl ?_
        refine q_iconst C dX4_guardOf_20 (n := 21) rfl ?_
        refine q_iadd C dX4_guardOf_21 (n := 22) rfl (v := u1 + 1) rfl ?_
        have g45 := zI.at hI (h0.2.2.2.2.2.2.1 (u1 + 1))
        refine q_iald C dX4_guardOf_22 (n := 23) rfl h0.2.2.2.2.2.1 (by omega) (v := M (a + 2) (u1 + 1)) rfl ?_
        refine q_iconst C dX4_guardOf_23 (n := 24) rfl ?_
        refine q_isub C dX4_guardOf_24 (n := 25) rfl (v := (M (a + 2) (u1 + 1)) - 1) rfl ?_
        refine q_icmp_ne C 34 dX4_guardOf_25 (n := 28) rfl rfl (by omega) (fun h46 => ?_) (fun h46 => ?_)
        · exact zK.weak (J_9) (zwk_c (zwk_c (zwk_n zwk_e)))
        · refine q_iinc C [.ref (w.2.1 + a), zi (u1 + 1), .null] dX4_guardOf_28 (n := 31) rfl rfl rfl rfl ?_
          refine q_goto C 2 dX4_guardOf_31 rfl ?_
          exact zK.weak (ih6 (u1 + 1) (by omega) (by omega) (by omega)) (zwk_c (zwk_c (zwk_n zwk_e)))
  exact zK.weak (L_4 _ 0 (by omega) (by omega) (Int.self_le_toNat _)) (zwk_c (zwk_c (zwk_n zwk_e)))
theorem c_X4_mark {w : zWp} {T : zTl} {M : zMm} {J : zJm} {R : zRm'} {G : zGt} {F : zRm'} {a : Nat} (hI : zI G M) (hF : zF F R) (h0 : zPage T F G a) : zCt w 12 0 0 yX4_mark cX4_mark 2 none [.ref (w.2.1 + a)] (T, M, J, R) (zPv T R G (fun M2 => (zKr a 4 M M2) ∧ (M2 a 3 = M a 3) ∧ (∀ i, M2 (a + 2) i = M (a + 2) i) ∧ (M2 a 6 = 0 ∨ M2 a 5 + M2 a 6 ≤ 401))) := by
  refine zCt.of rfl (Nat.le_of_ble_eq_true rfl) ?_
  intro p e s m args below meth c C
  obtain ⟨Po, hPo⟩ : ∃ Po, Po = zPv T R G (fun M2 => (zKr a 4 M M2) ∧ (M2 a 3 = M a 3) ∧ (∀ i, M2 (a + 2) i = M (a + 2) i) ∧ (M2 a 6 = 0 ∨ M2 a 5 + M2 a 6 ≤ 401)) := ⟨_, rfl⟩
  rw [← hPo]
  have hK0 : zKr a 4 M M := zKr.rf
  show zK w p e 12 0 0 s m args below meth c 2 T Po 0 [.ref (w.2.1 + a), .null] [] (T, M, J, R)
  refine q_iconst C dX4_mark_0 (n := 1) rfl ?_
  refine q_istore_n C [.ref (w.2.1 + a), zi 0] dX4_mark_1 (n := 2) rfl rfl rfl ?_
  have L_10 : ∀ n11 : Nat, ∀ (u1 : Int) (M2 : zMm) (J3 : zJm), zI G M2 → zKr a 4 M M2 → (-2147483648 ≤ u1 ∧ u1 ≤ 2147483647) → (0 ≤ u1 ∧ u1 ≤ 40) → (M2 a 3 = M a 3) → (∀ i, M2 (a + 2) i = M (a + 2) i) → (40 - u1 + 1 ≤ (n11 : Int)) → zK w p e 12 0 0 s m args below meth c 2 T Po 2 [.ref (w.2.1 + a), zi u1] [] (T, M2, J3, R) := by
    intro n11
    induction n11 with
    | zero =>
      intro u1 M2 J3 hI4 hK5 h6 h7 h8 h9 hm13
      exfalso
      omega
    | succ n11 ih12 =>
      intro u1 M2 J3 hI4 hK5 h6 h7 h8 h9 hm13
      refine q_iload_n C dX4_mark_2 (n := 3) rfl rfl ?_
      refine q_aload_n C dX4_mark_3 (n := 4) rfl rfl ?_
      have g14 := zI.at hI h0.2.2.2.2.2.2.2.2.2.2.1
      refine q_getI C dX4_mark_4 (n := 7) rfl f_X4_22 h0.1 (v := M a 3) (h8) ?_
      refine q_icmp_ge C 27 dX4_mark_7 (n := 10) rfl rfl (by omega) (fun h15 => ?_) (fun h15 => ?_)
      · refine q_aload_n C dX4_mark_27 (n := 28) rfl rfl ?_
        refine q_aload_n C dX4_mark_28 (n := 29) rfl rfl ?_
        refine q_callVi C dX4_mark_29 (n := 32) rfl m_X4_63 v_yX4_guardOf h0.1 ⟨by decide, rfl⟩ (c_X4_guardOf (w := w) (J := J3) hI4 hF h0) (Nat.le_of_ble_eq_true rfl) rfl rfl (Nat.le_of_ble_eq_true rfl) ⟨Nat.le_refl _, Nat.le_refl _⟩ (fun x23 M19 J20  hI21 h22 => ?_)
        obtain ⟨hk24, h16, h17, h18⟩ := h22
        have hK25 := hK5.tr hk24
        have hz26 : M2 a 3 = M a 3 := (h8)
        refine q_putI C dX4_mark_32 (n := 35) rfl f_X4_33 h0.1 ⟨rfl, rfl⟩ (fun M27 (e28 : M27 = zup M19 a 6 x23) => ?_)
        have hI29 : zI G M27 := hI21.put e28 h0.2.2.2.2.2.2.2.2.2.2.2.2.2 rfl (by omega)
        have hK30 := hK25.put e28 (by omega)
        exact q_vret C dX4_mark_35 ⟨rfl, rfl⟩ (by rw [hPo]; exact ⟨M27, J20, rfl, rfl, hI29, hK30, (by have hz : M27 a 3 = M a 3 := ((zup_n e28 (by omega)).trans ((h17).trans (h8))); omega), (fun i => ((zup_p e28 (by omega) _).trans ((h18 i).trans (h9 i)))), (by have hz31 : M27 a 5 = M19 a 5 := (zup_n e28 (by omega)); have hz32 : M27 a 6 = x23 := (zup_s e28); omega)⟩)
      · refine q_aload_n C dX4_mark_10 (n := 11) rfl rfl ?_
        refine q_getR C dX4_mark_11 (n := 14) rfl f_X4_19 h0.1 (hF _ _ _ h0.2.2.2.2.2.2.2.1) ?_
        refine q_iload_n C dX4_mark_14 (n := 15) rfl rfl ?_
        refine q_aload_n C dX4_mark_15 (n := 16) rfl rfl ?_
        refine q_iload_n C dX4_mark_16 (n := 17) rfl rfl ?_
        refine q_callVp C dX4_mark_17 (n := 20) rfl m_X4_59 v_yX4_wordOf h0.1 ⟨by decide, rfl⟩ (c_X4_wordOf (w := w) (J := J3) hI4 hF h0 u1 (by omega)) (Nat.le_of_ble_eq_true rfl) rfl rfl (Nat.le_of_ble_eq_true rfl) ⟨Nat.le_refl _, Nat.le_refl _⟩ (fun x34 h35 => ?_)
        refine q_iast C dX4_mark_20 (n := 21) rfl h0.2.2.2.2.2.2.2.2.1 (by omega)  (fun M36 e37 => ?_)
        have hI38 : zI G M36 := hI4.put e37 (h0.2.2.2.2.2.2.2.2.2.1 u1) rfl (by omega)
        have hK39 := hK5.put e37 (by omega)
        refine q_iinc C [.ref (w.2.1 + a), zi (u1 + 1)] dX4_mark_21 (n := 24) rfl rfl rfl rfl ?_
        refine q_goto C 2 dX4_mark_24 rfl ?_
        exact zK.weak (ih12 (u1 + 1) M36 J3 hI38 hK39 (by omega) (by omega) (by have hz40 : M36 a 3 = M a 3 := ((zup_p e37 (by omega) _).trans (h8)); omega) (fun i => ((zup_p e37 (by omega) _).trans (h9 i))) (by omega)) (zwk_c (zwk_c zwk_e))
  exact zK.weak (L_10 _ 0 M J hI hK0 (by omega) (by omega) (by omega) (fun i => rfl) (Int.self_le_toNat _)) (zwk_c (zwk_c zwk_e))
