theorem c_X7_hasFile {w : zWp} {T : zTl} {M : zMm} {J : zJm} {R : zRm'} {G : zGt} {F : zRm'} {a : Nat} (hI : zI G M) (hF : zF F R) (h0 : zSource T F G a) (v1 : Int) (p1 : -2147483648 ≤ v1 ∧ v1 ≤ 2147483647) : zCt w 1 0 0 yX7_hasFile cX7_hasFile 2 (some .boolean) [.ref (w.2.1 + a), zi v1] (T, M, J, R) (zPp T M J R (fun x => (x = 0 ∨ x = 1) ∧ (x = 0 ∨ 0 ≤ v1 ∧ v1 ≤ 3))) := by
  refine zCt.of rfl (Nat.le_of_ble_eq_true rfl) ?_
  intro p e s m args below meth c C
  obtain ⟨Po, hPo⟩ : ∃ Po, Po = zPp T M J R (fun x => (x = 0 ∨ x = 1) ∧ (x = 0 ∨ 0 ≤ v1 ∧ v1 ≤ 3)) := ⟨_, rfl⟩
  rw [← hPo]
  show zK w p e 1 0 0 s m args below meth c 2 T Po 0 [.ref (w.2.1 + a), zi v1] [] (T, M, J, R)
  refine q_iload_n C dX7_hasFile_0 (n := 1) rfl rfl ?_
  have J_5 : ∀ (u1 : Int), (-2147483648 ≤ u1 ∧ u1 ≤ 2147483647) → (u1 = 0 ∨ u1 = 1) → (u1 = 0 ∨ 0 ≤ v1 ∧ v1 ≤ 3) → zK w p e 1 0 0 s m args below meth c 2 T Po 26 [.null, .null] [zi u1] (T, M, J, R) := by
    intro u1 h2 h3 h4
    exact q_zret C dX7_hasFile_26 ⟨rfl, rfl⟩ (by omega) (by rw [hPo]; exact ⟨u1, rfl, rfl, by omega, by omega⟩)
  refine q_if_lt C 25 dX7_hasFile_1 (n := 4) rfl rfl (by omega) (fun h6 => ?_) (fun h6 => ?_)
  · refine q_iconst C dX7_hasFile_25 (n := 26) rfl ?_
    exact zK.weak (J_5 0 (by omega) (by omega) (by omega)) (zwk_n (zwk_n zwk_e))
  · refine q_iload_n C dX7_hasFile_4 (n := 5) rfl rfl ?_
    refine q_iconst C dX7_hasFile_5 (n := 6) rfl ?_
    refine q_icmp_ge C 25 dX7_hasFile_6 (n := 9) rfl rfl (by omega) (fun h7 => ?_) (fun h7 => ?_)
    · refine q_iconst C dX7_hasFile_25 (n := 26) rfl ?_
      exact zK.weak (J_5 0 (by omega) (by omega) (by omega)) (zwk_n (zwk_n zwk_e))
    · refine q_aload_n C dX7_hasFile_9 (n := 10) rfl rfl ?_
      refine q_getR C dX7_hasFile_10 (n := 13) rfl f_X7_11 h0.1 (hF _ _ _ h0.2.1) ?_
      refine q_iload_n C dX7_hasFile_13 (n := 14) rfl rfl ?_
      refine q_aald C dX7_hasFile_14 (n := 15) rfl ⟨by decide, by decide⟩ h0.2.2.1 (by omega) (hF _ _ _ (h0.2.2.2.1 v1 (by omega) (by omega)).1) ?_
      have g8 := zI.at hI (h0.2.2.2.1 v1 (by omega) (by omega)).2.2.2.2.2.2.2.2.2.2.2.2.1
      refine q_getI C dX7_hasFile_15 (n := 18) rfl f_X7_40 (h0.2.2.2.1 v1 (by omega) (by omega)).2.1 (v := M (a + 9 + 4 * (v1 : Int).toNat) 4) rfl ?_
      refine q_if_eq C 25 dX7_hasFile_18 (n := 21) rfl rfl (by omega) (fun h9 => ?_) (fun h9 => ?_)
      · refine q_iconst C dX7_hasFile_25 (n := 26) rfl ?_
        exact zK.weak (J_5 0 (by omega) (by omega) (by omega)) (zwk_n (zwk_n zwk_e))
      · refine q_iconst C dX7_hasFile_21 (n := 22) rfl ?_
        refine q_goto C 26 dX7_hasFile_22 rfl ?_
        exact zK.weak (J_5 1 (by omega) (by omega) (by omega)) (zwk_n (zwk_n zwk_e))
theorem c_X7_hasLine {w : zWp} {T : zTl} {M : zMm} {J : zJm} {R : zRm'} {G : zGt} {F : zRm'} {a : Nat} (hI : zI G M) (hF : zF F R) (h0 : zSource T F G a) (v1 : Int) (v2 : Int) (p1 : -2147483648 ≤ v1 ∧ v1 ≤ 2147483647) (p2 : -2147483648 ≤ v2 ∧ v2 ≤ 2147483647) : zCt w 2 0 0 yX7_hasLine cX7_hasLine 3 (some .boolean) [.ref (w.2.1 + a), zi v1, zi v2] (T, M, J, R) (zPp T M J R (fun x => (x = 0 ∨ x = 1) ∧ (x = 0 ∨ 0 ≤ v1 ∧ v1 ≤ 3 ∧ 0 ≤ v2 ∧ v2 ≤ 39 ∧ v2 < M (a + 9 + 4 * v1.toNat) 3))) := by
  refine zCt.of rfl (Nat.le_of_ble_eq_true rfl) ?_
  intro p e s m args below meth c C
  obtain ⟨Po, hPo⟩ : ∃ Po, Po = zPp T M J R (fun x => (x = 0 ∨ x = 1) ∧ (x = 0 ∨ 0 ≤ v1 ∧ v1 ≤ 3 ∧ 0 ≤ v2 ∧ v2 ≤ 39 ∧ v2 < M (a + 9 + 4 * v1.toNat) 3)) := ⟨_, rfl⟩
  rw [← hPo]
  show zK w p e 2 0 0 s m args below meth c 3 T Po 0 [.ref (w.2.1 + a), zi v1, zi v2] [] (T, M, J, R)
  refine q_aload_n C dX7_hasLine_0 (n := 1) rfl rfl ?_
  refine q_iload_n C dX7_hasLine_1 (n := 2) rfl rfl ?_
  refine q_callVp C dX7_hasLine_2 (n := 5) rfl m_X7_44 v_yX7_hasFile h0.1 ⟨by decide, rfl⟩ (c_X7_hasFile (w := w) (J := J) hI hF h0 v1 (by omega)) (Nat.le_of_ble_eq_true rfl) rfl rfl (Nat.le_of_ble_eq_true rfl) ⟨Nat.le_refl _, Nat.le_refl _⟩ (fun x3 h4 => ?_)
  obtain ⟨h1, h2⟩ := h4
  have J_9 : ∀ (u5 : Int), (-2147483648 ≤ u5 ∧ u5 ≤ 2147483647) → (u5 = 0 ∨ u5 = 1) → (u5 = 0 ∨ 0 ≤ v1 ∧ v1 ≤ 3 ∧ 0 ≤ v2 ∧ v2 ≤ 39 ∧ v2 < M (a + 9 + 4 * v1.toNat) 3) → zK w p e 2 0 0 s m args below meth c 3 T Po 30 [.null, .null, .null] [zi u5] (T, M, J, R) := by
    intro u5 h6 h7 h8
    exact q_zret C dX7_hasLine_30 ⟨rfl, rfl⟩ (by omega) (by rw [hPo]; exact ⟨u5, rfl, rfl, by omega, by omega⟩)
  refine q_if_eq C 29 dX7_hasLine_5 (n := 8) rfl rfl (by omega) (fun h10 => ?_) (fun h10 => ?_)
  · refine q_iconst C dX7_hasLine_29 (n := 30) rfl ?_
    exact zK.weak (J_9 0 (by omega) (by omega) (by omega)) (zwk_n (zwk_n (zwk_n zwk_e)))
  · refine q_iload_n C dX7_hasLine_8 (n := 9) rfl rfl ?_
    refine q_if_lt C 29 dX7_hasLine_9 (n := 12) rfl rfl (by omega) (fun h11 => ?_) (fun h11 => ?_)
    · refine q_iconst C dX7_hasLine_29 (n := 30) rfl ?_
      exact zK.weak (J_9 0 (by omega) (by omega) (by omega)) (zwk_n (zwk_n (zwk_n zwk_e)))
    · refine q_iload_n C dX7_hasLine_12 (n := 13) rfl rfl ?_
      refine q_aload_n C dX7_hasLine_13 (n := 14) rfl rfl ?_
      refine q_getR C dX7_hasLine_14 (n := 17) rfl f_X7_11 h0.1 (hF _ _ _ h0.2.1) ?_
      refine q_iload_n C dX7_hasLine_17 (n := 18) rfl rfl ?_
      refine q_aald C dX7_hasLine_18 (n := 19) rfl ⟨by decide, by decide⟩ h0.2.2.1 (by omega) (hF _ _ _ (h0.2.2.2.1 v1 (by omega) (by omega)).1) ?_
      have g12 := zI.at hI (h0.2.2.2.1 v1 (by omega) (by omega)).2.2.2.2.2.2.2.2.2.2.2.1
      refine q_getI C dX7_hasLine_19 (n := 22) rfl f_X7_48 (h0.2.2.2.1 v1 (by omega) (by omega)).2.1 (v := M (a + 9 + 4 * (v1 : Int).toNat) 3) rfl ?_
      refine q_icmp_ge C 29 dX7_hasLine_22 (n := 25) rfl rfl (by omega) (fun h13 => ?_) (fun h13 => ?_)
      · refine q_iconst C dX7_hasLine_29 (n := 30) rfl ?_
        exact zK.weak (J_9 0 (by omega) (by omega) (by omega)) (zwk_n (zwk_n (zwk_n zwk_e)))
      · refine q_iconst C dX7_hasLine_25 (n := 26) rfl ?_
        refine q_goto C 30 dX7_hasLine_26 rfl ?_
        exact zK.weak (J_9 1 (by omega) (by omega) (by omega)) (zwk_n (zwk_n (zwk_n zwk_e)))
theorem c_X7_hasSetting {w : zWp} {T : zTl} {M : zMm} {J : zJm} {R : zRm'} {G : zGt} {F : zRm'} {a : Nat} (hI : zI G M) (hF : zF F R) (h0 : zSource T F G a) (v1 : Int) (p1 : -2147483648 ≤ v1 ∧ v1 ≤ 2147483647) : zCt w 1 0 0 yX7_hasSetting cX7_hasSetting 2 (some .boolean) [.ref (w.2.1 + a), zi v1] (T, M, J, R) (zPp T M J R (fun x => (x = 0 ∨ x = 1) ∧ (x = 0 ∨ 0 ≤ v1 ∧ v1 ≤ 7))) := by
  refine zCt.of rfl (Nat.le_of_ble_eq_true rfl) ?_
  intro p e s m args below meth c C
  obtain ⟨Po, hPo⟩ : ∃ Po, Po = zPp T M J R (fun x => (x = 0 ∨ x = 1) ∧ (x = 0 ∨ 0 ≤ v1 ∧ v1 ≤ 7)) := ⟨_, rfl⟩
  rw [← hPo]
  show zK w p e 1 0 0 s m args below meth c 2 T Po 0 [.ref (w.2.1 + a), zi v1] [] (T, M, J, R)
  refine q_iload_n C dX7_hasSetting_0 (n := 1) rfl rfl ?_
  have J_5 : ∀ (u1 : Int), (-2147483648 ≤ u1 ∧ u1 ≤ 2147483647) → (u1 = 0 ∨ u1 = 1) → (u1 = 0 ∨ 0 ≤ v1 ∧ v1 ≤ 7) → zK w p e 1 0 0 s m args below meth c 2 T Po 19 [.null, .null] [zi u1] (T, M, J, R) := by
    intro u1 h2 h3 h4
    exact q_zret C dX7_hasSetting_19 ⟨rfl, rfl⟩ (by omega) (by rw [hPo]; exact ⟨u1, rfl, rfl, by omega, by omega⟩)
  refine q_if_lt C 18 dX7_hasSetting_1 (n := 4) rfl rfl (by omega) (fun h6 => ?_) (fun h6 => ?_)
  · refine q_iconst C dX7_hasSetting_18 (n := 19) rfl ?_
    exact zK.weak (J_5 0 (by omega) (by omega) (by omega)) (zwk_n (zwk_n zwk_e))
  · refine q_iload_n C dX7_hasSetting_4 (n := 5) rfl rfl ?_
    refine q_iconst C dX7_hasSetting_5 (n := 6) rfl ?_
    refine q_aload_n C dX7_hasSetting_6 (n := 7) rfl rfl ?_
    have g7 := zI.at hI h0.2.2.2.2.2.2.2.2.2.2.1
    refine q_getI C dX7_hasSetting_7 (n := 10) rfl f_X7_26 h0.1 (v := M a 3) rfl ?_
    refine q_ishl C dX7_hasSetting_10 (n := 11) rfl (v := zshl 1 (M a 3)) rfl ?_
    have g8 := zr_shl 1 (M a 3)
    have g9 : 0 ≤ M a 3 ∧ M a 3 ≤ 3 → 1 ≤ zshl 1 (M a 3) ∧ zshl 1 (M a 3) ≤ 8 := fun h => zshl1 h
    refine q_icmp_ge C 18 dX7_hasSetting_11 (n := 14) rfl rfl (by omega) (fun h10 => ?_) (fun h10 => ?_)
    · refine q_iconst C dX7_hasSetting_18 (n := 19) rfl ?_
      exact zK.weak (J_5 0 (by omega) (by omega) (by omega)) (zwk_n (zwk_n zwk_e))
    · refine q_iconst C dX7_hasSetting_14 (n := 15) rfl ?_
      refine q_goto C 19 dX7_hasSetting_15 rfl ?_
      exact zK.weak (J_5 1 (by omega) (by omega) (by omega)) (zwk_n (zwk_n zwk_e))
theorem c_X7_filesTold {w : zWp} {T : zTl} {M : zMm} {J : zJm} {R : zRm'} {G : zGt} {F : zRm'} {a : Nat} (hI : zI G M) (hF : zF F R) (h0 : zSource T F G a) : zCt w 1 0 0 yX7_filesTold cX7_filesTold 3 (some .int) [.ref (w.2.1 + a)] (T, M, J, R) (zPp T M J R (fun x => (0 ≤ x ∧ x ≤ 4))) := by
  refine zCt.of rfl (Nat.le_of_ble_eq_true rfl) ?_
  intro p e s m args below meth c C
  obtain ⟨Po, hPo⟩ : ∃ Po, Po = zPp T M J R (fun x => (0 ≤ x ∧ x ≤ 4)) := ⟨_, rfl⟩
  rw [← hPo]
  show zK w p e 1 0 0 s m args below meth c 3 T Po 0 [.ref (w.2.1 + a), .null, .null] [] (T, M, J, R)
  refine q_iconst C dX7_filesTold_0 (n := 1) rfl ?_
  refine q_istore_n C [.ref (w.2.1 + a), zi 0, .null] dX7_filesTold_1 (n := 2) rfl rfl rfl ?_
  refine q_iconst C dX7_filesTold_2 (n := 3) rfl ?_
  refine q_istore_n C [.ref (w.2.1 + a), zi 0, zi 0] dX7_filesTold_3 (n := 4) rfl rfl rfl ?_
  have L_7 : ∀ n8 : Nat, ∀ (u1 : Int) (u2 : Int), (-2147483648 ≤ u1 ∧ u1 ≤ 2147483647) → (-2147483648 ≤ u2 ∧ u2 ≤ 2147483647) → (0 ≤ u2 ∧ u2 ≤ 4) → (0 ≤ u1 ∧ u1 ≤ u2) → (4 - u2 + 1 ≤ (n8 : Int)) → zK w p e 1 0 0 s m args below meth c 3 T Po 4 [.ref (w.2.1 + a), zi u1, zi u2] [] (T, M, J, R) := by
    intro n8
    induction n8 with
    | zero =>
      intro u1 u2 h3 h4 h5 h6 hm10
      exfalso
      omega
    | succ n8 ih9 =>
      intro u1 u2 h3 h4 h5 h6 hm10
      refine q_iload_n C dX7_filesTold_4 (n := 5) rfl rfl ?_
      refine q_iconst C dX7_filesTold_5 (n := 6) rfl ?_
      refine q_icmp_ge C 35 dX7_filesTold_6 (n := 9) rfl rfl (by omega) (fun h11 => ?_) (fun h11 => ?_)
      · refine q_iload_n C dX7_filesTold_35 (n := 36) rfl rfl ?_
        exact q_iret C dX7_filesTold_36 ⟨rfl, rfl⟩ (by rw [hPo]; exact ⟨u1, rfl, rfl, by omega⟩)
      · refine q_iload_n C dX7_filesTold_9 (n := 10) rfl rfl ?_
        refine q_aload_n C dX7_filesTold_10 (n := 11) rfl rfl ?_
        refine q_getR C dX7_filesTold_11 (n := 14) rfl f_X7_11 h0.1 (hF _ _ _ h0.2.1) ?_
        refine q_iload_n C dX7_filesTold_14 (n := 15) rfl rfl ?_
        refine q_aald C dX7_filesTold_15 (n := 16) rfl ⟨by decide, by decide⟩ h0.2.2.1 (by omega) (hF _ _ _ (h0.2.2.2.1 u2 (by omega) (by omega)).1) ?_
        have g12 := zI.at hI (h0.2.2.2.1 u2 (by omega) (by omega)).2.2.2.2.2.2.2.2.2.2.2.2.1
        refine q_getI C dX7_filesTold_16 (n := 19) rfl f_X7_40 (h0.2.2.2.1 u2 (by omega) (by omega)).2.1 (v := M (a + 9 + 4 * (u2 : Int).toNat) 4) rfl ?_
        have J_17 : ∀ (u13 : Int), (-2147483648 ≤ u13 ∧ u13 ≤ 2147483647) → (u13 = 0 ∨ u13 = 1) → (0 ≤ u13 ∧ u13 ≤ 1) → zK w p e 1 0 0 s m args below meth c 3 T Po 27 [.ref (w.2.1 + a), .null, zi u2] [zi u13, zi u1] (T, M, J, R) := by
          intro u13 h14 h15 h16
          refine q_iadd C dX7_filesTold_27 (n := 28) rfl (v := u1 + u13) rfl ?_
          refine q_istore_n C [.ref (w.2.1 + a), zi (u1 + u13), zi u2] dX7_filesTold_28 (n := 29) rfl rfl rfl ?_
          refine q_iinc C [.ref (w.2.1 + a), zi (u1 + u13), zi (u2 + 1)] dX7_filesTold_29 (n := 32) rfl rfl rfl rfl ?_
          refine q_goto C 4 dX7_filesTold_32 rfl ?_
          exact zK.weak (ih9 (u1 + u13) (u2 + 1) (by omega) (by omega) (by omega) (by omega) (by omega)) (zwk_c (zwk_c (zwk_c zwk_e)))
        refine q_if_eq C 26 dX7_filesTold_19 (n := 22) rfl rfl (by omega) (fun h18 => ?_) (fun h18 => ?_)
        · refine q_iconst C dX7_filesTold_26 (n := 27) rfl ?_
          exact zK.weak (J_17 0 (by omega) (by omega) (by omega)) (zwk_c (zwk_n (zwk_c zwk_e)))
        · refine q_iconst C dX7_filesTold_22 (n := 23) rfl ?_
          refine q_goto C 27 dX7_filesTold_23 rfl ?_
          exact zK.weak (J_17 1 (by omega) (by omega) (by omega)) (zwk_c (zwk_n (zwk_c zwk_e)))
  exact zK.weak (L_7 _ 0 0 (by omega) (by omega) (by omega) (by omega) (Int.self_le_toNat _)) (zwk_c (zwk_c (zwk_c zwk_e)))
theorem c_X7_isNewName {w : zWp} {T : zTl} {M : zMm} {J : zJm} {R : zRm'} {G : zGt} {F : zRm'} {a b tb : Nat} (hI : zI G M) (hF : zF F R) (h0 : zSource T F G a) (t_b0 : T[b]? = some (51, 440)) (g_b0 : ∀ k, G b k = (tb, (-128), 127)) (v1 : Int) (v2 : Int) (v3 : Int) (p1 : 0 ≤ v1 ∧ v1 < v2 ∧ v2 ≤ 440) (p2 : 0 ≤ v3 ∧ v3 ≤ 3) : zCt w 10 0 0 yX7_isNewName cX7_isNewName 7 (some .boolean) [.ref (w.2.1 + a), .ref (w.2.1 + b), zi v1, zi v2, zi v3] (T, M, J, R) (zPp T M J R (fun x => (x = 0 ∨ x = 1) ∧ (x = 0 ∨ v2 - v1 ≤ 30))) := by
  refine zCt.of rfl (Nat.le_of_ble_eq_true rfl) ?_
  intro p e s m args below meth c C
  obtain ⟨Po, hPo⟩ : ∃ Po, Po = zPp T M J R (fun x => (x = 0 ∨ x = 1) ∧ (x = 0 ∨ v2 - v1 ≤ 30)) := ⟨_, rfl⟩
  rw [← hPo]
  show zK w p e 10 0 0 s m args below meth c 7 T Po 0 [.ref (w.2.1 + a), .ref (w.2.1 + b), zi v1, zi v2, zi v3, .null, .null] [] (T, M, J, R)
  refine q_iload_n C dX7_isNewName_0 (n := 1) rfl rfl ?_
  refine q_iload_n C dX7_isNewName_1 (n := 2) rfl rfl ?_
  refine q_isub C dX7_isNewName_2 (n := 3) rfl (v := v2 - v1) rfl ?_
  refine q_bipush C dX7_isNewName_3 (n := 5) rfl (x := 30) (by decide) ?_
  refine q_icmp_gt C 28 dX7_isNewName_5 (n := 8) rfl rfl (by omega) (fun h1 => ?_) (fun h1 => ?_)
  · refine q_iconst C dX7_isNewName_28 (n := 29) rfl ?_
    exact q_zret C dX7_isNewName_29 ⟨rfl, rfl⟩ (by omega) (by rw [hPo]; exact ⟨0, rfl, rfl, by omega, by omega⟩)
  · refine q_aload_n C dX7_isNewName_8 (n := 9) rfl rfl ?_
    refine q_iload_n C dX7_isNewName_9 (n := 10) rfl rfl ?_
    have g2 := zI.at hI (g_b0 v1)
    refine q_bald C dX7_isNewName_10 (n := 11) rfl t_b0 (by omega) (v := M b v1) rfl ?_
    refine q_callSp C dX7_isNewName_11 (n := 14) rfl m_X7_70 s_yX10_isDigit (c_X10_isDigit (w := w) (J := J) hI hF (M b v1) (by omega)) (Nat.le_of_ble_eq_true rfl) rfl rfl (Nat.le_of_ble_eq_true rfl) ⟨Nat.le_refl _, Nat.le_refl _⟩ (fun x4 h5 => ?_)
    refine q_if_ne C 28 dX7_isNewName_14 (n := 17) rfl rfl (by omega) (fun h6 => ?_) (fun h6 => ?_)
    · refine q_iconst C dX7_isNewName_28 (n := 29) rfl ?_
      exact q_zret C dX7_isNewName_29 ⟨rfl, rfl⟩ (by omega) (by rw [hPo]; exact ⟨0, rfl, rfl, by omega, by omega⟩)
    · refine q_aload_n C dX7_isNewName_17 (n := 18) rfl rfl ?_
      refine q_iload_n C dX7_isNewName_18 (n := 19) rfl rfl ?_
      refine q_iload_n C dX7_isNewName_19 (n := 20) rfl rfl ?_
      refine q_ldcS C dX7_isNewName_20 (n := 22) rfl (k := 0) (by decide) ?_
      refine q_callSp C dX7_isNewName_22 (n := 25) rfl m_X7_75 s_yX10_says (c_X10_says (w := w) (J := J) hI hF t_b0 g_b0 v1 v2 0 (by decide) (by omega) (by omega) (by omega)) (Nat.le_of_ble_eq_true rfl) rfl rfl (Nat.le_of_ble_eq_true rfl) ⟨Nat.le_refl _, Nat.le_refl _⟩ (fun x8 h9 => ?_)
      refine q_if_eq C 30 dX7_isNewName_25 (n := 28) rfl rfl (by omega) (fun h10 => ?_) (fun h10 => ?_)
      · refine q_iconst C dX7_isNewName_30 (n := 31) rfl ?_
        refine q_istore C [.ref (w.2.1 + a), .ref (w.2.1 + b), zi v1, zi v2, zi v3, zi 0, .null] dX7_isNewName_31 (n := 33) rfl rfl rfl ?_
        have L_14 : ∀ n15 : Nat, ∀ (u11 : Int), (-2147483648 ≤ u11 ∧ u11 ≤ 2147483647) → (0 ≤ u11 ∧ u11 ≤ v3) → (v3 - u11 + 1 ≤ (n15 : Int)) → zK w p e 10 0 0 s m args below meth c 7 T Po 33 [.ref (w.2.1 + a), .ref (w.2.1 + b), zi v1, zi v2, zi v3, zi u11, .null] [] (T, M, J, R) := by
          intro n15
          induction n15 with
          | zero =>
            intro u11 h12 h13 hm17
            exfalso
            omega
          | succ n15 ih16 =>
            intro u11 h12 h13 hm17
            refine q_iload C dX7_isNewName_33 (n := 35) rfl rfl ?_
            refine q_iload C dX7_isNewName_35 (n := 37) rfl rfl ?_
            refine q_icmp_ge C 90 dX7_isNewName_37 (n := 40) rfl rfl (by omega) (fun h18 => ?_) (fun h18 => ?_)
            · refine q_iconst C dX7_isNewName_90 (n := 91) rfl ?_
              exact q_zret C dX7_isNewName_91 ⟨rfl, rfl⟩ (by omega) (by rw [hPo]; exact ⟨1, rfl, rfl, by omega, by omega⟩)
            · refine q_aload_n C dX7_isNewName_40 (n := 41) rfl rfl ?_
              refine q_getR C dX7_isNewName_41 (n := 44) rfl f_X7_36 h0.1 (hF _ _ _ h0.2.2.2.2.2.2.2.2.2.2.2.2.2.2.2.1) ?_
              refine q_iload C dX7_isNewName_44 (n := 46) rfl rfl ?_
              have g19 := zI.at hI (h0.2.2.2.2.2.2.2.2.2.2.2.2.2.2.2.2.2 u11)
              refine q_iald C dX7_isNewName_46 (n := 47) rfl h0.2.2.2.2.2.2.2.2.2.2.2.2.2.2.2.2.1 (by omega) (v := M (a + 8) u11) rfl ?_
              refine q_aload_n C dX7_isNewName_47 (n := 48) rfl rfl ?_
              refine q_getR C dX7_isNewName_48 (n := 51) rfl f_X7_33 h0.1 (hF _ _ _ h0.2.2.2.2.2.2.2.2.2.2.2.2.1) ?_
              refine q_iload C dX7_isNewName_51 (n := 53) rfl rfl ?_
              have g20 := zI.at hI (h0.2.2.2.2.2.2.2.2.2.2.2.2.2.2.1 u11)
              refine q_iald C dX7_isNewName_53 (n := 54) rfl h0.2.2.2.2.2.2.2.2.2.2.2.2.2.1 (by omega) (v := M (a + 7) u11) rfl ?_
              refine q_isub C dX7_isNewName_54 (n := 55) rfl (v := (M (a + 8) u11) - (M (a + 7) u11)) rfl ?_
              refine q_istore C [.ref (w.2.1 + a), .ref (w.2.1 + b), zi v1, zi v2, zi v3, zi u11, zi ((M (a + 8) u11) - (M (a + 7) u11))] dX7_isNewName_55 (n := 57) rfl rfl rfl ?_
              refine q_iload C dX7_isNewName_57 (n := 59) rfl rfl ?_
              refine q_iload_n C dX7_isNewName_59 (n := 60) rfl rfl ?_
              refine q_iload_n C dX7_isNewName_60 (n := 61) rfl rfl ?_
              refine q_isub C dX7_isNewName_61 (n := 62) rfl (v := v2 - v1) rfl ?_
              have J_21 : zK w p e 10 0 0 s m args below meth c 7 T Po 84 [.ref (w.2.1 + a), .ref (w.2.1 + b), zi v1, zi v2, zi v3, zi u11, .null] [] (T, M, J, R) := by
                refine q_iinc C [.ref (w.2.1 + a), .ref (w.2.1 + b), zi v1, zi v2, zi v3, zi (u11 + 1), .null] dX7_isNewName_84 (n := 87) rfl rfl rfl rfl ?_
                refine q_goto C 33 dX7_isNewName_87 rfl ?_
                exact zK.weak (ih16 (u11 + 1) (by omega) (by omega) (by omega)) (zwk_c (zwk_c (zwk_c (zwk_c (zwk_c (zwk_c (zwk_n zwk_e)))))))
              refine q_icmp_ne C 84 dX7_isNewName_62 (n := 65) rfl rfl (by omega) (fun h22 => ?_) (fun h22 => ?_)
              · exact zK.weak (J_21) (zwk_c (zwk_c (zwk_c (zwk_c (zwk_c (zwk_c (zwk_n zwk_e)))))))
              · refine q_aload_n C dX7_isNewName_65 (n := 66) rfl rfl ?_
                refine q_iload_n C dX7_isNewName_66 (n := 67) rfl rfl ?_
                refine q_aload_n C dX7_isNewName_67 (n := 68) rfl rfl ?_
                refine q_getR C dX7_isNewName_68 (n := 71) rfl f_X7_33 h0.1 (hF _ _ _ h0.2.2.2.2.2.2.2.2.2.2.2.2.1) ?_
                refine q_iload C dX7_isNewName_71 (n := 73) rfl rfl ?_
                refine q_iald C dX7_isNewName_73 (n := 74) rfl h0.2.2.2.2.2.2.2.2.2.2.2.2.2.1 (by omega) (v := M (a + 7) u11) rfl ?_
                refine q_iload C dX7_isNewName_74 (n := 76) rfl rfl ?_
                refine q_callSp C dX7_isNewName_76 (n := 79) rfl m_X7_79 s_yX10_isAlike (c_X10_isAlike (w := w) (J := J) hI hF t_b0 g_b0 v1 (M (a + 7) u11) ((M (a + 8) u11) - (M (a + 7) u11)) (by omega) (by omega) (by omega) (by omega)) (Nat.le_of_ble_eq_true rfl) rfl rfl (Nat.le_of_ble_eq_true rfl) ⟨Nat.le_refl _, Nat.le_refl _⟩ (fun x24 h25 => ?_)
                refine q_if_eq C 84 dX7_isNewName_79 (n := 82) rfl rfl (by omega) (fun h26 => ?_) (fun h26 => ?_)
                · exact zK.weak (J_21) (zwk_c (zwk_c (zwk_c (zwk_c (zwk_c (zwk_c (zwk_n zwk_e)))))))
                · refine q_iconst C dX7_isNewName_82 (n := 83) rfl ?_
                  exact q_zret C dX7_isNewName_83 ⟨rfl, rfl⟩ (by omega) (by rw [hPo]; exact ⟨0, rfl, rfl, by omega, by omega⟩)
        exact zK.weak (L_14 _ 0 (by omega) (by omega) (Int.self_le_toNat _)) (zwk_c (zwk_c (zwk_c (zwk_c (zwk_c (zwk_c (zwk_n zwk_e)))))))
      · refine q_iconst C dX7_isNewName_28 (n := 29) rfl ?_
        exact q_zret C dX7_isNewName_29 ⟨rfl, rfl⟩ (by omega) (by rw [hPo]; exact ⟨0, rfl, rfl, by omega, by omega⟩)
