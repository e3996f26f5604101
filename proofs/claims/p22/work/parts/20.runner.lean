theorem c_X6_hashLook {w : zWp} {T : zTl} {M : zMm} {J : zJm} {R : zRm'} {G : zGt} {F : zRm'} {a L pg pf : Nat} (hI : zI G M) (hF : zF F R) (h0 : zRunner T F G a L) (v1 : Int) (v2 : Int) (hpg : R a 11 = some pg) (t_pg : T[pg]? = some (54, 4)) (e_pg : ∀ j : Int, 0 ≤ j → j < 4 → F pg j = some (pf + 4 * j.toNat) ∧ zPage T F G (pf + 4 * j.toNat)) (p1 : 0 ≤ v1 ∧ v1 ≤ 3) (p2 : 0 ≤ v2 ∧ v2 ≤ 39) : zCt w 3 0 0 yX6_hashLook cX6_hashLook 3 (some .int) [.ref (w.2.1 + a), zi v1, zi v2] (T, M, J, R) (zPp T M J R (fun x => (-2147483648 ≤ x ∧ x ≤ 2147483647))) := by
  refine zCt.of rfl (Nat.le_of_ble_eq_true rfl) ?_
  intro p e s m args below meth c C
  obtain ⟨Po, hPo⟩ : ∃ Po, Po = zPp T M J R (fun x => (-2147483648 ≤ x ∧ x ≤ 2147483647)) := ⟨_, rfl⟩
  rw [← hPo]
  show zK w p e 3 0 0 s m args below meth c 3 T Po 0 [.ref (w.2.1 + a), zi v1, zi v2] [] (T, M, J, R)
  refine q_iload_n C dX6_hashLook_0 (n := 1) rfl rfl ?_
  refine q_iload_n C dX6_hashLook_1 (n := 2) rfl rfl ?_
  refine q_aload_n C dX6_hashLook_2 (n := 3) rfl rfl ?_
  refine q_getR C dX6_hashLook_3 (n := 6) rfl f_X6_121 h0.1 hpg ?_
  refine q_iload_n C dX6_hashLook_6 (n := 7) rfl rfl ?_
  refine q_aald C dX6_hashLook_7 (n := 8) rfl ⟨by decide, by decide⟩ t_pg (by omega) (hF _ _ _ (e_pg v1 (by omega) (by omega)).1) ?_
  refine q_iload_n C dX6_hashLook_8 (n := 9) rfl rfl ?_
  refine q_callVp C dX6_hashLook_9 (n := 12) rfl m_X6_219 v_yX4_firstOf (e_pg v1 (by omega) (by omega)).2.1 ⟨by decide, rfl⟩ (c_X4_firstOf (w := w) (J := J) hI hF (e_pg v1 (by omega) (by omega)).2 v2 (by omega)) (Nat.le_of_ble_eq_true rfl) rfl rfl (Nat.le_of_ble_eq_true rfl) ⟨Nat.le_refl _, Nat.le_refl _⟩ (fun x2 h3 => ?_)
  refine q_aload_n C dX6_hashLook_12 (n := 13) rfl rfl ?_
  refine q_getR C dX6_hashLook_13 (n := 16) rfl f_X6_121 h0.1 hpg ?_
  refine q_iload_n C dX6_hashLook_16 (n := 17) rfl rfl ?_
  refine q_aald C dX6_hashLook_17 (n := 18) rfl ⟨by decide, by decide⟩ t_pg (by omega) (hF _ _ _ (e_pg v1 (by omega) (by omega)).1) ?_
  refine q_getR C dX6_hashLook_18 (n := 21) rfl f_X6_162 (e_pg v1 (by omega) (by omega)).2.1 (hF _ _ _ (e_pg v1 (by omega) (by omega)).2.2.2.2.2.1) ?_
  refine q_iload_n C dX6_hashLook_21 (n := 22) rfl rfl ?_
  have g4 := zI.at hI ((e_pg v1 (by omega) (by omega)).2.2.2.2.2.2.2.1 v2)
  refine q_iald C dX6_hashLook_22 (n := 23) rfl (e_pg v1 (by omega) (by omega)).2.2.2.2.2.2.1 (by omega) (v := M (pf + 4 * (v1 : Int).toNat + 2) v2) rfl ?_
  refine q_isub C dX6_hashLook_23 (n := 24) rfl (v := x2 - (M (pf + 4 * (v1 : Int).toNat + 2) v2)) rfl ?_
  refine q_callSp C dX6_hashLook_24 (n := 27) rfl m_X6_165 s_yX5_origin (c_X5_origin (w := w) (J := J) hI hF v1 v2 (x2 - (M (pf + 4 * (v1 : Int).toNat + 2) v2))) (Nat.le_of_ble_eq_true rfl) rfl rfl (Nat.le_of_ble_eq_true rfl) ⟨Nat.le_refl _, Nat.le_refl _⟩ (fun x7 h8 => ?_)
  obtain ⟨h5, h6⟩ := h8
  exact q_iret C dX6_hashLook_27 ⟨rfl, rfl⟩ (by rw [hPo]; exact ⟨x7, rfl, rfl, by omega⟩)
theorem c_X6_topHas {w : zWp} {T : zTl} {M : zMm} {J : zJm} {R : zRm'} {G : zGt} {F : zRm'} {a L : Nat} (hI : zI G M) (hF : zF F R) (h0 : zRunner T F G a L) (v1 : Int) (p1 : 0 ≤ M a 15) (p2 : -2147483648 ≤ v1 ∧ v1 ≤ 2147483647) : zCt w 1 0 0 yX6_topHas cX6_topHas 2 (some .boolean) [.ref (w.2.1 + a), zi v1] (T, M, J, R) (zPp T M J R (fun x => (x = 0 ∨ x = 1) ∧ (x = 0 ∨ 0 < M a 18))) := by
  refine zCt.of rfl (Nat.le_of_ble_eq_true rfl) ?_
  intro p e s m args below meth c C
  obtain ⟨Po, hPo⟩ : ∃ Po, Po = zPp T M J R (fun x => (x = 0 ∨ x = 1) ∧ (x = 0 ∨ 0 < M a 18)) := ⟨_, rfl⟩
  rw [← hPo]
  show zK w p e 1 0 0 s m args below meth c 2 T Po 0 [.ref (w.2.1 + a), zi v1] [] (T, M, J, R)
  refine q_aload_n C dX6_topHas_0 (n := 1) rfl rfl ?_
  have g1 := zI.at hI h0.2.2.2.2.2.2.2.2.2.2.2.2.2.2.2.2.2.2.2.2.2.2.2.2.2.2.2.2.2.2.2.2.2.2.2.2.2.2.2.2.2.2.2.1
  refine q_getI C dX6_topHas_1 (n := 4) rfl f_X6_62 h0.1 (v := M a 18) rfl ?_
  refine q_aload_n C dX6_topHas_4 (n := 5) rfl rfl ?_
  refine q_getR C dX6_topHas_5 (n := 8) rfl f_X6_49 h0.1 (hF _ _ _ h0.2.2.2.2.2.2.2.2.2.2.2.2.2.2.2.2.2.2.2.2.2.2.2.2.2.2.2.2.2.2.2.2.2.1) ?_
  refine q_aload_n C dX6_topHas_8 (n := 9) rfl rfl ?_
  have g2 := zI.at hI h0.2.2.2.2.2.2.2.2.2.2.2.2.2.2.2.2.2.2.2.2.2.2.2.2.2.2.2.2.2.2.2.2.2.2.2.2.1
  refine q_getI C dX6_topHas_9 (n := 12) rfl f_X6_52 h0.1 (v := M a 15) rfl ?_
  have g3 := zI.at hI (h0.2.2.2.2.2.2.2.2.2.2.2.2.2.2.2.2.2.2.2.2.2.2.2.2.2.2.2.2.2.2.2.2.2.2.2.1 (M a 15))
  refine q_iald C dX6_topHas_12 (n := 13) rfl h0.2.2.2.2.2.2.2.2.2.2.2.2.2.2.2.2.2.2.2.2.2.2.2.2.2.2.2.2.2.2.2.2.2.2.1 (by omega) (v := M (a + 19) (M a 15)) rfl ?_
  have J_8 : ∀ (u4 : Int), (-2147483648 ≤ u4 ∧ u4 ≤ 2147483647) → (u4 = 0 ∨ u4 = 1) → (u4 = 0 ∨ 0 < M a 18) → zK w p e 1 0 0 s m args below meth c 2 T Po 37 [.null, .null] [zi u4] (T, M, J, R) := by
    intro u4 h5 h6 h7
    exact q_zret C dX6_topHas_37 ⟨rfl, rfl⟩ (by omega) (by rw [hPo]; exact ⟨u4, rfl, rfl, by omega, by omega⟩)
  refine q_icmp_le C 36 dX6_topHas_13 (n := 16) rfl rfl (by omega) (fun h9 => ?_) (fun h9 => ?_)
  · refine q_iconst C dX6_topHas_36 (n := 37) rfl ?_
    exact zK.weak (J_8 0 (by omega) (by omega) (by omega)) (zwk_n (zwk_n zwk_e))
  · refine q_aload_n C dX6_topHas_16 (n := 17) rfl rfl ?_
    refine q_getR C dX6_topHas_17 (n := 20) rfl f_X6_59 h0.1 (hF _ _ _ h0.2.2.2.2.2.2.2.2.2.2.2.2.2.2.2.2.2.2.2.2.2.2.2.2.2.2.2.2.2.2.2.2.2.2.2.2.2.2.2.2.1) ?_
    refine q_aload_n C dX6_topHas_20 (n := 21) rfl rfl ?_
    refine q_getI C dX6_topHas_21 (n := 24) rfl f_X6_62 h0.1 (v := M a 18) rfl ?_
    refine q_iconst C dX6_topHas_24 (n := 25) rfl ?_
    refine q_isub C dX6_topHas_25 (n := 26) rfl (v := (M a 18) - 1) rfl ?_
    have g10 := zI.at hI (h0.2.2.2.2.2.2.2.2.2.2.2.2.2.2.2.2.2.2.2.2.2.2.2.2.2.2.2.2.2.2.2.2.2.2.2.2.2.2.2.2.2.2.1 ((M a 18) - 1))
    refine q_iald C dX6_topHas_26 (n := 27) rfl h0.2.2.2.2.2.2.2.2.2.2.2.2.2.2.2.2.2.2.2.2.2.2.2.2.2.2.2.2.2.2.2.2.2.2.2.2.2.2.2.2.2.1 (by omega) (v := M (a + 21) ((M a 18) - 1)) rfl ?_
    refine q_iload_n C dX6_topHas_27 (n := 28) rfl rfl ?_
    refine q_iand C dX6_topHas_28 (n := 29) rfl (v := zand (M (a + 21) ((M a 18) - 1)) v1) rfl ?_
    have g11 := zr_and (M (a + 21) ((M a 18) - 1)) v1
    refine q_if_eq C 36 dX6_topHas_29 (n := 32) rfl rfl (by omega) (fun h12 => ?_) (fun h12 => ?_)
    · refine q_iconst C dX6_topHas_36 (n := 37) rfl ?_
      exact zK.weak (J_8 0 (by omega) (by omega) (by omega)) (zwk_n (zwk_n zwk_e))
    · refine q_iconst C dX6_topHas_32 (n := 33) rfl ?_
      refine q_goto C 37 dX6_topHas_33 rfl ?_
      exact zK.weak (J_8 1 (by omega) (by omega) (by omega)) (zwk_n (zwk_n zwk_e))
theorem c_X6_isSkipping {w : zWp} {T : zTl} {M : zMm} {J : zJm} {R : zRm'} {G : zGt} {F : zRm'} {a L : Nat} (hI : zI G M) (hF : zF F R) (h0 : zRunner T F G a L) (p1 : 0 ≤ M a 15) : zCt w 2 0 0 yX6_isSkipping cX6_isSkipping 1 (some .boolean) [.ref (w.2.1 + a)] (T, M, J, R) (zPp T M J R (fun x => (x = 0 ∨ x = 1))) := by
  refine zCt.of rfl (Nat.le_of_ble_eq_true rfl) ?_
  intro p e s m args below meth c C
  obtain ⟨Po, hPo⟩ : ∃ Po, Po = zPp T M J R (fun x => (x = 0 ∨ x = 1)) := ⟨_, rfl⟩
  rw [← hPo]
  show zK w p e 2 0 0 s m args below meth c 1 T Po 0 [.ref (w.2.1 + a)] [] (T, M, J, R)
  refine q_aload_n C dX6_isSkipping_0 (n := 1) rfl rfl ?_
  have g1 := zI.at hI h0.2.2.2.2.2.2.2.2.2.2.2.2.2.2.2.2.2.2.2.2.2.2.2.2.2.2.2.2.2.2.2.2.2.2.2.2.2.2.2.2.2.2.2.1
  refine q_getI C dX6_isSkipping_1 (n := 4) rfl f_X6_62 h0.1 (v := M a 18) rfl ?_
  refine q_aload_n C dX6_isSkipping_4 (n := 5) rfl rfl ?_
  refine q_getR C dX6_isSkipping_5 (n := 8) rfl f_X6_49 h0.1 (hF _ _ _ h0.2.2.2.2.2.2.2.2.2.2.2.2.2.2.2.2.2.2.2.2.2.2.2.2.2.2.2.2.2.2.2.2.2.1) ?_
  refine q_aload_n C dX6_isSkipping_8 (n := 9) rfl rfl ?_
  have g2 := zI.at hI h0.2.2.2.2.2.2.2.2.2.2.2.2.2.2.2.2.2.2.2.2.2.2.2.2.2.2.2.2.2.2.2.2.2.2.2.2.1
  refine q_getI C dX6_isSkipping_9 (n := 12) rfl f_X6_52 h0.1 (v := M a 15) rfl ?_
  have g3 := zI.at hI (h0.2.2.2.2.2.2.2.2.2.2.2.2.2.2.2.2.2.2.2.2.2.2.2.2.2.2.2.2.2.2.2.2.2.2.2.1 (M a 15))
  refine q_iald C dX6_isSkipping_12 (n := 13) rfl h0.2.2.2.2.2.2.2.2.2.2.2.2.2.2.2.2.2.2.2.2.2.2.2.2.2.2.2.2.2.2.2.2.2.2.1 (by omega) (v := M (a + 19) (M a 15)) rfl ?_
  refine q_icmp_le C 28 dX6_isSkipping_13 (n := 16) rfl rfl (by omega) (fun h4 => ?_) (fun h4 => ?_)
  · refine q_iconst C dX6_isSkipping_28 (n := 29) rfl ?_
    exact q_zret C dX6_isSkipping_29 ⟨rfl, rfl⟩ (by omega) (by rw [hPo]; exact ⟨0, rfl, rfl, by omega⟩)
  · refine q_aload_n C dX6_isSkipping_16 (n := 17) rfl rfl ?_
    refine q_iconst C dX6_isSkipping_17 (n := 18) rfl ?_
    refine q_callVp C dX6_isSkipping_18 (n := 21) rfl m_X6_188 v_yX6_topHas h0.1 ⟨by decide, rfl⟩ (c_X6_topHas (w := w) (J := J) hI hF h0 1 (by omega) (by omega)) (Nat.le_of_ble_eq_true rfl) rfl rfl (Nat.le_of_ble_eq_true rfl) ⟨Nat.le_refl _, Nat.le_refl _⟩ (fun x7 h8 => ?_)
    obtain ⟨h5, h6⟩ := h8
    refine q_if_ne C 28 dX6_isSkipping_21 (n := 24) rfl rfl (by omega) (fun h9 => ?_) (fun h9 => ?_)
    · refine q_iconst C dX6_isSkipping_28 (n := 29) rfl ?_
      exact q_zret C dX6_isSkipping_29 ⟨rfl, rfl⟩ (by omega) (by rw [hPo]; exact ⟨0, rfl, rfl, by omega⟩)
    · refine q_iconst C dX6_isSkipping_24 (n := 25) rfl ?_
      refine q_goto C 29 dX6_isSkipping_25 rfl ?_
      exact q_zret C dX6_isSkipping_29 ⟨rfl, rfl⟩ (by omega) (by rw [hPo]; exact ⟨1, rfl, rfl, by omega⟩)
theorem c_X6_isAstray {w : zWp} {T : zTl} {M : zMm} {J : zJm} {R : zRm'} {G : zGt} {F : zRm'} {a L : Nat} (hI : zI G M) (hF : zF F R) (h0 : zRunner T F G a L) (v1 : Int) (p1 : 0 ≤ M a 15) (p2 : -2147483648 ≤ v1 ∧ v1 ≤ 2147483647) : zCt w 2 0 0 yX6_isAstray cX6_isAstray 2 (some .boolean) [.ref (w.2.1 + a), zi v1] (T, M, J, R) (zPp T M J R (fun x => (x = 0 ∨ x = 1))) := by
  refine zCt.of rfl (Nat.le_of_ble_eq_true rfl) ?_
  intro p e s m args below meth c C
  obtain ⟨Po, hPo⟩ : ∃ Po, Po = zPp T M J R (fun x => (x = 0 ∨ x = 1)) := ⟨_, rfl⟩
  rw [← hPo]
  show zK w p e 2 0 0 s m args below meth c 2 T Po 0 [.ref (w.2.1 + a), zi v1] [] (T, M, J, R)
  refine q_iload_n C dX6_isAstray_0 (n := 1) rfl rfl ?_
  refine q_iconst C dX6_isAstray_1 (n := 2) rfl ?_
  refine q_icmp_ge C 7 dX6_isAstray_2 (n := 5) rfl rfl (by omega) (fun h1 => ?_) (fun h1 => ?_)
  · refine q_aload_n C dX6_isAstray_7 (n := 8) rfl rfl ?_
    have g2 := zI.at hI h0.2.2.2.2.2.2.2.2.2.2.2.2.2.2.2.2.2.2.2.2.2.2.2.2.2.2.2.2.2.2.2.2.2.2.2.2.2.2.2.2.2.2.2.1
    refine q_getI C dX6_isAstray_8 (n := 11) rfl f_X6_62 h0.1 (v := M a 18) rfl ?_
    refine q_aload_n C dX6_isAstray_11 (n := 12) rfl rfl ?_
    refine q_getR C dX6_isAstray_12 (n := 15) rfl f_X6_49 h0.1 (hF _ _ _ h0.2.2.2.2.2.2.2.2.2.2.2.2.2.2.2.2.2.2.2.2.2.2.2.2.2.2.2.2.2.2.2.2.2.1) ?_
    refine q_aload_n C dX6_isAstray_15 (n := 16) rfl rfl ?_
    have g3 := zI.at hI h0.2.2.2.2.2.2.2.2.2.2.2.2.2.2.2.2.2.2.2.2.2.2.2.2.2.2.2.2.2.2.2.2.2.2.2.2.1
    refine q_getI C dX6_isAstray_16 (n := 19) rfl f_X6_52 h0.1 (v := M a 15) rfl ?_
    have g4 := zI.at hI (h0.2.2.2.2.2.2.2.2.2.2.2.2.2.2.2.2.2.2.2.2.2.2.2.2.2.2.2.2.2.2.2.2.2.2.2.1 (M a 15))
    refine q_iald C dX6_isAstray_19 (n := 20) rfl h0.2.2.2.2.2.2.2.2.2.2.2.2.2.2.2.2.2.2.2.2.2.2.2.2.2.2.2.2.2.2.2.2.2.2.1 (by omega) (v := M (a + 19) (M a 15)) rfl ?_
    refine q_icmp_le C 36 dX6_isAstray_20 (n := 23) rfl rfl (by omega) (fun h5 => ?_) (fun h5 => ?_)
    · refine q_iconst C dX6_isAstray_36 (n := 37) rfl ?_
      refine q_goto C 41 dX6_isAstray_37 rfl ?_
      exact q_zret C dX6_isAstray_41 ⟨rfl, rfl⟩ (by omega) (by rw [hPo]; exact ⟨1, rfl, rfl, by omega⟩)
    · refine q_iload_n C dX6_isAstray_23 (n := 24) rfl rfl ?_
      refine q_iconst C dX6_isAstray_24 (n := 25) rfl ?_
      refine q_icmp_eq C 40 dX6_isAstray_25 (n := 28) rfl rfl (by omega) (fun h6 => ?_) (fun h6 => ?_)
      · refine q_iconst C dX6_isAstray_40 (n := 41) rfl ?_
        exact q_zret C dX6_isAstray_41 ⟨rfl, rfl⟩ (by omega) (by rw [hPo]; exact ⟨0, rfl, rfl, by omega⟩)
      · refine q_aload_n C dX6_isAstray_28 (n := 29) rfl rfl ?_
        refine q_iconst C dX6_isAstray_29 (n := 30) rfl ?_
        refine q_callVp C dX6_isAstray_30 (n := 33) rfl m_X6_188 v_yX6_topHas h0.1 ⟨by decide, rfl⟩ (c_X6_topHas (w := w) (J := J) hI hF h0 4 (by omega) (by omega)) (Nat.le_of_ble_eq_true rfl) rfl rfl (Nat.le_of_ble_eq_true rfl) ⟨Nat.le_refl _, Nat.le_refl _⟩ (fun x9 h10 => ?_)
        obtain ⟨h7, h8⟩ := h10
        refine q_if_eq C 40 dX6_isAstray_33 (n := 36) rfl rfl (by omega) (fun h11 => ?_) (fun h11 => ?_)
        · refine q_iconst C dX6_isAstray_40 (n := 41) rfl ?_
          exact q_zret C dX6_isAstray_41 ⟨rfl, rfl⟩ (by omega) (by rw [hPo]; exact ⟨0, rfl, rfl, by omega⟩)
        · refine q_iconst C dX6_isAstray_36 (n := 37) rfl ?_
          refine q_goto C 41 dX6_isAstray_37 rfl ?_
          exact q_zret C dX6_isAstray_41 ⟨rfl, rfl⟩ (by omega) (by rw [hPo]; exact ⟨1, rfl, rfl, by omega⟩)
  · refine q_iconst C dX6_isAstray_5 (n := 6) rfl ?_
    exact q_zret C dX6_isAstray_6 ⟨rfl, rfl⟩ (by omega) (by rw [hPo]; exact ⟨0, rfl, rfl, by omega⟩)
theorem c_X6_openGroup {w : zWp} {T : zTl} {M : zMm} {J : zJm} {R : zRm'} {G : zGt} {F : zRm'} {a L : Nat} (hI : zI G M) (hF : zF F R) (h0 : zRunner T F G a L) (v1 : Int) (v2 : Int) (p1 : -2147483648 ≤ v1 ∧ v1 ≤ 2147483647) (p2 : -2147483648 ≤ v2 ∧ v2 ≤ 2147483647) : zCt w 1 0 0 yX6_openGroup cX6_openGroup 3 none [.ref (w.2.1 + a), zi v1, zi v2] (T, M, J, R) (zPv T R G (fun M2 => (zKp G 13 M M2))) := by
  refine zCt.of rfl (Nat.le_of_ble_eq_true rfl) ?_
  intro p e s m args below meth c C
  obtain ⟨Po, hPo⟩ : ∃ Po, Po = zPv T R G (fun M2 => (zKp G 13 M M2)) := ⟨_, rfl⟩
  rw [← hPo]
  have hK0 : zKp G 13 M M := zKp.rf
  show zK w p e 1 0 0 s m args below meth c 3 T Po 0 [.ref (w.2.1 + a), zi v1, zi v2] [] (T, M, J, R)
  refine q_aload_n C dX6_openGroup_0 (n := 1) rfl rfl ?_
  have g1 := zI.at hI h0.2.2.2.2.2.2.2.2.2.2.2.2.2.2.2.2.2.2.2.2.2.2.2.2.2.2.2.2.2.2.2.2.2.2.2.2.2.2.2.2.2.2.2.1
  refine q_getI C dX6_openGroup_1 (n := 4) rfl f_X6_62 h0.1 (v := M a 18) rfl ?_
  refine q_aload_n C dX6_openGroup_4 (n := 5) rfl rfl ?_
  refine q_getR C dX6_openGroup_5 (n := 8) rfl f_X6_59 h0.1 (hF _ _ _ h0.2.2.2.2.2.2.2.2.2.2.2.2.2.2.2.2.2.2.2.2.2.2.2.2.2.2.2.2.2.2.2.2.2.2.2.2.2.2.2.2.1) ?_
  refine q_alen C dX6_openGroup_8 (n := 9) rfl ⟨by decide, by decide⟩ h0.2.2.2.2.2.2.2.2.2.2.2.2.2.2.2.2.2.2.2.2.2.2.2.2.2.2.2.2.2.2.2.2.2.2.2.2.2.2.2.2.2.1 ?_
  show zK w p e 1 0 0 s m args below meth c 3 T Po 9 [.ref (w.2.1 + a), zi v1, zi v2] [zi 280, zi (M a 18)] (T, M, J, R)
  refine q_icmp_ge C 42 dX6_openGroup_9 (n := 12) rfl rfl (by omega) (fun h2 => ?_) (fun h2 => ?_)
  · exact q_vret C dX6_openGroup_42 ⟨rfl, rfl⟩ (by rw [hPo]; exact ⟨M, J, rfl, rfl, hI, hK0⟩)
  · refine q_aload_n C dX6_openGroup_12 (n := 13) rfl rfl ?_
    refine q_getR C dX6_openGroup_13 (n := 16) rfl f_X6_59 h0.1 (hF _ _ _ h0.2.2.2.2.2.2.2.2.2.2.2.2.2.2.2.2.2.2.2.2.2.2.2.2.2.2.2.2.2.2.2.2.2.2.2.2.2.2.2.2.1) ?_
    refine q_aload_n C dX6_openGroup_16 (n := 17) rfl rfl ?_
    refine q_getI C dX6_openGroup_17 (n := 20) rfl f_X6_62 h0.1 (v := M a 18) rfl ?_
    refine q_iload_n C dX6_openGroup_20 (n := 21) rfl rfl ?_
    refine q_iast C dX6_openGroup_21 (n := 22) rfl h0.2.2.2.2.2.2.2.2.2.2.2.2.2.2.2.2.2.2.2.2.2.2.2.2.2.2.2.2.2.2.2.2.2.2.2.2.2.2.2.2.2.1 (by omega)  (fun M3 e4 => ?_)
    have hI5 : zI G M3 := hI.put e4 (h0.2.2.2.2.2.2.2.2.2.2.2.2.2.2.2.2.2.2.2.2.2.2.2.2.2.2.2.2.2.2.2.2.2.2.2.2.2.2.2.2.2.2.1 (M a 18)) rfl (by omega)
    have hK6 := hK0.put e4 (h0.2.2.2.2.2.2.2.2.2.2.2.2.2.2.2.2.2.2.2.2.2.2.2.2.2.2.2.2.2.2.2.2.2.2.2.2.2.2.2.2.2.2.1 (M a 18)) (by decide)
    refine q_aload_n C dX6_openGroup_22 (n := 23) rfl rfl ?_
    refine q_getR C dX6_openGroup_23 (n := 26) rfl f_X6_56 h0.1 (hF _ _ _ h0.2.2.2.2.2.2.2.2.2.2.2.2.2.2.2.2.2.2.2.2.2.2.2.2.2.2.2.2.2.2.2.2.2.2.2.2.2.1) ?_
    refine q_aload_n C dX6_openGroup_26 (n := 27) rfl rfl ?_
    refine q_getI C dX6_openGroup_27 (n := 30) rfl f_X6_62 h0.1 (v := M a 18) (zup_p e4 (by omega) _) ?_
    refine q_iload_n C dX6_openGroup_30 (n := 31) rfl rfl ?_
    refine q_iast C dX6_openGroup_31 (n := 32) rfl h0.2.2.2.2.2.2.2.2.2.2.2.2.2.2.2.2.2.2.2.2.2.2.2.2.2.2.2.2.2.2.2.2.2.2.2.2.2.2.1 (by omega)  (fun M7 e8 => ?_)
    have hI9 : zI G M7 := hI5.put e8 (h0.2.2.2.2.2.2.2.2.2.2.2.2.2.2.2.2.2.2.2.2.2.2.2.2.2.2.2.2.2.2.2.2.2.2.2.2.2.2.2.1 (M a 18)) rfl (by omega)
    have hK10 := hK6.put e8 (h0.2.2.2.2.2.2.2.2.2.2.2.2.2.2.2.2.2.2.2.2.2.2.2.2.2.2.2.2.2.2.2.2.2.2.2.2.2.2.2.1 (M a 18)) (by decide)
    refine q_aload_n C dX6_openGroup_32 (n := 33) rfl rfl ?_
    refine q_dup C dX6_openGroup_33 (n := 34) rfl rfl ?_
    refine q_getI C dX6_openGroup_34 (n := 37) rfl f_X6_62 h0.1 (v := M a 18) ((zup_p e8 (by omega) _).trans (zup_p e4 (by omega) _)) ?_
    refine q_iconst C dX6_openGroup_37 (n := 38) rfl ?_
    refine q_iadd C dX6_openGroup_38 (n := 39) rfl (v := (M a 18) + 1) rfl ?_
    refine q_putI C dX6_openGroup_39 (n := 42) rfl f_X6_62 h0.1 ⟨rfl, rfl⟩ (fun M11 (e12 : M11 = zup M7 a 18 ((M a 18) + 1)) => ?_)
    have hI13 : zI G M11 := hI9.put e12 h0.2.2.2.2.2.2.2.2.2.2.2.2.2.2.2.2.2.2.2.2.2.2.2.2.2.2.2.2.2.2.2.2.2.2.2.2.2.2.2.2.2.2.2.1 rfl (by omega)
    have hK14 := hK10.put e12 h0.2.2.2.2.2.2.2.2.2.2.2.2.2.2.2.2.2.2.2.2.2.2.2.2.2.2.2.2.2.2.2.2.2.2.2.2.2.2.2.2.2.2.2.1 (by decide)
    exact q_vret C dX6_openGroup_42 ⟨rfl, rfl⟩ (by rw [hPo]; exact ⟨M11, J, rfl, rfl, hI13, hK14⟩)
theorem c_X6_skipLine {w : zWp} {T : zTl} {M : zMm} {J : zJm} {R : zRm'} {G : zGt} {F : zRm'} {a L : Nat} (hI : zI G M) (hF : zF F R) (h0 : zRunner T F G a L) (v1 : Int) (v2 : Int) (p1 : -2147483648 ≤ v1 ∧ v1 ≤ 2147483647) (p2 : -2147483648 ≤ v2 ∧ v2 ≤ 2147483647) : zCt w 2 0 0 yX6_skipLine cX6_skipLine 3 none [.ref (w.2.1 + a), zi v1, zi v2] (T, M, J, R) (zPv T R G (fun M2 => (zKp G 13 M M2))) := by
  refine zCt.of rfl (Nat.le_of_ble_eq_true rfl) ?_
  intro p e s m args below meth c C
  obtain ⟨Po, hPo⟩ : ∃ Po, Po = zPv T R G (fun M2 => (zKp G 13 M M2)) := ⟨_, rfl⟩
  rw [← hPo]
  have hK0 : zKp G 13 M M := zKp.rf
  show zK w p e 2 0 0 s m args below meth c 3 T Po 0 [.ref (w.2.1 + a), zi v1, zi v2] [] (T, M, J, R)
  refine q_aload_n C dX6_skipLine_0 (n := 1) rfl rfl ?_
  refine q_getR C dX6_skipLine_1 (n := 4) rfl f_X6_27 h0.1 (hF _ _ _ h0.2.2.2.2.2.2.2.2.2.1) ?_
  refine q_iconst C dX6_skipLine_4 (n := 5) rfl ?_
  refine q_dup2 C dX6_skipLine_5 (n := 6) rfl ⟨rfl, rfl⟩ ?_
  have g1 := zI.at hI (h0.2.2.2.2.2.2.2.2.2.2.2.1 2)
  refine q_iald C dX6_skipLine_6 (n := 7) rfl h0.2.2.2.2.2.2.2.2.2.2.1 (by omega) (v := M (a + 6) 2) rfl ?_
  refine q_iconst C dX6_skipLine_7 (n := 8) rfl ?_
  refine q_iadd C dX6_skipLine_8 (n := 9) rfl (v := (M (a + 6) 2) + 1) rfl ?_
  refine q_wrap C ?_
  have g2 := zr_wr ((M (a + 6) 2) + 1)
  refine q_iast C dX6_skipLine_9 (n := 10) rfl h0.2.2.2.2.2.2.2.2.2.2.1 (by omega)  (fun M3 e4 => ?_)
  have hI5 : zI G M3 := hI.put e4 (h0.2.2.2.2.2.2.2.2.2.2.2.1 2) rfl (by omega)
  have hK6 := hK0.put e4 (h0.2.2.2.2.2.2.2.2.2.2.2.1 2) (by decide)
  refine q_iload_n C dX6_skipLine_10 (n := 11) rfl rfl ?_
  refine q_iconst C dX6_skipLine_11 (n := 12) rfl ?_
  refine q_icmp_ne C 24 dX6_skipLine_12 (n := 15) rfl rfl (by omega) (fun h7 => ?_) (fun h7 => ?_)
  · refine q_iload_n C dX6_skipLine_24 (n := 25) rfl rfl ?_
    refine q_iconst C dX6_skipLine_25 (n := 26) rfl ?_
    have J_8 : zK w p e 2 0 0 s m args below meth c 3 T Po 54 [.ref (w.2.1 + a), zi v1, .null] [] (T, M3, J, R) := by
      refine q_iload_n C dX6_skipLine_54 (n := 55) rfl rfl ?_
      refine q_iconst C dX6_skipLine_55 (n := 56) rfl ?_
      refine q_icmp_ne C 76 dX6_skipLine_56 (n := 59) rfl rfl (by omega) (fun h9 => ?_) (fun h9 => ?_)
      · exact q_vret C dX6_skipLine_76 ⟨rfl, rfl⟩ (by rw [hPo]; exact ⟨M3, J, rfl, rfl, hI5, hK6⟩)
      · refine q_aload_n C dX6_skipLine_59 (n := 60) rfl rfl ?_
        have g10 := zI.at hI h0.2.2.2.2.2.2.2.2.2.2.2.2.2.2.2.2.2.2.2.2.2.2.2.2.2.2.2.2.2.2.2.2.2.2.2.2.2.2.2.2.2.2.2.1
        refine q_getI C dX6_skipLine_60 (n := 63) rfl f_X6_62 h0.1 (v := M a 18) (zup_p e4 (by omega) _) ?_
        refine q_if_le C 76 dX6_skipLine_63 (n := 66) rfl rfl (by omega) (fun h11 => ?_) (fun h11 => ?_)
        · exact q_vret C dX6_skipLine_76 ⟨rfl, rfl⟩ (by rw [hPo]; exact ⟨M3, J, rfl, rfl, hI5, hK6⟩)
        · refine q_aload_n C dX6_skipLine_66 (n := 67) rfl rfl ?_
          refine q_dup C dX6_skipLine_67 (n := 68) rfl rfl ?_
          refine q_getI C dX6_skipLine_68 (n := 71) rfl f_X6_62 h0.1 (v := M a 18) (zup_p e4 (by omega) _) ?_
          refine q_iconst C dX6_skipLine_71 (n := 72) rfl ?_
          refine q_isub C dX6_skipLine_72 (n := 73) rfl (v := (M a 18) - 1) rfl ?_
          refine q_putI C dX6_skipLine_73 (n := 76) rfl f_X6_62 h0.1 ⟨rfl, rfl⟩ (fun M12 (e13 : M12 = zup M3 a 18 ((M a 18) - 1)) => ?_)
          have hI14 : zI G M12 := hI5.put e13 h0.2.2.2.2.2.2.2.2.2.2.2.2.2.2.2.2.2.2.2.2.2.2.2.2.2.2.2.2.2.2.2.2.2.2.2.2.2.2.2.2.2.2.2.1 rfl (by omega)
          have hK15 := hK6.put e13 h0.2.2.2.2.2.2.2.2.2.2.2.2.2.2.2.2.2.2.2.2.2.2.2.2.2.2.2.2.2.2.2.2.2.2.2.2.2.2.2.2.2.2.2.1 (by decide)
          exact q_vret C dX6_skipLine_76 ⟨rfl, rfl⟩ (by rw [hPo]; exact ⟨M12, J, rfl, rfl, hI14, hK15⟩)
    refine q_icmp_ne C 54 dX6_skipLine_26 (n := 29) rfl rfl (by omega) (fun h16 => ?_) (fun h16 => ?_)
    · exact zK.weak (J_8) (zwk_c (zwk_c (zwk_n zwk_e)))
    · refine q_aload_n C dX6_skipLine_29 (n := 30) rfl rfl ?_
      have g17 := zI.at hI h0.2.2.2.2.2.2.2.2.2.2.2.2.2.2.2.2.2.2.2.2.2.2.2.2.2.2.2.2.2.2.2.2.2.2.2.2.2.2.2.2.2.2.2.1
      refine q_getI C dX6_skipLine_30 (n := 33) rfl f_X6_62 h0.1 (v := M a 18) (zup_p e4 (by omega) _) ?_
      refine q_if_le C 54 dX6_skipLine_33 (n := 36) rfl rfl (by omega) (fun h18 => ?_) (fun h18 => ?_)
      · exact zK.weak (J_8) (zwk_c (zwk_c (zwk_n zwk_e)))
      · refine q_aload_n C dX6_skipLine_36 (n := 37) rfl rfl ?_
        refine q_getR C dX6_skipLine_37 (n := 40) rfl f_X6_59 h0.1 (hF _ _ _ h0.2.2.2.2.2.2.2.2.2.2.2.2.2.2.2.2.2.2.2.2.2.2.2.2.2.2.2.2.2.2.2.2.2.2.2.2.2.2.2.2.1) ?_
        refine q_aload_n C dX6_skipLine_40 (n := 41) rfl rfl ?_
        refine q_getI C dX6_skipLine_41 (n := 44) rfl f_X6_62 h0.1 (v := M a 18) (zup_p e4 (by omega) _) ?_
        refine q_iconst C dX6_skipLine_44 (n := 45) rfl ?_
        refine q_isub C dX6_skipLine_45 (n := 46) rfl (v := (M a 18) - 1) rfl ?_
        refine q_dup2 C dX6_skipLine_46 (n := 47) rfl ⟨rfl, rfl⟩ ?_
        have g19 := zI.at hI (h0.2.2.2.2.2.2.2.2.2.2.2.2.2.2.2.2.2.2.2.2.2.2.2.2.2.2.2.2.2.2.2.2.2.2.2.2.2.2.2.2.2.2.1 ((M a 18) - 1))
        refine q_iald C dX6_skipLine_47 (n := 48) rfl h0.2.2.2.2.2.2.2.2.2.2.2.2.2.2.2.2.2.2.2.2.2.2.2.2.2.2.2.2.2.2.2.2.2.2.2.2.2.2.2.2.2.1 (by omega) (v := M (a + 21) ((M a 18) - 1)) (zup_p e4 (by omega) _) ?_
        refine q_iconst C dX6_skipLine_48 (n := 49) rfl ?_
        refine q_ior C dX6_skipLine_49 (n := 50) rfl (v := zor (M (a + 21) ((M a 18) - 1)) 4) rfl ?_
        have g20 := zr_or (M (a + 21) ((M a 18) - 1)) 4
        refine q_iast C dX6_skipLine_50 (n := 51) rfl h0.2.2.2.2.2.2.2.2.2.2.2.2.2.2.2.2.2.2.2.2.2.2.2.2.2.2.2.2.2.2.2.2.2.2.2.2.2.2.2.2.2.1 (by omega)  (fun M21 e22 => ?_)
        have hI23 : zI G M21 := hI5.put e22 (h0.2.2.2.2.2.2.2.2.2.2.2.2.2.2.2.2.2.2.2.2.2.2.2.2.2.2.2.2.2.2.2.2.2.2.2.2.2.2.2.2.2.2.1 ((M a 18) - 1)) rfl (by omega)
        have hK24 := hK6.put e22 (h0.2.2.2.2.2.2.2.2.2.2.2.2.2.2.2.2.2.2.2.2.2.2.2.2.2.2.2.2.2.2.2.2.2.2.2.2.2.2.2.2.2.2.1 ((M a 18) - 1)) (by decide)
        refine q_goto C 76 dX6_skipLine_51 rfl ?_
        exact q_vret C dX6_skipLine_76 ⟨rfl, rfl⟩ (by rw [hPo]; exact ⟨M21, J, rfl, rfl, hI23, hK24⟩)
  · refine q_aload_n C dX6_skipLine_15 (n := 16) rfl rfl ?_
    refine q_iconst C dX6_skipLine_16 (n := 17) rfl ?_
    refine q_iload_n C dX6_skipLine_17 (n := 18) rfl rfl ?_
    refine q_callVv C dX6_skipLine_18 (n := 21) rfl m_X6_222 v_yX6_openGroup h0.1 ⟨by decide, rfl⟩ (c_X6_openGroup (w := w) (J := J) hI5 hF h0 0 v2 (by omega) (by omega)) (Nat.le_of_ble_eq_true rfl) rfl rfl (Nat.le_of_ble_eq_true rfl) ⟨Nat.le_refl _, Nat.le_refl _⟩ (fun M25 J26  hI27 h28 => ?_)
    have hK30 := hK6.tr h28 (by decide)
    refine q_goto C 76 dX6_skipLine_21 rfl ?_
    exact q_vret C dX6_skipLine_76 ⟨rfl, rfl⟩ (by rw [hPo]; exact ⟨M25, J26, rfl, rfl, hI27, hK30⟩)
theorem c_X6_isSign {w : zWp} {T : zTl} {M : zMm} {J : zJm} {R : zRm'} {G : zGt} {F : zRm'} {a L : Nat} (hI : zI G M) (hF : zF F R) (h0 : zRunner T F G a L) (v1 : Int) (v2 : Int) (p1 : L ≤ 1000000) (p2 : 0 ≤ v1 ∧ v1 ≤ 1000) (p3 : -2147483648 ≤ v2 ∧ v2 ≤ 2147483647) : zCt w 2 0 0 yX6_isSign cX6_isSign 3 (some .boolean) [.ref (w.2.1 + a), zi v1, zi v2] (T, M, J, R) (zPp T M J R (fun x => (x = 0 ∨ x = 1))) := by
  refine zCt.of rfl (Nat.le_of_ble_eq_true rfl) ?_
  intro p e s m args below meth c C
  obtain ⟨Po, hPo⟩ : ∃ Po, Po = zPp T M J R (fun x => (x = 0 ∨ x = 1)) := ⟨_, rfl⟩
  rw [← hPo]
  show zK w p e 2 0 0 s m args below meth c 3 T Po 0 [.ref (w.2.1 + a), zi v1, zi v2] [] (T, M, J, R)
  refine q_iload_n C dX6_isSign_0 (n := 1) rfl rfl ?_
  refine q_aload_n C dX6_isSign_1 (n := 2) rfl rfl ?_
  refine q_getR C dX6_isSign_2 (n := 5) rfl f_X6_37 h0.1 (hF _ _ _ h0.2.2.2.2.2.2.2.2.2.2.2.2.2.2.2.2.2.2.2.2.2.2.1) ?_
  have g1 := zI.at hI h0.2.2.2.2.2.2.2.2.2.2.2.2.2.2.2.2.2.2.2.2.2.2.2.1.2.2.2.2.2.2.2.2.2.2
  refine q_getI C dX6_isSign_5 (n := 8) rfl f_X6_103 h0.2.2.2.2.2.2.2.2.2.2.2.2.2.2.2.2.2.2.2.2.2.2.2.1.1 (v := M (a + 9) 3) rfl ?_
  refine q_icmp_ge C 44 dX6_isSign_8 (n := 11) rfl rfl (by omega) (fun h2 => ?_) (fun h2 => ?_)
  · refine q_iconst C dX6_isSign_44 (n := 45) rfl ?_
    exact q_zret C dX6_isSign_45 ⟨rfl, rfl⟩ (by omega) (by rw [hPo]; exact ⟨0, rfl, rfl, by omega⟩)
  · refine q_aload_n C dX6_isSign_11 (n := 12) rfl rfl ?_
    refine q_getR C dX6_isSign_12 (n := 15) rfl f_X6_71 h0.1 (hF _ _ _ h0.2.1) ?_
    refine q_aload_n C dX6_isSign_15 (n := 16) rfl rfl ?_
    refine q_getR C dX6_isSign_16 (n := 19) rfl f_X6_37 h0.1 (hF _ _ _ h0.2.2.2.2.2.2.2.2.2.2.2.2.2.2.2.2.2.2.2.2.2.2.1) ?_
    refine q_getR C dX6_isSign_19 (n := 22) rfl f_X6_262 h0.2.2.2.2.2.2.2.2.2.2.2.2.2.2.2.2.2.2.2.2.2.2.2.1.1 (hF _ _ _ h0.2.2.2.2.2.2.2.2.2.2.2.2.2.2.2.2.2.2.2.2.2.2.2.1.2.1) ?_
    refine q_iload_n C dX6_isSign_22 (n := 23) rfl rfl ?_
    have g3 := zI.at hI (h0.2.2.2.2.2.2.2.2.2.2.2.2.2.2.2.2.2.2.2.2.2.2.2.1.2.2.2.1 v1)
    have g4 : M (a + 9 + 1) v1 + zand (M (a + 9 + 2) v1) 31 ≤ (L : Int) ∧ zand (M (a + 9 + 2) v1) 31 ≤ 30 := zI.row hI (h0.2.2.2.2.2.2.2.2.2.2.2.2.2.2.2.2.2.2.2.2.2.2.2.1.2.2.2.1 v1)
    refine q_iald C dX6_isSign_23 (n := 24) rfl h0.2.2.2.2.2.2.2.2.2.2.2.2.2.2.2.2.2.2.2.2.2.2.2.1.2.2.1 (by omega) (v := M (a + 9 + 1) v1) rfl ?_
    refine q_aload_n C dX6_isSign_24 (n := 25) rfl rfl ?_
    refine q_getR C dX6_isSign_25 (n := 28) rfl f_X6_37 h0.1 (hF _ _ _ h0.2.2.2.2.2.2.2.2.2.2.2.2.2.2.2.2.2.2.2.2.2.2.1) ?_
    refine q_getR C dX6_isSign_28 (n := 31) rfl f_X6_265 h0.2.2.2.2.2.2.2.2.2.2.2.2.2.2.2.2.2.2.2.2.2.2.2.1.1 (hF _ _ _ h0.2.2.2.2.2.2.2.2.2.2.2.2.2.2.2.2.2.2.2.2.2.2.2.1.2.2.2.2.1) ?_
    refine q_iload_n C dX6_isSign_31 (n := 32) rfl rfl ?_
    have g5 := zI.at hI (h0.2.2.2.2.2.2.2.2.2.2.2.2.2.2.2.2.2.2.2.2.2.2.2.1.2.2.2.2.2.2.1 v1)
    refine q_iald C dX6_isSign_32 (n := 33) rfl h0.2.2.2.2.2.2.2.2.2.2.2.2.2.2.2.2.2.2.2.2.2.2.2.1.2.2.2.2.2.1 (by omega) (v := M (a + 9 + 2) v1) rfl ?_
    refine q_callVp C dX6_isSign_33 (n := 36) rfl m_X6_268 v_yX10_signOf h0.2.2.1.1 ⟨by decide, rfl⟩ (c_X10_signOf (w := w) (J := J) hI hF h0.2.2.1 (M (a + 9 + 1) v1) (M (a + 9 + 2) v1) (by omega) (by omega)) (Nat.le_of_ble_eq_true rfl) rfl rfl (Nat.le_of_ble_eq_true rfl) ⟨Nat.le_refl _, Nat.le_refl _⟩ (fun x7 h8 => ?_)
    refine q_iload_n C dX6_isSign_36 (n := 37) rfl rfl ?_
    refine q_icmp_ne C 44 dX6_isSign_37 (n := 40) rfl rfl (by omega) (fun h9 => ?_) (fun h9 => ?_)
    · refine q_iconst C dX6_isSign_44 (n := 45) rfl ?_
      exact q_zret C dX6_isSign_45 ⟨rfl, rfl⟩ (by omega) (by rw [hPo]; exact ⟨0, rfl, rfl, by omega⟩)
    · refine q_iconst C dX6_isSign_40 (n := 41) rfl ?_
      refine q_goto C 45 dX6_isSign_41 rfl ?_
      exact q_zret C dX6_isSign_45 ⟨rfl, rfl⟩ (by omega) (by rw [hPo]; exact ⟨1, rfl, rfl, by omega⟩)
theorem c_X6_isName {w : zWp} {T : zTl} {M : zMm} {J : zJm} {R : zRm'} {G : zGt} {F : zRm'} {a L : Nat} (hI : zI G M) (hF : zF F R) (h0 : zRunner T F G a L) (v1 : Int) (p1 : 0 ≤ v1 ∧ v1 ≤ 1000) : zCt w 2 0 0 yX6_isName cX6_isName 2 (some .boolean) [.ref (w.2.1 + a), zi v1] (T, M, J, R) (zPp T M J R (fun x => (x = 0 ∨ x = 1) ∧ (x = 0 ∨ v1 < M (a + 9) 3 ∧ v1 < 440))) := by
  refine zCt.of rfl (Nat.le_of_ble_eq_true rfl) ?_
  intro p e s m args below meth c C
  obtain ⟨Po, hPo⟩ : ∃ Po, Po = zPp T M J R (fun x => (x = 0 ∨ x = 1) ∧ (x = 0 ∨ v1 < M (a + 9) 3 ∧ v1 < 440)) := ⟨_, rfl⟩
  rw [← hPo]
  show zK w p e 2 0 0 s m args below meth c 2 T Po 0 [.ref (w.2.1 + a), zi v1] [] (T, M, J, R)
  refine q_iload_n C dX6_isName_0 (n := 1) rfl rfl ?_
  refine q_aload_n C dX6_isName_1 (n := 2) rfl rfl ?_
  refine q_getR C dX6_isName_2 (n := 5) rfl f_X6_37 h0.1 (hF _ _ _ h0.2.2.2.2.2.2.2.2.2.2.2.2.2.2.2.2.2.2.2.2.2.2.1) ?_
  have g1 := zI.at hI h0.2.2.2.2.2.2.2.2.2.2.2.2.2.2.2.2.2.2.2.2.2.2.2.1.2.2.2.2.2.2.2.2.2.2
  refine q_getI C dX6_isName_5 (n := 8) rfl f_X6_103 h0.2.2.2.2.2.2.2.2.2.2.2.2.2.2.2.2.2.2.2.2.2.2.2.1.1 (v := M (a + 9) 3) rfl ?_
  have J_6 : ∀ (u2 : Int), (-2147483648 ≤ u2 ∧ u2 ≤ 2147483647) → (u2 = 0 ∨ u2 = 1) → (u2 = 0 ∨ v1 < M (a + 9) 3 ∧ v1 < 440) → zK w p e 2 0 0 s m args below meth c 2 T Po 31 [.null, .null] [zi u2] (T, M, J, R) := by
    intro u2 h3 h4 h5
    exact q_zret C dX6_isName_31 ⟨rfl, rfl⟩ (by omega) (by rw [hPo]; exact ⟨u2, rfl, rfl, by omega, by omega⟩)
  refine q_icmp_ge C 30 dX6_isName_8 (n := 11) rfl rfl (by omega) (fun h7 => ?_) (fun h7 => ?_)
  · refine q_iconst C dX6_isName_30 (n := 31) rfl ?_
    exact zK.weak (J_6 0 (by omega) (by omega) (by omega)) (zwk_n (zwk_n zwk_e))
  · refine q_aload_n C dX6_isName_11 (n := 12) rfl rfl ?_
    refine q_getR C dX6_isName_12 (n := 15) rfl f_X6_37 h0.1 (hF _ _ _ h0.2.2.2.2.2.2.2.2.2.2.2.2.2.2.2.2.2.2.2.2.2.2.1) ?_
    refine q_getR C dX6_isName_15 (n := 18) rfl f_X6_265 h0.2.2.2.2.2.2.2.2.2.2.2.2.2.2.2.2.2.2.2.2.2.2.2.1.1 (hF _ _ _ h0.2.2.2.2.2.2.2.2.2.2.2.2.2.2.2.2.2.2.2.2.2.2.2.1.2.2.2.2.1) ?_
    refine q_iload_n C dX6_isName_18 (n := 19) rfl rfl ?_
    have g8 := zI.at hI (h0.2.2.2.2.2.2.2.2.2.2.2.2.2.2.2.2.2.2.2.2.2.2.2.1.2.2.2.2.2.2.1 v1)
    refine q_iald C dX6_isName_19 (n := 20) rfl h0.2.2.2.2.2.2.2.2.2.2.2.2.2.2.2.2.2.2.2.2.2.2.2.1.2.2.2.2.2.1 (by omega) (v := M (a + 9 + 2) v1) rfl ?_
    refine q_callSp C dX6_isName_20 (n := 23) rfl m_X6_271 s_yX5_kindOf (c_X5_kindOf (w := w) (J := J) hI hF (M (a + 9 + 2) v1)) (Nat.le_of_ble_eq_true rfl) rfl rfl (Nat.le_of_ble_eq_true rfl) ⟨Nat.le_refl _, Nat.le_refl _⟩ (fun x10 h11 => ?_)
    refine q_if_ne C 30 dX6_isName_23 (n := 26) rfl rfl (by omega) (fun h12 => ?_) (fun h12 => ?_)
    · refine q_iconst C dX6_isName_30 (n := 31) rfl ?_
      exact zK.weak (J_6 0 (by omega) (by omega) (by omega)) (zwk_n (zwk_n zwk_e))
    · refine q_iconst C dX6_isName_26 (n := 27) rfl ?_
      refine q_goto C 31 dX6_isName_27 rfl ?_
      exact zK.weak (J_6 1 (by omega) (by omega) (by omega)) (zwk_n (zwk_n zwk_e))
theorem c_X6_says {w : zWp} {T : zTl} {M : zMm} {J : zJm} {R : zRm'} {G : zGt} {F : zRm'} {a L : Nat} (hI : zI G M) (hF : zF F R) (h0 : zRunner T F G a L) (v1 : Int) (k0 : Nat) (hk_k0 : k0 < 10) (p1 : L ≤ 1000000) (p2 : 0 ≤ v1 ∧ v1 ≤ 1000) : zCt w 10 0 0 yX6_says cX6_says 3 (some .boolean) [.ref (w.2.1 + a), zi v1, .ref (w.2.2.2.2 k0)] (T, M, J, R) (zPp T M J R (fun x => (x = 0 ∨ x = 1))) := by
  refine zCt.of rfl (Nat.le_of_ble_eq_true rfl) ?_
  intro p e s m args below meth c C
  obtain ⟨Po, hPo⟩ : ∃ Po, Po = zPp T M J R (fun x => (x = 0 ∨ x = 1)) := ⟨_, rfl⟩
  rw [← hPo]
  show zK w p e 10 0 0 s m args below meth c 3 T Po 0 [.ref (w.2.1 + a), zi v1, .ref (w.2.2.2.2 k0)] [] (T, M, J, R)
  refine q_aload_n C dX6_says_0 (n := 1) rfl rfl ?_
  refine q_iload_n C dX6_says_1 (n := 2) rfl rfl ?_
  refine q_callVp C dX6_says_2 (n := 5) rfl m_X6_274 v_yX6_isName h0.1 ⟨by decide, rfl⟩ (c_X6_isName (w := w) (J := J) hI hF h0 v1 (by omega)) (Nat.le_of_ble_eq_true rfl) rfl rfl (Nat.le_of_ble_eq_true rfl) ⟨Nat.le_refl _, Nat.le_refl _⟩ (fun x3 h4 => ?_)
  obtain ⟨h1, h2⟩ := h4
  refine q_if_ne C 10 dX6_says_5 (n := 8) rfl rfl (by omega) (fun h5 => ?_) (fun h5 => ?_)
  · refine q_aload_n C dX6_says_10 (n := 11) rfl rfl ?_
    refine q_getR C dX6_says_11 (n := 14) rfl f_X6_71 h0.1 (hF _ _ _ h0.2.1) ?_
    refine q_getR C dX6_says_14 (n := 17) rfl f_X6_127 h0.2.2.1.1 (hF _ _ _ h0.2.2.1.2.1) ?_
    refine q_aload_n C dX6_says_17 (n := 18) rfl rfl ?_
    refine q_getR C dX6_says_18 (n := 21) rfl f_X6_37 h0.1 (hF _ _ _ h0.2.2.2.2.2.2.2.2.2.2.2.2.2.2.2.2.2.2.2.2.2.2.1) ?_
    refine q_getR C dX6_says_21 (n := 24) rfl f_X6_262 h0.2.2.2.2.2.2.2.2.2.2.2.2.2.2.2.2.2.2.2.2.2.2.2.1.1 (hF _ _ _ h0.2.2.2.2.2.2.2.2.2.2.2.2.2.2.2.2.2.2.2.2.2.2.2.1.2.1) ?_
    refine q_iload_n C dX6_says_24 (n := 25) rfl rfl ?_
    have g6 := zI.at hI (h0.2.2.2.2.2.2.2.2.2.2.2.2.2.2.2.2.2.2.2.2.2.2.2.1.2.2.2.1 v1)
    have g7 : M (a + 9 + 1) v1 + zand (M (a + 9 + 2) v1) 31 ≤ (L : Int) ∧ zand (M (a + 9 + 2) v1) 31 ≤ 30 := zI.row hI (h0.2.2.2.2.2.2.2.2.2.2.2.2.2.2.2.2.2.2.2.2.2.2.2.1.2.2.2.1 v1)
    refine q_iald C dX6_says_25 (n := 26) rfl h0.2.2.2.2.2.2.2.2.2.2.2.2.2.2.2.2.2.2.2.2.2.2.2.1.2.2.1 (by omega) (v := M (a + 9 + 1) v1) rfl ?_
    refine q_aload_n C dX6_says_26 (n := 27) rfl rfl ?_
    refine q_getR C dX6_says_27 (n := 30) rfl f_X6_37 h0.1 (hF _ _ _ h0.2.2.2.2.2.2.2.2.2.2.2.2.2.2.2.2.2.2.2.2.2.2.1) ?_
    refine q_getR C dX6_says_30 (n := 33) rfl f_X6_262 h0.2.2.2.2.2.2.2.2.2.2.2.2.2.2.2.2.2.2.2.2.2.2.2.1.1 (hF _ _ _ h0.2.2.2.2.2.2.2.2.2.2.2.2.2.2.2.2.2.2.2.2.2.2.2.1.2.1) ?_
    refine q_iload_n C dX6_says_33 (n := 34) rfl rfl ?_
    refine q_iald C dX6_says_34 (n := 35) rfl h0.2.2.2.2.2.2.2.2.2.2.2.2.2.2.2.2.2.2.2.2.2.2.2.1.2.2.1 (by omega) (v := M (a + 9 + 1) v1) rfl ?_
    refine q_aload_n C dX6_says_35 (n := 36) rfl rfl ?_
    refine q_getR C dX6_says_36 (n := 39) rfl f_X6_37 h0.1 (hF _ _ _ h0.2.2.2.2.2.2.2.2.2.2.2.2.2.2.2.2.2.2.2.2.2.2.1) ?_
    refine q_getR C dX6_says_39 (n := 42) rfl f_X6_265 h0.2.2.2.2.2.2.2.2.2.2.2.2.2.2.2.2.2.2.2.2.2.2.2.1.1 (hF _ _ _ h0.2.2.2.2.2.2.2.2.2.2.2.2.2.2.2.2.2.2.2.2.2.2.2.1.2.2.2.2.1) ?_
    refine q_iload_n C dX6_says_42 (n := 43) rfl rfl ?_
    have g8 := zI.at hI (h0.2.2.2.2.2.2.2.2.2.2.2.2.2.2.2.2.2.2.2.2.2.2.2.1.2.2.2.2.2.2.1 v1)
    refine q_iald C dX6_says_43 (n := 44) rfl h0.2.2.2.2.2.2.2.2.2.2.2.2.2.2.2.2.2.2.2.2.2.2.2.1.2.2.2.2.2.1 (by omega) (v := M (a + 9 + 2) v1) rfl ?_
    refine q_callSp C dX6_says_44 (n := 47) rfl m_X6_277 s_yX5_lengthOf (c_X5_lengthOf (w := w) (J := J) hI hF (M (a + 9 + 2) v1)) (Nat.le_of_ble_eq_true rfl) rfl rfl (Nat.le_of_ble_eq_true rfl) ⟨Nat.le_refl _, Nat.le_refl _⟩ (fun x11 h12 => ?_)
    obtain ⟨h9, h10⟩ := h12
    refine q_iadd C dX6_says_47 (n := 48) rfl (v := (M (a + 9 + 1) v1) + x11) rfl ?_
    refine q_aload_n C dX6_says_48 (n := 49) rfl rfl ?_
    refine q_callSp C dX6_says_49 (n := 52) rfl m_X6_280 s_yX10_says (c_X10_says (w := w) (J := J) hI hF h0.2.2.1.2.2.1 h0.2.2.1.2.2.2.1 (M (a + 9 + 1) v1) ((M (a + 9 + 1) v1) + x11) k0 hk_k0 (by omega) (by omega) (by omega)) (Nat.le_of_ble_eq_true rfl) rfl rfl (Nat.le_of_ble_eq_true rfl) ⟨Nat.le_refl _, Nat.le_refl _⟩ (fun x14 h15 => ?_)
    exact q_zret C dX6_says_52 ⟨rfl, rfl⟩ (by omega) (by rw [hPo]; exact ⟨x14, rfl, rfl, by omega⟩)
  · refine q_iconst C dX6_says_8 (n := 9) rfl ?_
    exact q_zret C dX6_says_9 ⟨rfl, rfl⟩ (by omega) (by rw [hPo]; exact ⟨0, rfl, rfl, by omega⟩)
theorem c_X6_loadFrom {w : zWp} {T : zTl} {M : zMm} {J : zJm} {R : zRm'} {G : zGt} {F : zRm'} {a L : Nat} (hI : zI G M) (hF : zF F R) (h0 : zRunner T F G a L) (v1 : Int) (p1 : 0 ≤ v1 ∧ v1 ≤ 1000) : zCt w 3 0 0 yX6_loadFrom cX6_loadFrom 3 none [.ref (w.2.1 + a), zi v1] (T, M, J, R) (zPv T R G (fun M2 => (zKp G 4 M M2))) := by
  refine zCt.of rfl (Nat.le_of_ble_eq_true rfl) ?_
  intro p e s m args below meth c C
  obtain ⟨Po, hPo⟩ : ∃ Po, Po = zPv T R G (fun M2 => (zKp G 4 M M2)) := ⟨_, rfl⟩
  rw [← hPo]
  have hK0 : zKp G 4 M M := zKp.rf
  show zK w p e 3 0 0 s m args below meth c 3 T Po 0 [.ref (w.2.1 + a), zi v1, .null] [] (T, M, J, R)
  refine q_aload_n C dX6_loadFrom_0 (n := 1) rfl rfl ?_
  refine q_getR C dX6_loadFrom_1 (n := 4) rfl f_X6_89 h0.1 (hF _ _ _ h0.2.2.2.2.2.2.2.2.2.2.2.2.2.2.2.2.2.2.1) ?_
  refine q_callVv C dX6_loadFrom_4 (n := 7) rfl m_X6_284 v_yX0_clear h0.2.2.2.2.2.2.2.2.2.2.2.2.2.2.2.2.2.2.2.1.1 ⟨by decide, rfl⟩ (c_X0_clear (w := w) (J := J) hI hF h0.2.2.2.2.2.2.2.2.2.2.2.2.2.2.2.2.2.2.2.1) (Nat.le_of_ble_eq_true rfl) rfl rfl (Nat.le_of_ble_eq_true rfl) ⟨Nat.le_refl _, Nat.le_refl _⟩ (fun M1 J2  hI3 h4 => ?_)
  have hK6 := hK0.tr h4 (by decide)
  refine q_iload_n C dX6_loadFrom_7 (n := 8) rfl rfl ?_
  refine q_istore_n C [.ref (w.2.1 + a), zi v1, zi v1] dX6_loadFrom_8 (n := 9) rfl rfl rfl ?_
  have L_14 : ∀ n15 : Nat, ∀ (u7 : Int) (M8 : zMm) (J9 : zJm), zI G M8 → zKp G 4 M M8 → (-2147483648 ≤ u7 ∧ u7 ≤ 2147483647) → (v1 ≤ u7 ∧ u7 ≤ 1440) → (1500 - u7 ≤ (n15 : Int)) → zK w p e 3 0 0 s m args below meth c 3 T Po 9 [.ref (w.2.1 + a), .null, zi u7] [] (T, M8, J9, R) := by
    intro n15
    induction n15 with
    | zero =>
      intro u7 M8 J9 hI10 hK11 h12 h13 hm17
      exfalso
      omega
    | succ n15 ih16 =>
      intro u7 M8 J9 hI10 hK11 h12 h13 hm17
      refine q_iload_n C dX6_loadFrom_9 (n := 10) rfl rfl ?_
      refine q_aload_n C dX6_loadFrom_10 (n := 11) rfl rfl ?_
      refine q_getR C dX6_loadFrom_11 (n := 14) rfl f_X6_37 h0.1 (hF _ _ _ h0.2.2.2.2.2.2.2.2.2.2.2.2.2.2.2.2.2.2.2.2.2.2.1) ?_
      have g18 := zI.at hI10 h0.2.2.2.2.2.2.2.2.2.2.2.2.2.2.2.2.2.2.2.2.2.2.2.1.2.2.2.2.2.2.2.2.2.2
      refine q_getI C dX6_loadFrom_14 (n := 17) rfl f_X6_103 h0.2.2.2.2.2.2.2.2.2.2.2.2.2.2.2.2.2.2.2.2.2.2.2.1.1 (v := M8 (a + 9) 3) rfl ?_
      refine q_icmp_ge C 51 dX6_loadFrom_17 (n := 20) rfl rfl (by omega) (fun h19 => ?_) (fun h19 => ?_)
      · exact q_vret C dX6_loadFrom_51 ⟨rfl, rfl⟩ (by rw [hPo]; exact ⟨M8, J9, rfl, rfl, hI10, hK11⟩)
      · refine q_aload_n C dX6_loadFrom_20 (n := 21) rfl rfl ?_
        refine q_getR C dX6_loadFrom_21 (n := 24) rfl f_X6_89 h0.1 (hF _ _ _ h0.2.2.2.2.2.2.2.2.2.2.2.2.2.2.2.2.2.2.1) ?_
        refine q_aload_n C dX6_loadFrom_24 (n := 25) rfl rfl ?_
        refine q_getR C dX6_loadFrom_25 (n := 28) rfl f_X6_37 h0.1 (hF _ _ _ h0.2.2.2.2.2.2.2.2.2.2.2.2.2.2.2.2.2.2.2.2.2.2.1) ?_
        refine q_getR C dX6_loadFrom_28 (n := 31) rfl f_X6_262 h0.2.2.2.2.2.2.2.2.2.2.2.2.2.2.2.2.2.2.2.2.2.2.2.1.1 (hF _ _ _ h0.2.2.2.2.2.2.2.2.2.2.2.2.2.2.2.2.2.2.2.2.2.2.2.1.2.1) ?_
        refine q_iload_n C dX6_loadFrom_31 (n := 32) rfl rfl ?_
        have g20 := zI.at hI10 (h0.2.2.2.2.2.2.2.2.2.2.2.2.2.2.2.2.2.2.2.2.2.2.2.1.2.2.2.1 u7)
        have g21 : M8 (a + 9 + 1) u7 + zand (M8 (a + 9 + 2) u7) 31 ≤ (L : Int) ∧ zand (M8 (a + 9 + 2) u7) 31 ≤ 30 := zI.row hI10 (h0.2.2.2.2.2.2.2.2.2.2.2.2.2.2.2.2.2.2.2.2.2.2.2.1.2.2.2.1 u7)
        refine q_iald C dX6_loadFrom_32 (n := 33) rfl h0.2.2.2.2.2.2.2.2.2.2.2.2.2.2.2.2.2.2.2.2.2.2.2.1.2.2.1 (by omega) (v := M8 (a + 9 + 1) u7) rfl ?_
        refine q_aload_n C dX6_loadFrom_33 (n := 34) rfl rfl ?_
        refine q_getR C dX6_loadFrom_34 (n := 37) rfl f_X6_37 h0.1 (hF _ _ _ h0.2.2.2.2.2.2.2.2.2.2.2.2.2.2.2.2.2.2.2.2.2.2.1) ?_
        refine q_getR C dX6_loadFrom_37 (n := 40) rfl f_X6_265 h0.2.2.2.2.2.2.2.2.2.2.2.2.2.2.2.2.2.2.2.2.2.2.2.1.1 (hF _ _ _ h0.2.2.2.2.2.2.2.2.2.2.2.2.2.2.2.2.2.2.2.2.2.2.2.1.2.2.2.2.1) ?_
        refine q_iload_n C dX6_loadFrom_40 (n := 41) rfl rfl ?_
        have g22 := zI.at hI10 (h0.2.2.2.2.2.2.2.2.2.2.2.2.2.2.2.2.2.2.2.2.2.2.2.1.2.2.2.2.2.2.1 u7)
        refine q_iald C dX6_loadFrom_41 (n := 42) rfl h0.2.2.2.2.2.2.2.2.2.2.2.2.2.2.2.2.2.2.2.2.2.2.2.1.2.2.2.2.2.1 (by omega) (v := M8 (a + 9 + 2) u7) rfl ?_
        refine q_callVv C dX6_loadFrom_42 (n := 45) rfl m_X6_285 v_yX0_load h0.2.2.2.2.2.2.2.2.2.2.2.2.2.2.2.2.2.2.2.1.1 ⟨by decide, rfl⟩ (c_X0_load (w := w) (J := J9) hI10 hF h0.2.2.2.2.2.2.2.2.2.2.2.2.2.2.2.2.2.2.2.1 (M8 (a + 9 + 1) u7) (M8 (a + 9 + 2) u7) (by omega) (by omega)) (Nat.le_of_ble_eq_true rfl) rfl rfl (Nat.le_of_ble_eq_true rfl) ⟨Nat.le_refl _, Nat.le_refl _⟩ (fun M23 J24  hI25 h26 => ?_)
        have hK28 := hK11.tr h26 (by decide)
        refine q_iinc C [.ref (w.2.1 + a), .null, zi (u7 + 1)] dX6_loadFrom_45 (n := 48) rfl rfl rfl rfl ?_
        refine q_goto C 9 dX6_loadFrom_48 rfl ?_
        exact zK.weak (ih16 (u7 + 1) M23 J24 hI25 hK28 (by omega) (by omega) (by omega)) (zwk_c (zwk_n (zwk_c zwk_e)))
  exact zK.weak (L_14 _ v1 M1 J2 hI3 hK6 (by omega) (by omega) (Int.self_le_toNat _)) (zwk_c (zwk_n (zwk_c zwk_e)))
theorem c_X6_refuse {w : zWp} {T : zTl} {M : zMm} {J : zJm} {R : zRm'} {G : zGt} {F : zRm'} {a L : Nat} (hI : zI G M) (hF : zF F R) (h0 : zRunner T F G a L) (v1 : Int) (v2 : Int) (p1 : 0 ≤ v1 ∧ v1 ≤ 11) (p2 : 0 ≤ v2 ∧ v2 ≤ 1000) : zCt w 2 0 0 yX6_refuse cX6_refuse 3 none [.ref (w.2.1 + a), zi v1, zi v2] (T, M, J, R) (zPv T R G (fun M2 => (zKp G 1 M M2))) := by
  refine zCt.of rfl (Nat.le_of_ble_eq_true rfl) ?_
  intro p e s m args below meth c C
  obtain ⟨Po, hPo⟩ : ∃ Po, Po = zPv T R G (fun M2 => (zKp G 1 M M2)) := ⟨_, rfl⟩
  rw [← hPo]
  have hK0 : zKp G 1 M M := zKp.rf
  show zK w p e 2 0 0 s m args below meth c 3 T Po 0 [.ref (w.2.1 + a), zi v1, zi v2] [] (T, M, J, R)
  refine q_aload_n C dX6_refuse_0 (n := 1) rfl rfl ?_
  refine q_getR C dX6_refuse_1 (n := 4) rfl f_X6_12 h0.1 (hF _ _ _ h0.2.2.2.1) ?_
  refine q_iload_n C dX6_refuse_4 (n := 5) rfl rfl ?_
  refine q_iload_n C dX6_refuse_5 (n := 6) rfl rfl ?_
  refine q_aload_n C dX6_refuse_6 (n := 7) rfl rfl ?_
  refine q_getR C dX6_refuse_7 (n := 10) rfl f_X6_37 h0.1 (hF _ _ _ h0.2.2.2.2.2.2.2.2.2.2.2.2.2.2.2.2.2.2.2.2.2.2.1) ?_
  have g1 := zI.at hI h0.2.2.2.2.2.2.2.2.2.2.2.2.2.2.2.2.2.2.2.2.2.2.2.1.2.2.2.2.2.2.2.2.2.2
  refine q_getI C dX6_refuse_10 (n := 13) rfl f_X6_103 h0.2.2.2.2.2.2.2.2.2.2.2.2.2.2.2.2.2.2.2.2.2.2.2.1.1 (v := M (a + 9) 3) rfl ?_
  have J_5 : ∀ (u2 : Int), (-2147483648 ≤ u2 ∧ u2 ≤ 2147483647) → (-2147483648 ≤ u2 ∧ u2 ≤ 2147483647) → zK w p e 2 0 0 s m args below meth c 3 T Po 32 [.null, .null, .null] [zi u2, zi v1, .ref (w.2.1 + (a + 1))] (T, M, J, R) := by
    intro u2 h3 h4
    refine q_callVv C dX6_refuse_32 (n := 35) rfl m_X6_180 v_yX1_meet h0.2.2.2.2.1.1 ⟨by decide, rfl⟩ (c_X1_meet (w := w) (J := J) hI hF h0.2.2.2.2.1 v1 u2 (by omega) (by omega)) (Nat.le_of_ble_eq_true rfl) rfl rfl (Nat.le_of_ble_eq_true rfl) ⟨Nat.le_refl _, Nat.le_refl _⟩ (fun M6 J7  hI8 h9 => ?_)
    have hK11 := hK0.tr h9 (by decide)
    exact q_vret C dX6_refuse_35 ⟨rfl, rfl⟩ (by rw [hPo]; exact ⟨M6, J7, rfl, rfl, hI8, hK11⟩)
  refine q_icmp_ge C 28 dX6_refuse_13 (n := 16) rfl rfl (by omega) (fun h12 => ?_) (fun h12 => ?_)
  · refine q_aload_n C dX6_refuse_28 (n := 29) rfl rfl ?_
    have g13 := zI.at hI h0.2.2.2.2.2.2.2.2.2.2.2.2.2.2.2.2.2.2.2.2.2.2.2.2.2.2.2.2.2.2.2.2.2.2.2.2.2.2.2.2.2.2.2.2
    refine q_getI C dX6_refuse_29 (n := 32) rfl f_X6_65 h0.1 (v := M a 19) rfl ?_
    exact zK.weak (J_5 (M a 19) (by omega) (by omega)) (zwk_n (zwk_n (zwk_n zwk_e)))
  · refine q_aload_n C dX6_refuse_16 (n := 17) rfl rfl ?_
    refine q_getR C dX6_refuse_17 (n := 20) rfl f_X6_37 h0.1 (hF _ _ _ h0.2.2.2.2.2.2.2.2.2.2.2.2.2.2.2.2.2.2.2.2.2.2.1) ?_
    refine q_getR C dX6_refuse_20 (n := 23) rfl f_X6_265 h0.2.2.2.2.2.2.2.2.2.2.2.2.2.2.2.2.2.2.2.2.2.2.2.1.1 (hF _ _ _ h0.2.2.2.2.2.2.2.2.2.2.2.2.2.2.2.2.2.2.2.2.2.2.2.1.2.2.2.2.1) ?_
    refine q_iload_n C dX6_refuse_23 (n := 24) rfl rfl ?_
    have g14 := zI.at hI (h0.2.2.2.2.2.2.2.2.2.2.2.2.2.2.2.2.2.2.2.2.2.2.2.1.2.2.2.2.2.2.1 v2)
    refine q_iald C dX6_refuse_24 (n := 25) rfl h0.2.2.2.2.2.2.2.2.2.2.2.2.2.2.2.2.2.2.2.2.2.2.2.1.2.2.2.2.2.1 (by omega) (v := M (a + 9 + 2) v2) rfl ?_
    refine q_goto C 32 dX6_refuse_25 rfl ?_
    exact zK.weak (J_5 (M (a + 9 + 2) v2) (by omega) (by omega)) (zwk_n (zwk_n (zwk_n zwk_e)))
theorem c_X6_isNameAlone {w : zWp} {T : zTl} {M : zMm} {J : zJm} {R : zRm'} {G : zGt} {F : zRm'} {a L : Nat} (hI : zI G M) (hF : zF F R) (h0 : zRunner T F G a L) : zCt w 3 0 0 yX6_isNameAlone cX6_isNameAlone 1 (some .boolean) [.ref (w.2.1 + a)] (T, M, J, R) (zPi T R G (fun x M2 => (zKp G 1 M M2) ∧ (x = 0 ∨ x = 1))) := by
  refine zCt.of rfl (Nat.le_of_ble_eq_true rfl) ?_
  intro p e s m args below meth c C
  obtain ⟨Po, hPo⟩ : ∃ Po, Po = zPi T R G (fun x M2 => (zKp G 1 M M2) ∧ (x = 0 ∨ x = 1)) := ⟨_, rfl⟩
  rw [← hPo]
  have hK0 : zKp G 1 M M := zKp.rf
  show zK w p e 3 0 0 s m args below meth c 1 T Po 0 [.ref (w.2.1 + a)] [] (T, M, J, R)
  refine q_aload_n C dX6_isNameAlone_0 (n := 1) rfl rfl ?_
  refine q_iconst C dX6_isNameAlone_1 (n := 2) rfl ?_
  refine q_callVp C dX6_isNameAlone_2 (n := 5) rfl m_X6_274 v_yX6_isName h0.1 ⟨by decide, rfl⟩ (c_X6_isName (w := w) (J := J) hI hF h0 2 (by omega)) (Nat.le_of_ble_eq_true rfl) rfl rfl (Nat.le_of_ble_eq_true rfl) ⟨Nat.le_refl _, Nat.le_refl _⟩ (fun x3 h4 => ?_)
  obtain ⟨h1, h2⟩ := h4
  have J_9 : ∀ (M5 : zMm) (J6 : zJm), zI G M5 → zKp G 1 M M5 → zK w p e 3 0 0 s m args below meth c 1 T Po 34 [.ref (w.2.1 + a)] [] (T, M5, J6, R) := by
    intro M5 J6 hI7 hK8
    refine q_aload_n C dX6_isNameAlone_34 (n := 35) rfl rfl ?_
    refine q_getR C dX6_isNameAlone_35 (n := 38) rfl f_X6_12 h0.1 (hF _ _ _ h0.2.2.2.1) ?_
    have g10 := zI.at hI7 h0.2.2.2.2.1.2.1
    refine q_getI C dX6_isNameAlone_38 (n := 41) rfl f_X6_155 h0.2.2.2.2.1.1 (v := M5 (a + 1) 0) rfl ?_
    refine q_if_ne C 48 dX6_isNameAlone_41 (n := 44) rfl rfl (by omega) (fun h11 => ?_) (fun h11 => ?_)
    · refine q_iconst C dX6_isNameAlone_48 (n := 49) rfl ?_
      exact q_zret C dX6_isNameAlone_49 ⟨rfl, rfl⟩ (by omega) (by rw [hPo]; exact ⟨0, M5, J6, rfl, rfl, hI7, hK8, by omega⟩)
    · refine q_iconst C dX6_isNameAlone_44 (n := 45) rfl ?_
      refine q_goto C 49 dX6_isNameAlone_45 rfl ?_
      exact q_zret C dX6_isNameAlone_49 ⟨rfl, rfl⟩ (by omega) (by rw [hPo]; exact ⟨1, M5, J6, rfl, rfl, hI7, hK8, by omega⟩)
  refine q_if_ne C 17 dX6_isNameAlone_5 (n := 8) rfl rfl (by omega) (fun h12 => ?_) (fun h12 => ?_)
  · refine q_aload_n C dX6_isNameAlone_17 (n := 18) rfl rfl ?_
    refine q_getR C dX6_isNameAlone_18 (n := 21) rfl f_X6_37 h0.1 (hF _ _ _ h0.2.2.2.2.2.2.2.2.2.2.2.2.2.2.2.2.2.2.2.2.2.2.1) ?_
    have g13 := zI.at hI h0.2.2.2.2.2.2.2.2.2.2.2.2.2.2.2.2.2.2.2.2.2.2.2.1.2.2.2.2.2.2.2.2.2.2
    refine q_getI C dX6_isNameAlone_21 (n := 24) rfl f_X6_103 h0.2.2.2.2.2.2.2.2.2.2.2.2.2.2.2.2.2.2.2.2.2.2.2.1.1 (v := M (a + 9) 3) rfl ?_
    refine q_iconst C dX6_isNameAlone_24 (n := 25) rfl ?_
    refine q_icmp_le C 34 dX6_isNameAlone_25 (n := 28) rfl rfl (by omega) (fun h14 => ?_) (fun h14 => ?_)
    · exact zK.weak (J_9 M J hI hK0) (zwk_c zwk_e)
    · refine q_aload_n C dX6_isNameAlone_28 (n := 29) rfl rfl ?_
      refine q_iconst C dX6_isNameAlone_29 (n := 30) rfl ?_
      refine q_iconst C dX6_isNameAlone_30 (n := 31) rfl ?_
      refine q_callVv C dX6_isNameAlone_31 (n := 34) rfl m_X6_331 v_yX6_refuse h0.1 ⟨by decide, rfl⟩ (c_X6_refuse (w := w) (J := J) hI hF h0 2 3 (by omega) (by omega)) (Nat.le_of_ble_eq_true rfl) rfl rfl (Nat.le_of_ble_eq_true rfl) ⟨Nat.le_refl _, Nat.le_refl _⟩ (fun M15 J16  hI17 h18 => ?_)
      have hK20 := hK0.tr h18 (by decide)
      exact zK.weak (J_9 M15 J16 hI17 hK20) (zwk_c zwk_e)
  · refine q_aload_n C dX6_isNameAlone_8 (n := 9) rfl rfl ?_
    refine q_iconst C dX6_isNameAlone_9 (n := 10) rfl ?_
    refine q_iconst C dX6_isNameAlone_10 (n := 11) rfl ?_
    refine q_callVv C dX6_isNameAlone_11 (n := 14) rfl m_X6_331 v_yX6_refuse h0.1 ⟨by decide, rfl⟩ (c_X6_refuse (w := w) (J := J) hI hF h0 2 2 (by omega) (by omega)) (Nat.le_of_ble_eq_true rfl) rfl rfl (Nat.le_of_ble_eq_true rfl) ⟨Nat.le_refl _, Nat.le_refl _⟩ (fun M21 J22  hI23 h24 => ?_)
    have hK26 := hK0.tr h24 (by decide)
    refine q_goto C 34 dX6_isNameAlone_14 rfl ?_
    exact zK.weak (J_9 M21 J22 hI23 hK26) (zwk_c zwk_e)
theorem c_X6_undefine {w : zWp} {T : zTl} {M : zMm} {J : zJm} {R : zRm'} {G : zGt} {F : zRm'} {a L : Nat} (hI : zI G M) (hF : zF F R) (h0 : zRunner T F G a L) (p1 : L ≤ 1000000) : zCt w 4 0 0 yX6_undefine cX6_undefine 2 none [.ref (w.2.1 + a)] (T, M, J, R) (zPv T R G (fun M2 => (zKp G 1 M M2))) := by
  refine zCt.of rfl (Nat.le_of_ble_eq_true rfl) ?_
  intro p e s m args below meth c C
  obtain ⟨Po, hPo⟩ : ∃ Po, Po = zPv T R G (fun M2 => (zKp G 1 M M2)) := ⟨_, rfl⟩
  rw [← hPo]
  have hK0 : zKp G 1 M M := zKp.rf
  show zK w p e 4 0 0 s m args below meth c 2 T Po 0 [.ref (w.2.1 + a), .null] [] (T, M, J, R)
  refine q_aload_n C dX6_undefine_0 (n := 1) rfl rfl ?_
  refine q_callVi C dX6_undefine_1 (n := 4) rfl m_X6_334 v_yX6_isNameAlone h0.1 ⟨by decide, rfl⟩ (c_X6_isNameAlone (w := w) (J := J) hI hF h0) (Nat.le_of_ble_eq_true rfl) rfl rfl (Nat.le_of_ble_eq_true rfl) ⟨Nat.le_refl _, Nat.le_refl _⟩ (fun x6 M2 J3  hI4 h5 => ?_)
  obtain ⟨hk7, h1⟩ := h5
  have hK8 := hK0.tr hk7 (by decide)
  refine q_if_eq C 51 dX6_undefine_4 (n := 7) rfl rfl (by omega) (fun h9 => ?_) (fun h9 => ?_)
  · exact q_vret C dX6_undefine_51 ⟨rfl, rfl⟩ (by rw [hPo]; exact ⟨M2, J3, rfl, rfl, hI4, hK8⟩)
  · refine q_aload_n C dX6_undefine_7 (n := 8) rfl rfl ?_
    refine q_getR C dX6_undefine_8 (n := 11) rfl f_X6_80 h0.1 (hF _ _ _ h0.2.2.2.2.2.1) ?_
    refine q_aload_n C dX6_undefine_11 (n := 12) rfl rfl ?_
    refine q_getR C dX6_undefine_12 (n := 15) rfl f_X6_37 h0.1 (hF _ _ _ h0.2.2.2.2.2.2.2.2.2.2.2.2.2.2.2.2.2.2.2.2.2.2.1) ?_
    refine q_getR C dX6_undefine_15 (n := 18) rfl f_X6_262 h0.2.2.2.2.2.2.2.2.2.2.2.2.2.2.2.2.2.2.2.2.2.2.2.1.1 (hF _ _ _ h0.2.2.2.2.2.2.2.2.2.2.2.2.2.2.2.2.2.2.2.2.2.2.2.1.2.1) ?_
    refine q_iconst C dX6_undefine_18 (n := 19) rfl ?_
    have g10 := zI.at hI (h0.2.2.2.2.2.2.2.2.2.2.2.2.2.2.2.2.2.2.2.2.2.2.2.1.2.2.2.1 2)
    have g11 : M (a + 9 + 1) 2 + zand (M (a + 9 + 2) 2) 31 ≤ (L : Int) ∧ zand (M (a + 9 + 2) 2) 31 ≤ 30 := zI.row hI (h0.2.2.2.2.2.2.2.2.2.2.2.2.2.2.2.2.2.2.2.2.2.2.2.1.2.2.2.1 2)
    refine q_iald C dX6_undefine_19 (n := 20) rfl h0.2.2.2.2.2.2.2.2.2.2.2.2.2.2.2.2.2.2.2.2.2.2.2.1.2.2.1 (by omega) (v := M (a + 9 + 1) 2) (hk7 _ _ (zle_t (h0.2.2.2.2.2.2.2.2.2.2.2.2.2.2.2.2.2.2.2.2.2.2.2.1.2.2.2.1 2) (by decide))) ?_
    refine q_aload_n C dX6_undefine_20 (n := 21) rfl rfl ?_
    refine q_getR C dX6_undefine_21 (n := 24) rfl f_X6_37 h0.1 (hF _ _ _ h0.2.2.2.2.2.2.2.2.2.2.2.2.2.2.2.2.2.2.2.2.2.2.1) ?_
    refine q_getR C dX6_undefine_24 (n := 27) rfl f_X6_265 h0.2.2.2.2.2.2.2.2.2.2.2.2.2.2.2.2.2.2.2.2.2.2.2.1.1 (hF _ _ _ h0.2.2.2.2.2.2.2.2.2.2.2.2.2.2.2.2.2.2.2.2.2.2.2.1.2.2.2.2.1) ?_
    refine q_iconst C dX6_undefine_27 (n := 28) rfl ?_
    have g12 := zI.at hI (h0.2.2.2.2.2.2.2.2.2.2.2.2.2.2.2.2.2.2.2.2.2.2.2.1.2.2.2.2.2.2.1 2)
    refine q_iald C dX6_undefine_28 (n := 29) rfl h0.2.2.2.2.2.2.2.2.2.2.2.2.2.2.2.2.2.2.2.2.2.2.2.1.2.2.2.2.2.1 (by omega) (v := M (a + 9 + 2) 2) (hk7 _ _ (zle_t (h0.2.2.2.2.2.2.2.2.2.2.2.2.2.2.2.2.2.2.2.2.2.2.2.1.2.2.2.2.2.2.1 2) (by decide))) ?_
    refine q_callSp C dX6_undefine_29 (n := 32) rfl m_X6_277 s_yX5_lengthOf (c_X5_lengthOf (w := w) (J := J3) hI4 hF (M (a + 9 + 2) 2)) (Nat.le_of_ble_eq_true rfl) rfl rfl (Nat.le_of_ble_eq_true rfl) ⟨Nat.le_refl _, Nat.le_refl _⟩ (fun x15 h16 => ?_)
    obtain ⟨h13, h14⟩ := h16
    refine q_callVp C dX6_undefine_32 (n := 35) rfl m_X6_337 v_yX3_standing h0.2.2.2.2.2.2.1.1 ⟨by decide, rfl⟩ (c_X3_standing (w := w) (J := J3) hI4 hF h0.2.2.2.2.2.2.1 (M (a + 9 + 1) 2) x15 (by omega) (by omega) (by omega)) (Nat.le_of_ble_eq_true rfl) rfl rfl (Nat.le_of_ble_eq_true rfl) ⟨Nat.le_refl _, Nat.le_refl _⟩ (fun x18 h19 => ?_)
    refine q_istore_n C [.ref (w.2.1 + a), zi x18] dX6_undefine_35 (n := 36) rfl rfl rfl ?_
    refine q_iload_n C dX6_undefine_36 (n := 37) rfl rfl ?_
    refine q_iconst C dX6_undefine_37 (n := 38) rfl ?_
    refine q_icmp_eq C 51 dX6_undefine_38 (n := 41) rfl rfl (by omega) (fun h20 => ?_) (fun h20 => ?_)
    · exact q_vret C dX6_undefine_51 ⟨rfl, rfl⟩ (by rw [hPo]; exact ⟨M2, J3, rfl, rfl, hI4, hK8⟩)
    · refine q_aload_n C dX6_undefine_41 (n := 42) rfl rfl ?_
      refine q_getR C dX6_undefine_42 (n := 45) rfl f_X6_80 h0.1 (hF _ _ _ h0.2.2.2.2.2.1) ?_
      refine q_getR C dX6_undefine_45 (n := 48) rfl f_X6_340 h0.2.2.2.2.2.2.1.1 (hF _ _ _ h0.2.2.2.2.2.2.1.2.2.2.2.2.2.2.2.1) ?_
      refine q_iload_n C dX6_undefine_48 (n := 49) rfl rfl ?_
      refine q_iconst C dX6_undefine_49 (n := 50) rfl ?_
      refine q_zast C dX6_undefine_50 (n := 51) rfl h0.2.2.2.2.2.2.1.2.2.2.2.2.2.2.2.2.1 (by omega) (by omega) (fun M21 e22 => ?_)
      have hI23 : zI G M21 := hI4.put e22 (h0.2.2.2.2.2.2.1.2.2.2.2.2.2.2.2.2.2.1 x18) rfl (by omega)
      have hK24 := hK8.put e22 (h0.2.2.2.2.2.2.1.2.2.2.2.2.2.2.2.2.2.1 x18) (by decide)
      exact q_vret C dX6_undefine_51 ⟨rfl, rfl⟩ (by rw [hPo]; exact ⟨M21, J3, rfl, rfl, hI23, hK24⟩)
theorem c_X6_decide {w : zWp} {T : zTl} {M : zMm} {J : zJm} {R : zRm'} {G : zGt} {F : zRm'} {a L : Nat} (hI : zI G M) (hF : zF F R) (h0 : zRunner T F G a L) (v1 : Int) (v2 : Int) (v3 : Int) (p1 : -2147483648 ≤ v1 ∧ v1 ≤ 2147483647) (p2 : v2 = 0 ∨ v2 = 1) (p3 : -2147483648 ≤ v3 ∧ v3 ≤ 2147483647) : zCt w 2 0 0 yX6_decide cX6_decide 5 none [.ref (w.2.1 + a), zi v1, zi v2, zi v3] (T, M, J, R) (zPv T R G (fun M2 => (zKp G 13 M M2))) := by
  refine zCt.of rfl (Nat.le_of_ble_eq_true rfl) ?_
  intro p e s m args below meth c C
  obtain ⟨Po, hPo⟩ : ∃ Po, Po = zPv T R G (fun M2 => (zKp G 13 M M2)) := ⟨_, rfl⟩
  rw [← hPo]
  have hK0 : zKp G 13 M M := zKp.rf
  show zK w p e 2 0 0 s m args below meth c 5 T Po 0 [.ref (w.2.1 + a), zi v1, zi v2, zi v3, .null] [] (T, M, J, R)
  refine q_aload_n C dX6_decide_0 (n := 1) rfl rfl ?_
  refine q_getR C dX6_decide_1 (n := 4) rfl f_X6_12 h0.1 (hF _ _ _ h0.2.2.2.1) ?_
  have g1 := zI.at hI h0.2.2.2.2.1.2.1
  refine q_getI C dX6_decide_4 (n := 7) rfl f_X6_155 h0.2.2.2.2.1.1 (v := M (a + 1) 0) rfl ?_
  refine q_if_eq C 11 dX6_decide_7 (n := 10) rfl rfl (by omega) (fun h2 => ?_) (fun h2 => ?_)
  · refine q_aload_n C dX6_decide_11 (n := 12) rfl rfl ?_
    refine q_getR C dX6_decide_12 (n := 15) rfl f_X6_27 h0.1 (hF _ _ _ h0.2.2.2.2.2.2.2.2.2.1) ?_
    refine q_bipush C dX6_decide_15 (n := 17) rfl (x := 9) (by decide) ?_
    refine q_dup2 C dX6_decide_17 (n := 18) rfl ⟨rfl, rfl⟩ ?_
    have g3 := zI.at hI (h0.2.2.2.2.2.2.2.2.2.2.2.1 9)
    refine q_iald C dX6_decide_18 (n := 19) rfl h0.2.2.2.2.2.2.2.2.2.2.1 (by omega) (v := M (a + 6) 9) rfl ?_
    refine q_iconst C dX6_decide_19 (n := 20) rfl ?_
    refine q_iadd C dX6_decide_20 (n := 21) rfl (v := (M (a + 6) 9) + 1) rfl ?_
    refine q_wrap C ?_
    have g4 := zr_wr ((M (a + 6) 9) + 1)
    refine q_iast C dX6_decide_21 (n := 22) rfl h0.2.2.2.2.2.2.2.2.2.2.1 (by omega)  (fun M5 e6 => ?_)
    have hI7 : zI G M5 := hI.put e6 (h0.2.2.2.2.2.2.2.2.2.2.2.1 9) rfl (by omega)
    have hK8 := hK0.put e6 (h0.2.2.2.2.2.2.2.2.2.2.2.1 9) (by decide)
    refine q_bipush C dX6_decide_22 (n := 24) rfl (x := 8) (by decide) ?_
    refine q_iload_n C dX6_decide_24 (n := 25) rfl rfl ?_
    have J_11 : ∀ (u9 : Int), (-2147483648 ≤ u9 ∧ u9 ≤ 2147483647) → zK w p e 2 0 0 s m args below meth c 5 T Po 33 [.ref (w.2.1 + a), zi v1, .null, zi v3, .null] [zi u9, zi 8] (T, M5, J, R) := by
      intro u9 h10
      refine q_ior C dX6_decide_33 (n := 34) rfl (v := zor 8 u9) rfl ?_
      have g12 := zr_or 8 u9
      refine q_istore C [.ref (w.2.1 + a), zi v1, .null, zi v3, zi (zor 8 u9)] dX6_decide_34 (n := 36) rfl rfl rfl ?_
      refine q_iload_n C dX6_decide_36 (n := 37) rfl rfl ?_
      refine q_iconst C dX6_decide_37 (n := 38) rfl ?_
      refine q_icmp_ne C 51 dX6_decide_38 (n := 41) rfl rfl (by omega) (fun h13 => ?_) (fun h13 => ?_)
      · refine q_aload_n C dX6_decide_51 (n := 52) rfl rfl ?_
        have g14 := zI.at hI h0.2.2.2.2.2.2.2.2.2.2.2.2.2.2.2.2.2.2.2.2.2.2.2.2.2.2.2.2.2.2.2.2.2.2.2.2.2.2.2.2.2.2.2.1
        refine q_getI C dX6_decide_52 (n := 55) rfl f_X6_62 h0.1 (v := M a 18) (zup_p e6 (by omega) _) ?_
        refine q_if_le C 71 dX6_decide_55 (n := 58) rfl rfl (by omega) (fun h15 => ?_) (fun h15 => ?_)
        · exact q_vret C dX6_decide_71 ⟨rfl, rfl⟩ (by rw [hPo]; exact ⟨M5, J, rfl, rfl, hI7, hK8⟩)
        · refine q_aload_n C dX6_decide_58 (n := 59) rfl rfl ?_
          refine q_getR C dX6_decide_59 (n := 62) rfl f_X6_59 h0.1 (hF _ _ _ h0.2.2.2.2.2.2.2.2.2.2.2.2.2.2.2.2.2.2.2.2.2.2.2.2.2.2.2.2.2.2.2.2.2.2.2.2.2.2.2.2.1) ?_
          refine q_aload_n C dX6_decide_62 (n := 63) rfl rfl ?_
          refine q_getI C dX6_decide_63 (n := 66) rfl f_X6_62 h0.1 (v := M a 18) (zup_p e6 (by omega) _) ?_
          refine q_iconst C dX6_decide_66 (n := 67) rfl ?_
          refine q_isub C dX6_decide_67 (n := 68) rfl (v := (M a 18) - 1) rfl ?_
          refine q_iload C dX6_decide_68 (n := 70) rfl rfl ?_
          refine q_iast C dX6_decide_70 (n := 71) rfl h0.2.2.2.2.2.2.2.2.2.2.2.2.2.2.2.2.2.2.2.2.2.2.2.2.2.2.2.2.2.2.2.2.2.2.2.2.2.2.2.2.2.1 (by omega)  (fun M16 e17 => ?_)
          have hI18 : zI G M16 := hI7.put e17 (h0.2.2.2.2.2.2.2.2.2.2.2.2.2.2.2.2.2.2.2.2.2.2.2.2.2.2.2.2.2.2.2.2.2.2.2.2.2.2.2.2.2.2.1 ((M a 18) - 1)) rfl (by omega)
          have hK19 := hK8.put e17 (h0.2.2.2.2.2.2.2.2.2.2.2.2.2.2.2.2.2.2.2.2.2.2.2.2.2.2.2.2.2.2.2.2.2.2.2.2.2.2.2.2.2.2.1 ((M a 18) - 1)) (by decide)
          exact q_vret C dX6_decide_71 ⟨rfl, rfl⟩ (by rw [hPo]; exact ⟨M16, J, rfl, rfl, hI18, hK19⟩)
      · refine q_aload_n C dX6_decide_41 (n := 42) rfl rfl ?_
        refine q_iload C dX6_decide_42 (n := 44) rfl rfl ?_
        refine q_iload_n C dX6_decide_44 (n := 45) rfl rfl ?_
        refine q_callVv C dX6_decide_45 (n := 48) rfl m_X6_222 v_yX6_openGroup h0.1 ⟨by decide, rfl⟩ (c_X6_openGroup (w := w) (J := J) hI7 hF h0 (zor 8 u9) v3 (by omega) (by omega)) (Nat.le_of_ble_eq_true rfl) rfl rfl (Nat.le_of_ble_eq_true rfl) ⟨Nat.le_refl _, Nat.le_refl _⟩ (fun M20 J21  hI22 h23 => ?_)
        have hK25 := hK8.tr h23 (by decide)
        refine q_goto C 71 dX6_decide_48 rfl ?_
        exact q_vret C dX6_decide_71 ⟨rfl, rfl⟩ (by rw [hPo]; exact ⟨M20, J21, rfl, rfl, hI22, hK25⟩)
    refine q_if_eq C 32 dX6_decide_25 (n := 28) rfl rfl (by omega) (fun h26 => ?_) (fun h26 => ?_)
    · refine q_iconst C dX6_decide_32 (n := 33) rfl ?_
      exact zK.weak (J_11 0 (by omega)) (zwk_c (zwk_c (zwk_n (zwk_c (zwk_n zwk_e)))))
    · refine q_iconst C dX6_decide_28 (n := 29) rfl ?_
      refine q_goto C 33 dX6_decide_29 rfl ?_
      exact zK.weak (J_11 3 (by omega)) (zwk_c (zwk_c (zwk_n (zwk_c (zwk_n zwk_e)))))
  · exact q_vret C dX6_decide_10 ⟨rfl, rfl⟩ (by rw [hPo]; exact ⟨M, J, rfl, rfl, hI, hK0⟩)
theorem c_X6_openByName {w : zWp} {T : zTl} {M : zMm} {J : zJm} {R : zRm'} {G : zGt} {F : zRm'} {a L : Nat} (hI : zI G M) (hF : zF F R) (h0 : zRunner T F G a L) (v1 : Int) (v2 : Int) (p1 : L ≤ 1000000) (p2 : v1 = 0 ∨ v1 = 1) (p3 : -2147483648 ≤ v2 ∧ v2 ≤ 2147483647) : zCt w 4 0 0 yX6_openByName cX6_openByName 4 none [.ref (w.2.1 + a), zi v1, zi v2] (T, M, J, R) (zPv T R G (fun M2 => (zKp G 13 M M2))) := by
  refine zCt.of rfl (Nat.le_of_ble_eq_true rfl) ?_
  intro p e s m args below meth c C
  obtain ⟨Po, hPo⟩ : ∃ Po, Po = zPv T R G (fun M2 => (zKp G 13 M M2)) := ⟨_, rfl⟩
  rw [← hPo]
  have hK0 : zKp G 13 M M := zKp.rf
  show zK w p e 4 0 0 s m args below meth c 4 T Po 0 [.ref (w.2.1 + a), zi v1, zi v2, .null] [] (T, M, J, R)
  refine q_aload_n C dX6_openByName_0 (n := 1) rfl rfl ?_
  refine q_callVi C dX6_openByName_1 (n := 4) rfl m_X6_334 v_yX6_isNameAlone h0.1 ⟨by decide, rfl⟩ (c_X6_isNameAlone (w := w) (J := J) hI hF h0) (Nat.le_of_ble_eq_true rfl) rfl rfl (Nat.le_of_ble_eq_true rfl) ⟨Nat.le_refl _, Nat.le_refl _⟩ (fun x6 M2 J3  hI4 h5 => ?_)
  obtain ⟨hk7, h1⟩ := h5
  have hK8 := hK0.tr hk7 (by decide)
  refine q_if_eq C 61 dX6_openByName_4 (n := 7) rfl rfl (by omega) (fun h9 => ?_) (fun h9 => ?_)
  · exact q_vret C dX6_openByName_61 ⟨rfl, rfl⟩ (by rw [hPo]; exact ⟨M2, J3, rfl, rfl, hI4, hK8⟩)
  · refine q_aload_n C dX6_openByName_7 (n := 8) rfl rfl ?_
    refine q_getR C dX6_openByName_8 (n := 11) rfl f_X6_80 h0.1 (hF _ _ _ h0.2.2.2.2.2.1) ?_
    refine q_aload_n C dX6_openByName_11 (n := 12) rfl rfl ?_
    refine q_getR C dX6_openByName_12 (n := 15) rfl f_X6_37 h0.1 (hF _ _ _ h0.2.2.2.2.2.2.2.2.2.2.2.2.2.2.2.2.2.2.2.2.2.2.1) ?_
    refine q_getR C dX6_openByName_15 (n := 18) rfl f_X6_262 h0.2.2.2.2.2.2.2.2.2.2.2.2.2.2.2.2.2.2.2.2.2.2.2.1.1 (hF _ _ _ h0.2.2.2.2.2.2.2.2.2.2.2.2.2.2.2.2.2.2.2.2.2.2.2.1.2.1) ?_
    refine q_iconst C dX6_openByName_18 (n := 19) rfl ?_
    have g10 := zI.at hI (h0.2.2.2.2.2.2.2.2.2.2.2.2.2.2.2.2.2.2.2.2.2.2.2.1.2.2.2.1 2)
    have g11 : M (a + 9 + 1) 2 + zand (M (a + 9 + 2) 2) 31 ≤ (L : Int) ∧ zand (M (a + 9 + 2) 2) 31 ≤ 30 := zI.row hI (h0.2.2.2.2.2.2.2.2.2.2.2.2.2.2.2.2.2.2.2.2.2.2.2.1.2.2.2.1 2)
    refine q_iald C dX6_openByName_19 (n := 20) rfl h0.2.2.2.2.2.2.2.2.2.2.2.2.2.2.2.2.2.2.2.2.2.2.2.1.2.2.1 (by omega) (v := M (a + 9 + 1) 2) (hk7 _ _ (zle_t (h0.2.2.2.2.2.2.2.2.2.2.2.2.2.2.2.2.2.2.2.2.2.2.2.1.2.2.2.1 2) (by decide))) ?_
    refine q_aload_n C dX6_openByName_20 (n := 21) rfl rfl ?_
    refine q_getR C dX6_openByName_21 (n := 24) rfl f_X6_37 h0.1 (hF _ _ _ h0.2.2.2.2.2.2.2.2.2.2.2.2.2.2.2.2.2.2.2.2.2.2.1) ?_
    refine q_getR C dX6_openByName_24 (n := 27) rfl f_X6_265 h0.2.2.2.2.2.2.2.2.2.2.2.2.2.2.2.2.2.2.2.2.2.2.2.1.1 (hF _ _ _ h0.2.2.2.2.2.2.2.2.2.2.2.2.2.2.2.2.2.2.2.2.2.2.2.1.2.2.2.2.1) ?_
    refine q_iconst C dX6_openByName_27 (n := 28) rfl ?_
    have g12 := zI.at hI (h0.2.2.2.2.2.2.2.2.2.2.2.2.2.2.2.2.2.2.2.2.2.2.2.1.2.2.2.2.2.2.1 2)
    refine q_iald C dX6_openByName_28 (n := 29) rfl h0.2.2.2.2.2.2.2.2.2.2.2.2.2.2.2.2.2.2.2.2.2.2.2.1.2.2.2.2.2.1 (by omega) (v := M (a + 9 + 2) 2) (hk7 _ _ (zle_t (h0.2.2.2.2.2.2.2.2.2.2.2.2.2.2.2.2.2.2.2.2.2.2.2.1.2.2.2.2.2.2.1 2) (by decide))) ?_
    refine q_callSp C dX6_openByName_29 (n := 32) rfl m_X6_277 s_yX5_lengthOf (c_X5_lengthOf (w := w) (J := J3) hI4 hF (M (a + 9 + 2) 2)) (Nat.le_of_ble_eq_true rfl) rfl rfl (Nat.le_of_ble_eq_true rfl) ⟨Nat.le_refl _, Nat.le_refl _⟩ (fun x15 h16 => ?_)
    obtain ⟨h13, h14⟩ := h16
    refine q_callVp C dX6_openByName_32 (n := 35) rfl m_X6_337 v_yX3_standing h0.2.2.2.2.2.2.1.1 ⟨by decide, rfl⟩ (c_X3_standing (w := w) (J := J3) hI4 hF h0.2.2.2.2.2.2.1 (M (a + 9 + 1) 2) x15 (by omega) (by omega) (by omega)) (Nat.le_of_ble_eq_true rfl) rfl rfl (Nat.le_of_ble_eq_true rfl) ⟨Nat.le_refl _, Nat.le_refl _⟩ (fun x18 h19 => ?_)
    refine q_iconst C dX6_openByName_35 (n := 36) rfl ?_
    have J_23 : ∀ (u20 : Int), (-2147483648 ≤ u20 ∧ u20 ≤ 2147483647) → (u20 = 0 ∨ u20 = 1) → zK w p e 4 0 0 s m args below meth c 4 T Po 44 [.ref (w.2.1 + a), zi v1, zi v2, .null] [zi u20] (T, M2, J3, R) := by
      intro u20 h21 h22
      refine q_istore_n C [.ref (w.2.1 + a), zi v1, zi v2, zi u20] dX6_openByName_44 (n := 45) rfl rfl rfl ?_
      refine q_aload_n C dX6_openByName_45 (n := 46) rfl rfl ?_
      refine q_iconst C dX6_openByName_46 (n := 47) rfl ?_
      refine q_iload_n C dX6_openByName_47 (n := 48) rfl rfl ?_
      refine q_iload_n C dX6_openByName_48 (n := 49) rfl rfl ?_
      have J_27 : ∀ (u24 : Int), (-2147483648 ≤ u24 ∧ u24 ≤ 2147483647) → (u24 = 0 ∨ u24 = 1) → zK w p e 4 0 0 s m args below meth c 4 T Po 57 [.null, .null, zi v2, .null] [zi u24, zi 1, .ref (w.2.1 + a)] (T, M2, J3, R) := by
        intro u24 h25 h26
        refine q_iload_n C dX6_openByName_57 (n := 58) rfl rfl ?_
        refine q_callVv C dX6_openByName_58 (n := 61) rfl m_X6_212 v_yX6_decide h0.1 ⟨by decide, rfl⟩ (c_X6_decide (w := w) (J := J3) hI4 hF h0 1 u24 v2 (by omega) (by omega) (by omega)) (Nat.le_of_ble_eq_true rfl) rfl rfl (Nat.le_of_ble_eq_true rfl) ⟨Nat.le_refl _, Nat.le_refl _⟩ (fun M28 J29  hI30 h31 => ?_)
        have hK33 := hK8.tr h31 (by decide)
        exact q_vret C dX6_openByName_61 ⟨rfl, rfl⟩ (by rw [hPo]; exact ⟨M28, J29, rfl, rfl, hI30, hK33⟩)
      refine q_icmp_ne C 56 dX6_openByName_49 (n := 52) rfl rfl (by omega) (fun h34 => ?_) (fun h34 => ?_)
      · refine q_iconst C dX6_openByName_56 (n := 57) rfl ?_
        exact zK.weak (J_27 0 (by omega) (by omega)) (zwk_n (zwk_n (zwk_c (zwk_n zwk_e))))
      · refine q_iconst C dX6_openByName_52 (n := 53) rfl ?_
        refine q_goto C 57 dX6_openByName_53 rfl ?_
        exact zK.weak (J_27 1 (by omega) (by omega)) (zwk_n (zwk_n (zwk_c (zwk_n zwk_e))))
    refine q_icmp_eq C 43 dX6_openByName_36 (n := 39) rfl rfl (by omega) (fun h35 => ?_) (fun h35 => ?_)
    · refine q_iconst C dX6_openByName_43 (n := 44) rfl ?_
      exact zK.weak (J_23 0 (by omega) (by omega)) (zwk_c (zwk_c (zwk_c (zwk_n zwk_e))))
    · refine q_iconst C dX6_openByName_39 (n := 40) rfl ?_
      refine q_goto C 44 dX6_openByName_40 rfl ?_
      exact zK.weak (J_23 1 (by omega) (by omega)) (zwk_c (zwk_c (zwk_c (zwk_n zwk_e))))
theorem c_X6_turn {w : zWp} {T : zTl} {M : zMm} {J : zJm} {R : zRm'} {G : zGt} {F : zRm'} {a L : Nat} (hI : zI G M) (hF : zF F R) (h0 : zRunner T F G a L) (p1 : 0 ≤ M a 15) : zCt w 3 0 0 yX6_turn cX6_turn 1 none [.ref (w.2.1 + a)] (T, M, J, R) (zPv T R G (fun M2 => (zKp G 13 M M2))) := by
  refine zCt.of rfl (Nat.le_of_ble_eq_true rfl) ?_
  intro p e s m args below meth c C
  obtain ⟨Po, hPo⟩ : ∃ Po, Po = zPv T R G (fun M2 => (zKp G 13 M M2)) := ⟨_, rfl⟩
  rw [← hPo]
  have hK0 : zKp G 13 M M := zKp.rf
  show zK w p e 3 0 0 s m args below meth c 1 T Po 0 [.ref (w.2.1 + a)] [] (T, M, J, R)
  refine q_aload_n C dX6_turn_0 (n := 1) rfl rfl ?_
  refine q_getR C dX6_turn_1 (n := 4) rfl f_X6_37 h0.1 (hF _ _ _ h0.2.2.2.2.2.2.2.2.2.2.2.2.2.2.2.2.2.2.2.2.2.2.1) ?_
  have g1 := zI.at hI h0.2.2.2.2.2.2.2.2.2.2.2.2.2.2.2.2.2.2.2.2.2.2.2.1.2.2.2.2.2.2.2.2.2.2
  refine q_getI C dX6_turn_4 (n := 7) rfl f_X6_103 h0.2.2.2.2.2.2.2.2.2.2.2.2.2.2.2.2.2.2.2.2.2.2.2.1.1 (v := M (a + 9) 3) rfl ?_
  refine q_iconst C dX6_turn_7 (n := 8) rfl ?_
  refine q_icmp_le C 20 dX6_turn_8 (n := 11) rfl rfl (by omega) (fun h2 => ?_) (fun h2 => ?_)
  · refine q_aload_n C dX6_turn_20 (n := 21) rfl rfl ?_
    have g3 := zI.at hI h0.2.2.2.2.2.2.2.2.2.2.2.2.2.2.2.2.2.2.2.2.2.2.2.2.2.2.2.2.2.2.2.2.2.2.2.2.2.2.2.2.2.2.2.1
    refine q_getI C dX6_turn_21 (n := 24) rfl f_X6_62 h0.1 (v := M a 18) rfl ?_
    refine q_if_le C 54 dX6_turn_24 (n := 27) rfl rfl (by omega) (fun h4 => ?_) (fun h4 => ?_)
    · exact q_vret C dX6_turn_54 ⟨rfl, rfl⟩ (by rw [hPo]; exact ⟨M, J, rfl, rfl, hI, hK0⟩)
    · refine q_aload_n C dX6_turn_27 (n := 28) rfl rfl ?_
      refine q_getR C dX6_turn_28 (n := 31) rfl f_X6_59 h0.1 (hF _ _ _ h0.2.2.2.2.2.2.2.2.2.2.2.2.2.2.2.2.2.2.2.2.2.2.2.2.2.2.2.2.2.2.2.2.2.2.2.2.2.2.2.2.1) ?_
      refine q_aload_n C dX6_turn_31 (n := 32) rfl rfl ?_
      refine q_getI C dX6_turn_32 (n := 35) rfl f_X6_62 h0.1 (v := M a 18) rfl ?_
      refine q_iconst C dX6_turn_35 (n := 36) rfl ?_
      refine q_isub C dX6_turn_36 (n := 37) rfl (v := (M a 18) - 1) rfl ?_
      refine q_bipush C dX6_turn_37 (n := 39) rfl (x := 14) (by decide) ?_
      refine q_aload_n C dX6_turn_39 (n := 40) rfl rfl ?_
      refine q_iconst C dX6_turn_40 (n := 41) rfl ?_
      refine q_callVp C dX6_turn_41 (n := 44) rfl m_X6_188 v_yX6_topHas h0.1 ⟨by decide, rfl⟩ (c_X6_topHas (w := w) (J := J) hI hF h0 2 (by omega) (by omega)) (Nat.le_of_ble_eq_true rfl) rfl rfl (Nat.le_of_ble_eq_true rfl) ⟨Nat.le_refl _, Nat.le_refl _⟩ (fun x7 h8 => ?_)
      obtain ⟨h5, h6⟩ := h8
      refine q_if_eq C 51 dX6_turn_44 (n := 47) rfl rfl (by omega) (fun h9 => ?_) (fun h9 => ?_)
      · refine q_iconst C dX6_turn_51 (n := 52) rfl ?_
        refine q_ior C dX6_turn_52 (n := 53) rfl (v := 15) (by decide) ?_
        refine q_iast C dX6_turn_53 (n := 54) rfl h0.2.2.2.2.2.2.2.2.2.2.2.2.2.2.2.2.2.2.2.2.2.2.2.2.2.2.2.2.2.2.2.2.2.2.2.2.2.2.2.2.2.1 (by omega)  (fun M10 e11 => ?_)
        have hI12 : zI G M10 := hI.put e11 (h0.2.2.2.2.2.2.2.2.2.2.2.2.2.2.2.2.2.2.2.2.2.2.2.2.2.2.2.2.2.2.2.2.2.2.2.2.2.2.2.2.2.2.1 ((M a 18) - 1)) rfl (by omega)
        have hK13 := hK0.put e11 (h0.2.2.2.2.2.2.2.2.2.2.2.2.2.2.2.2.2.2.2.2.2.2.2.2.2.2.2.2.2.2.2.2.2.2.2.2.2.2.2.2.2.2.1 ((M a 18) - 1)) (by decide)
        exact q_vret C dX6_turn_54 ⟨rfl, rfl⟩ (by rw [hPo]; exact ⟨M10, J, rfl, rfl, hI12, hK13⟩)
      · refine q_iconst C dX6_turn_47 (n := 48) rfl ?_
        refine q_goto C 52 dX6_turn_48 rfl ?_
        refine q_ior C dX6_turn_52 (n := 53) rfl (v := 14) (by decide) ?_
        refine q_iast C dX6_turn_53 (n := 54) rfl h0.2.2.2.2.2.2.2.2.2.2.2.2.2.2.2.2.2.2.2.2.2.2.2.2.2.2.2.2.2.2.2.2.2.2.2.2.2.2.2.2.2.1 (by omega)  (fun M14 e15 => ?_)
        have hI16 : zI G M14 := hI.put e15 (h0.2.2.2.2.2.2.2.2.2.2.2.2.2.2.2.2.2.2.2.2.2.2.2.2.2.2.2.2.2.2.2.2.2.2.2.2.2.2.2.2.2.2.1 ((M a 18) - 1)) rfl (by omega)
        have hK17 := hK0.put e15 (h0.2.2.2.2.2.2.2.2.2.2.2.2.2.2.2.2.2.2.2.2.2.2.2.2.2.2.2.2.2.2.2.2.2.2.2.2.2.2.2.2.2.2.1 ((M a 18) - 1)) (by decide)
        exact q_vret C dX6_turn_54 ⟨rfl, rfl⟩ (by rw [hPo]; exact ⟨M14, J, rfl, rfl, hI16, hK17⟩)
  · refine q_aload_n C dX6_turn_11 (n := 12) rfl rfl ?_
    refine q_iconst C dX6_turn_12 (n := 13) rfl ?_
    refine q_iconst C dX6_turn_13 (n := 14) rfl ?_
    refine q_callVv C dX6_turn_14 (n := 17) rfl m_X6_331 v_yX6_refuse h0.1 ⟨by decide, rfl⟩ (c_X6_refuse (w := w) (J := J) hI hF h0 2 2 (by omega) (by omega)) (Nat.le_of_ble_eq_true rfl) rfl rfl (Nat.le_of_ble_eq_true rfl) ⟨Nat.le_refl _, Nat.le_refl _⟩ (fun M18 J19  hI20 h21 => ?_)
    have hK23 := hK0.tr h21 (by decide)
    refine q_goto C 54 dX6_turn_17 rfl ?_
    exact q_vret C dX6_turn_54 ⟨rfl, rfl⟩ (by rw [hPo]; exact ⟨M18, J19, rfl, rfl, hI20, hK23⟩)
theorem c_X6_close {w : zWp} {T : zTl} {M : zMm} {J : zJm} {R : zRm'} {G : zGt} {F : zRm'} {a L : Nat} (hI : zI G M) (hF : zF F R) (h0 : zRunner T F G a L) : zCt w 3 0 0 yX6_close cX6_close 1 none [.ref (w.2.1 + a)] (T, M, J, R) (zPv T R G (fun M2 => (zKp G 13 M M2))) := by
  refine zCt.of rfl (Nat.le_of_ble_eq_true rfl) ?_
  intro p e s m args below meth c C
  obtain ⟨Po, hPo⟩ : ∃ Po, Po = zPv T R G (fun M2 => (zKp G 13 M M2)) := ⟨_, rfl⟩
  rw [← hPo]
  have hK0 : zKp G 13 M M := zKp.rf
  show zK w p e 3 0 0 s m args below meth c 1 T Po 0 [.ref (w.2.1 + a)] [] (T, M, J, R)
  refine q_aload_n C dX6_close_0 (n := 1) rfl rfl ?_
  refine q_getR C dX6_close_1 (n := 4) rfl f_X6_37 h0.1 (hF _ _ _ h0.2.2.2.2.2.2.2.2.2.2.2.2.2.2.2.2.2.2.2.2.2.2.1) ?_
  have g1 := zI.at hI h0.2.2.2.2.2.2.2.2.2.2.2.2.2.2.2.2.2.2.2.2.2.2.2.1.2.2.2.2.2.2.2.2.2.2
  refine q_getI C dX6_close_4 (n := 7) rfl f_X6_103 h0.2.2.2.2.2.2.2.2.2.2.2.2.2.2.2.2.2.2.2.2.2.2.2.1.1 (v := M (a + 9) 3) rfl ?_
  refine q_iconst C dX6_close_7 (n := 8) rfl ?_
  refine q_icmp_le C 20 dX6_close_8 (n := 11) rfl rfl (by omega) (fun h2 => ?_) (fun h2 => ?_)
  · refine q_aload_n C dX6_close_20 (n := 21) rfl rfl ?_
    have g3 := zI.at hI h0.2.2.2.2.2.2.2.2.2.2.2.2.2.2.2.2.2.2.2.2.2.2.2.2.2.2.2.2.2.2.2.2.2.2.2.2.2.2.2.2.2.2.2.1
    refine q_getI C dX6_close_21 (n := 24) rfl f_X6_62 h0.1 (v := M a 18) rfl ?_
    refine q_if_le C 37 dX6_close_24 (n := 27) rfl rfl (by omega) (fun h4 => ?_) (fun h4 => ?_)
    · exact q_vret C dX6_close_37 ⟨rfl, rfl⟩ (by rw [hPo]; exact ⟨M, J, rfl, rfl, hI, hK0⟩)
    · refine q_aload_n C dX6_close_27 (n := 28) rfl rfl ?_
      refine q_dup C dX6_close_28 (n := 29) rfl rfl ?_
      refine q_getI C dX6_close_29 (n := 32) rfl f_X6_62 h0.1 (v := M a 18) rfl ?_
      refine q_iconst C dX6_close_32 (n := 33) rfl ?_
      refine q_isub C dX6_close_33 (n := 34) rfl (v := (M a 18) - 1) rfl ?_
      refine q_putI C dX6_close_34 (n := 37) rfl f_X6_62 h0.1 ⟨rfl, rfl⟩ (fun M5 (e6 : M5 = zup M a 18 ((M a 18) - 1)) => ?_)
      have hI7 : zI G M5 := hI.put e6 h0.2.2.2.2.2.2.2.2.2.2.2.2.2.2.2.2.2.2.2.2.2.2.2.2.2.2.2.2.2.2.2.2.2.2.2.2.2.2.2.2.2.2.2.1 rfl (by omega)
      have hK8 := hK0.put e6 h0.2.2.2.2.2.2.2.2.2.2.2.2.2.2.2.2.2.2.2.2.2.2.2.2.2.2.2.2.2.2.2.2.2.2.2.2.2.2.2.2.2.2.2.1 (by decide)
      exact q_vret C dX6_close_37 ⟨rfl, rfl⟩ (by rw [hPo]; exact ⟨M5, J, rfl, rfl, hI7, hK8⟩)
  · refine q_aload_n C dX6_close_11 (n := 12) rfl rfl ?_
    refine q_iconst C dX6_close_12 (n := 13) rfl ?_
    refine q_iconst C dX6_close_13 (n := 14) rfl ?_
    refine q_callVv C dX6_close_14 (n := 17) rfl m_X6_331 v_yX6_refuse h0.1 ⟨by decide, rfl⟩ (c_X6_refuse (w := w) (J := J) hI hF h0 2 2 (by omega) (by omega)) (Nat.le_of_ble_eq_true rfl) rfl rfl (Nat.le_of_ble_eq_true rfl) ⟨Nat.le_refl _, Nat.le_refl _⟩ (fun M9 J10  hI11 h12 => ?_)
    have hK14 := hK0.tr h12 (by decide)
    refine q_goto C 37 dX6_close_17 rfl ?_
    exact q_vret C dX6_close_37 ⟨rfl, rfl⟩ (by rw [hPo]; exact ⟨M9, J10, rfl, rfl, hI11, hK14⟩)
theorem c_X6_handOut {w : zWp} {T : zTl} {M : zMm} {J : zJm} {R : zRm'} {G : zGt} {F : zRm'} {a L : Nat} (hI : zI G M) (hF : zF F R) (h0 : zRunner T F G a L) : zCt w 2 0 0 yX6_handOut cX6_handOut 2 none [.ref (w.2.1 + a)] (T, M, J, R) (zPv T R G (fun M2 => (zKp G 4 M M2))) := by
  refine zCt.of rfl (Nat.le_of_ble_eq_true rfl) ?_
  intro p e s m args below meth c C
  obtain ⟨Po, hPo⟩ : ∃ Po, Po = zPv T R G (fun M2 => (zKp G 4 M M2)) := ⟨_, rfl⟩
  rw [← hPo]
  have hK0 : zKp G 4 M M := zKp.rf
  show zK w p e 2 0 0 s m args below meth c 2 T Po 0 [.ref (w.2.1 + a), .null] [] (T, M, J, R)
  refine q_iconst C dX6_handOut_0 (n := 1) rfl ?_
  refine q_istore_n C [.ref (w.2.1 + a), zi 0] dX6_handOut_1 (n := 2) rfl rfl rfl ?_
  have L_8 : ∀ n9 : Nat, ∀ (u1 : Int) (M2 : zMm) (J3 : zJm), zI G M2 → zKp G 4 M M2 → (-2147483648 ≤ u1 ∧ u1 ≤ 2147483647) → (0 ≤ u1 ∧ u1 ≤ 3440) → (3440 - u1 + 1 ≤ (n9 : Int)) → zK w p e 2 0 0 s m args below meth c 2 T Po 2 [.ref (w.2.1 + a), zi u1] [] (T, M2, J3, R) := by
    intro n9
    induction n9 with
    | zero =>
      intro u1 M2 J3 hI4 hK5 h6 h7 hm11
      exfalso
      omega
    | succ n9 ih10 =>
      intro u1 M2 J3 hI4 hK5 h6 h7 hm11
      refine q_iload_n C dX6_handOut_2 (n := 3) rfl rfl ?_
      refine q_aload_n C dX6_handOut_3 (n := 4) rfl rfl ?_
      refine q_getR C dX6_handOut_4 (n := 7) rfl f_X6_40 h0.1 (hF _ _ _ h0.2.2.2.2.2.2.2.2.2.2.2.2.2.2.2.2.2.2.2.2.2.2.2.2.1) ?_
      have g12 := zI.at hI4 h0.2.2.2.2.2.2.2.2.2.2.2.2.2.2.2.2.2.2.2.2.2.2.2.2.2.1.2.2.2.2.2.2.2.2.2.2
      refine q_getI C dX6_handOut_7 (n := 10) rfl f_X6_103 h0.2.2.2.2.2.2.2.2.2.2.2.2.2.2.2.2.2.2.2.2.2.2.2.2.2.1.1 (v := M2 (a + 13) 3) rfl ?_
      refine q_icmp_ge C 86 dX6_handOut_10 (n := 13) rfl rfl (by omega) (fun h13 => ?_) (fun h13 => ?_)
      · refine q_aload_n C dX6_handOut_86 (n := 87) rfl rfl ?_
        refine q_getR C dX6_handOut_87 (n := 90) rfl f_X6_27 h0.1 (hF _ _ _ h0.2.2.2.2.2.2.2.2.2.1) ?_
        refine q_iconst C dX6_handOut_90 (n := 91) rfl ?_
        refine q_dup2 C dX6_handOut_91 (n := 92) rfl ⟨rfl, rfl⟩ ?_
        have g14 := zI.at hI4 (h0.2.2.2.2.2.2.2.2.2.2.2.1 1)
        refine q_iald C dX6_handOut_92 (n := 93) rfl h0.2.2.2.2.2.2.2.2.2.2.1 (by omega) (v := M2 (a + 6) 1) rfl ?_
        refine q_iconst C dX6_handOut_93 (n := 94) rfl ?_
        refine q_iadd C dX6_handOut_94 (n := 95) rfl (v := (M2 (a + 6) 1) + 1) rfl ?_
        refine q_wrap C ?_
        have g15 := zr_wr ((M2 (a + 6) 1) + 1)
        refine q_iast C dX6_handOut_95 (n := 96) rfl h0.2.2.2.2.2.2.2.2.2.2.1 (by omega)  (fun M16 e17 => ?_)
        have hI18 : zI G M16 := hI4.put e17 (h0.2.2.2.2.2.2.2.2.2.2.2.1 1) rfl (by omega)
        have hK19 := hK5.put e17 (h0.2.2.2.2.2.2.2.2.2.2.2.1 1) (by decide)
        exact q_vret C dX6_handOut_96 ⟨rfl, rfl⟩ (by rw [hPo]; exact ⟨M16, J3, rfl, rfl, hI18, hK19⟩)
      · refine q_aload_n C dX6_handOut_13 (n := 14) rfl rfl ?_
        refine q_getR C dX6_handOut_14 (n := 17) rfl f_X6_23 h0.1 (hF _ _ _ h0.2.2.2.2.2.2.2.1) ?_
        have g20 := zI.at hI4 h0.2.2.2.2.2.2.2.2.1.2.2.2.2.2.2.2.2.2.2
        refine q_getI C dX6_handOut_17 (n := 20) rfl f_X6_103 h0.2.2.2.2.2.2.2.2.1.1 (v := M2 (a + 2) 3) rfl ?_
        refine q_sipush C dX6_handOut_20 (n := 23) rfl (x := 300) (by decide) ?_
        refine q_icmp_lt C 45 dX6_handOut_23 (n := 26) rfl rfl (by omega) (fun h21 => ?_) (fun h21 => ?_)
        · refine q_aload_n C dX6_handOut_45 (n := 46) rfl rfl ?_
          refine q_getR C dX6_handOut_46 (n := 49) rfl f_X6_23 h0.1 (hF _ _ _ h0.2.2.2.2.2.2.2.1) ?_
          refine q_aload_n C dX6_handOut_49 (n := 50) rfl rfl ?_
          refine q_getR C dX6_handOut_50 (n := 53) rfl f_X6_40 h0.1 (hF _ _ _ h0.2.2.2.2.2.2.2.2.2.2.2.2.2.2.2.2.2.2.2.2.2.2.2.2.1) ?_
          refine q_getR C dX6_handOut_53 (n := 56) rfl f_X6_262 h0.2.2.2.2.2.2.2.2.2.2.2.2.2.2.2.2.2.2.2.2.2.2.2.2.2.1.1 (hF _ _ _ h0.2.2.2.2.2.2.2.2.2.2.2.2.2.2.2.2.2.2.2.2.2.2.2.2.2.1.2.1) ?_
          refine q_iload_n C dX6_handOut_56 (n := 57) rfl rfl ?_
          have g22 := zI.at hI4 (h0.2.2.2.2.2.2.2.2.2.2.2.2.2.2.2.2.2.2.2.2.2.2.2.2.2.1.2.2.2.1 u1)
          have g23 : M2 (a + 13 + 1) u1 + zand (M2 (a + 13 + 2) u1) 31 ≤ (L : Int) ∧ zand (M2 (a + 13 + 2) u1) 31 ≤ 30 := zI.row hI4 (h0.2.2.2.2.2.2.2.2.2.2.2.2.2.2.2.2.2.2.2.2.2.2.2.2.2.1.2.2.2.1 u1)
          refine q_iald C dX6_handOut_57 (n := 58) rfl h0.2.2.2.2.2.2.2.2.2.2.2.2.2.2.2.2.2.2.2.2.2.2.2.2.2.1.2.2.1 (by omega) (v := M2 (a + 13 + 1) u1) rfl ?_
          refine q_aload_n C dX6_handOut_58 (n := 59) rfl rfl ?_
          refine q_getR C dX6_handOut_59 (n := 62) rfl f_X6_40 h0.1 (hF _ _ _ h0.2.2.2.2.2.2.2.2.2.2.2.2.2.2.2.2.2.2.2.2.2.2.2.2.1) ?_
          refine q_getR C dX6_handOut_62 (n := 65) rfl f_X6_265 h0.2.2.2.2.2.2.2.2.2.2.2.2.2.2.2.2.2.2.2.2.2.2.2.2.2.1.1 (hF _ _ _ h0.2.2.2.2.2.2.2.2.2.2.2.2.2.2.2.2.2.2.2.2.2.2.2.2.2.1.2.2.2.2.1) ?_
          refine q_iload_n C dX6_handOut_65 (n := 66) rfl rfl ?_
          have g24 := zI.at hI4 (h0.2.2.2.2.2.2.2.2.2.2.2.2.2.2.2.2.2.2.2.2.2.2.2.2.2.1.2.2.2.2.2.2.1 u1)
          refine q_iald C dX6_handOut_66 (n := 67) rfl h0.2.2.2.2.2.2.2.2.2.2.2.2.2.2.2.2.2.2.2.2.2.2.2.2.2.1.2.2.2.2.2.1 (by omega) (v := M2 (a + 13 + 2) u1) rfl ?_
          refine q_aload_n C dX6_handOut_67 (n := 68) rfl rfl ?_
          refine q_getR C dX6_handOut_68 (n := 71) rfl f_X6_40 h0.1 (hF _ _ _ h0.2.2.2.2.2.2.2.2.2.2.2.2.2.2.2.2.2.2.2.2.2.2.2.2.1) ?_
          refine q_getR C dX6_handOut_71 (n := 74) rfl f_X6_365 h0.2.2.2.2.2.2.2.2.2.2.2.2.2.2.2.2.2.2.2.2.2.2.2.2.2.1.1 (hF _ _ _ h0.2.2.2.2.2.2.2.2.2.2.2.2.2.2.2.2.2.2.2.2.2.2.2.2.2.1.2.2.2.2.2.2.2.1) ?_
          refine q_iload_n C dX6_handOut_74 (n := 75) rfl rfl ?_
          have g25 := zI.at hI4 (h0.2.2.2.2.2.2.2.2.2.2.2.2.2.2.2.2.2.2.2.2.2.2.2.2.2.1.2.2.2.2.2.2.2.2.2.1 u1)
          refine q_iald C dX6_handOut_75 (n := 76) rfl h0.2.2.2.2.2.2.2.2.2.2.2.2.2.2.2.2.2.2.2.2.2.2.2.2.2.1.2.2.2.2.2.2.2.2.1 (by omega) (v := M2 (a + 13 + 3) u1) rfl ?_
          refine q_callVi C dX6_handOut_76 (n := 79) rfl m_X6_253 v_yX5_add h0.2.2.2.2.2.2.2.2.1.1 ⟨by decide, rfl⟩ (c_X5_add (w := w) (J := J3) hI4 hF h0.2.2.2.2.2.2.2.2.1 (M2 (a + 13 + 1) u1) (M2 (a + 13 + 2) u1) (M2 (a + 13 + 3) u1) (by omega) (by omega) (by omega) (by omega)) (Nat.le_of_ble_eq_true rfl) rfl rfl (Nat.le_of_ble_eq_true rfl) ⟨Nat.le_refl _, Nat.le_refl _⟩ (fun x33 M29 J30  hI31 h32 => ?_)
          obtain ⟨hk34, h26, h27, h28⟩ := h32
          have hK35 := hK5.tr hk34 (by decide)
          refine q_pop C dX6_handOut_79 (n := 80) rfl rfl ?_
          refine q_iinc C [.ref (w.2.1 + a), zi (u1 + 1)] dX6_handOut_80 (n := 83) rfl rfl rfl rfl ?_
          refine q_goto C 2 dX6_handOut_83 rfl ?_
          exact zK.weak (ih10 (u1 + 1) M29 J30 hI31 hK35 (by omega) (by omega) (by omega)) (zwk_c (zwk_c zwk_e))
        · refine q_aload_n C dX6_handOut_26 (n := 27) rfl rfl ?_
          refine q_getR C dX6_handOut_27 (n := 30) rfl f_X6_12 h0.1 (hF _ _ _ h0.2.2.2.1) ?_
          refine q_bipush C dX6_handOut_30 (n := 32) rfl (x := 7) (by decide) ?_
          refine q_aload_n C dX6_handOut_32 (n := 33) rfl rfl ?_
          refine q_getR C dX6_handOut_33 (n := 36) rfl f_X6_40 h0.1 (hF _ _ _ h0.2.2.2.2.2.2.2.2.2.2.2.2.2.2.2.2.2.2.2.2.2.2.2.2.1) ?_
          refine q_getR C dX6_handOut_36 (n := 39) rfl f_X6_265 h0.2.2.2.2.2.2.2.2.2.2.2.2.2.2.2.2.2.2.2.2.2.2.2.2.2.1.1 (hF _ _ _ h0.2.2.2.2.2.2.2.2.2.2.2.2.2.2.2.2.2.2.2.2.2.2.2.2.2.1.2.2.2.2.1) ?_
          refine q_iload_n C dX6_handOut_39 (n := 40) rfl rfl ?_
          have g36 := zI.at hI4 (h0.2.2.2.2.2.2.2.2.2.2.2.2.2.2.2.2.2.2.2.2.2.2.2.2.2.1.2.2.2.2.2.2.1 u1)
          refine q_iald C dX6_handOut_40 (n := 41) rfl h0.2.2.2.2.2.2.2.2.2.2.2.2.2.2.2.2.2.2.2.2.2.2.2.2.2.1.2.2.2.2.2.1 (by omega) (v := M2 (a + 13 + 2) u1) rfl ?_
          refine q_callVv C dX6_handOut_41 (n := 44) rfl m_X6_180 v_yX1_meet h0.2.2.2.2.1.1 ⟨by decide, rfl⟩ (c_X1_meet (w := w) (J := J3) hI4 hF h0.2.2.2.2.1 7 (M2 (a + 13 + 2) u1) (by omega) (by omega)) (Nat.le_of_ble_eq_true rfl) rfl rfl (Nat.le_of_ble_eq_true rfl) ⟨Nat.le_refl _, Nat.le_refl _⟩ (fun M37 J38  hI39 h40 => ?_)
          have hK42 := hK5.tr h40 (by decide)
          exact q_vret C dX6_handOut_44 ⟨rfl, rfl⟩ (by rw [hPo]; exact ⟨M37, J38, rfl, rfl, hI39, hK42⟩)
  exact zK.weak (L_8 _ 0 M J hI hK0 (by omega) (by omega) (Int.self_le_toNat _)) (zwk_c (zwk_c zwk_e))
theorem c_X6_loadSum {w : zWp} {T : zTl} {M : zMm} {J : zJm} {R : zRm'} {G : zGt} {F : zRm'} {a L : Nat} (hI : zI G M) (hF : zF F R) (h0 : zRunner T F G a L) (v1 : Int) (p1 : L ≤ 1000000) (p2 : 2000 ≤ L) (p3 : 0 ≤ v1 ∧ v1 ≤ 1000) : zCt w 11 0 0 yX6_loadSum cX6_loadSum 7 none [.ref (w.2.1 + a), zi v1] (T, M, J, R) (zPv T R G (fun M2 => (zKp G 4 M M2))) := by
  refine zCt.of rfl (Nat.le_of_ble_eq_true rfl) ?_
  intro p e s m args below meth c C
  obtain ⟨Po, hPo⟩ : ∃ Po, Po = zPv T R G (fun M2 => (zKp G 4 M M2)) := ⟨_, rfl⟩
  rw [← hPo]
  have hK0 : zKp G 4 M M := zKp.rf
  show zK w p e 11 0 0 s m args below meth c 7 T Po 0 [.ref (w.2.1 + a), zi v1, .null, .null, .null, .null, .null] [] (T, M, J, R)
  refine q_aload_n C dX6_loadSum_0 (n := 1) rfl rfl ?_
  refine q_getR C dX6_loadSum_1 (n := 4) rfl f_X6_89 h0.1 (hF _ _ _ h0.2.2.2.2.2.2.2.2.2.2.2.2.2.2.2.2.2.2.1) ?_
  refine q_callVv C dX6_loadSum_4 (n := 7) rfl m_X6_284 v_yX0_clear h0.2.2.2.2.2.2.2.2.2.2.2.2.2.2.2.2.2.2.2.1.1 ⟨by decide, rfl⟩ (c_X0_clear (w := w) (J := J) hI hF h0.2.2.2.2.2.2.2.2.2.2.2.2.2.2.2.2.2.2.2.1) (Nat.le_of_ble_eq_true rfl) rfl rfl (Nat.le_of_ble_eq_true rfl) ⟨Nat.le_refl _, Nat.le_refl _⟩ (fun M1 J2  hI3 h4 => ?_)
  have hK6 := hK0.tr h4 (by decide)
  refine q_iload_n C dX6_loadSum_7 (n := 8) rfl rfl ?_
  refine q_istore_n C [.ref (w.2.1 + a), zi v1, zi v1, .null, .null, .null, .null] dX6_loadSum_8 (n := 9) rfl rfl rfl ?_
  have L_14 : ∀ n15 : Nat, ∀ (u7 : Int) (M8 : zMm) (J9 : zJm), zI G M8 → zKp G 4 M M8 → (-2147483648 ≤ u7 ∧ u7 ≤ 2147483647) → (v1 ≤ u7 ∧ u7 ≤ 1450) → (1500 - u7 ≤ (n15 : Int)) → zK w p e 11 0 0 s m args below meth c 7 T Po 9 [.ref (w.2.1 + a), .null, zi u7, .null, .null, .null, .null] [] (T, M8, J9, R) := by
    intro n15
    induction n15 with
    | zero =>
      intro u7 M8 J9 hI10 hK11 h12 h13 hm17
      exfalso
      omega
    | succ n15 ih16 =>
      intro u7 M8 J9 hI10 hK11 h12 h13 hm17
      refine q_iload_n C dX6_loadSum_9 (n := 10) rfl rfl ?_
      refine q_aload_n C dX6_loadSum_10 (n := 11) rfl rfl ?_
      refine q_getR C dX6_loadSum_11 (n := 14) rfl f_X6_37 h0.1 (hF _ _ _ h0.2.2.2.2.2.2.2.2.2.2.2.2.2.2.2.2.2.2.2.2.2.2.1) ?_
      have g18 := zI.at hI10 h0.2.2.2.2.2.2.2.2.2.2.2.2.2.2.2.2.2.2.2.2.2.2.2.1.2.2.2.2.2.2.2.2.2.2
      refine q_getI C dX6_loadSum_14 (n := 17) rfl f_X6_103 h0.2.2.2.2.2.2.2.2.2.2.2.2.2.2.2.2.2.2.2.2.2.2.2.1.1 (v := M8 (a + 9) 3) rfl ?_
      refine q_icmp_ge C 251 dX6_loadSum_17 (n := 20) rfl rfl (by omega) (fun h19 => ?_) (fun h19 => ?_)
      · exact q_vret C dX6_loadSum_251 ⟨rfl, rfl⟩ (by rw [hPo]; exact ⟨M8, J9, rfl, rfl, hI10, hK11⟩)
      · refine q_aload_n C dX6_loadSum_20 (n := 21) rfl rfl ?_
        refine q_getR C dX6_loadSum_21 (n := 24) rfl f_X6_12 h0.1 (hF _ _ _ h0.2.2.2.1) ?_
        have g20 := zI.at hI10 h0.2.2.2.2.1.2.1
        refine q_getI C dX6_loadSum_24 (n := 27) rfl f_X6_155 h0.2.2.2.2.1.1 (v := M8 (a + 1) 0) rfl ?_
        refine q_if_ne C 251 dX6_loadSum_27 (n := 30) rfl rfl (by omega) (fun h21 => ?_) (fun h21 => ?_)
        · exact q_vret C dX6_loadSum_251 ⟨rfl, rfl⟩ (by rw [hPo]; exact ⟨M8, J9, rfl, rfl, hI10, hK11⟩)
        · refine q_aload_n C dX6_loadSum_30 (n := 31) rfl rfl ?_
          refine q_iload_n C dX6_loadSum_31 (n := 32) rfl rfl ?_
          refine q_ldcwS C dX6_loadSum_32 (n := 35) rfl (k := 0) (by decide) ?_
          refine q_callVp C dX6_loadSum_35 (n := 38) rfl m_X6_290 v_yX6_says h0.1 ⟨by decide, rfl⟩ (c_X6_says (w := w) (J := J9) hI10 hF h0 u7 0 (by decide) (by omega) (by omega)) (Nat.le_of_ble_eq_true rfl) rfl rfl (Nat.le_of_ble_eq_true rfl) ⟨Nat.le_refl _, Nat.le_refl _⟩ (fun x23 h24 => ?_)
          have J_32 : ∀ (u25 : Int) (M26 : zMm) (J27 : zJm), zI G M26 → zKp G 4 M M26 → (-2147483648 ≤ u25 ∧ u25 ≤ 2147483647) → (u7 ≤ u25 ∧ u25 ≤ u7 + 3) → zK w p e 11 0 0 s m args below meth c 7 T Po 245 [.ref (w.2.1 + a), .null, zi u25, .null, .null, .null, .null] [] (T, M26, J27, R) := by
            intro u25 M26 J27 hI28 hK29 h30 h31
            refine q_iinc C [.ref (w.2.1 + a), .null, zi (u25 + 1), .null, .null, .null, .null] dX6_loadSum_245 (n := 248) rfl rfl rfl rfl ?_
            refine q_goto C 9 dX6_loadSum_248 rfl ?_
            exact zK.weak (ih16 (u25 + 1) M26 J27 hI28 hK29 (by omega) (by omega) (by omega)) (zwk_c (zwk_n (zwk_c (zwk_n (zwk_n (zwk_n (zwk_n zwk_e)))))))
          refine q_if_ne C 69 dX6_loadSum_38 (n := 41) rfl rfl (by omega) (fun h33 => ?_) (fun h33 => ?_)
          · refine q_aload_n C dX6_loadSum_69 (n := 70) rfl rfl ?_
            refine q_iload_n C dX6_loadSum_70 (n := 71) rfl rfl ?_
            refine q_iconst C dX6_loadSum_71 (n := 72) rfl ?_
            refine q_iadd C dX6_loadSum_72 (n := 73) rfl (v := u7 + 1) rfl ?_
            refine q_bipush C dX6_loadSum_73 (n := 75) rfl (x := 40) (by decide) ?_
            refine q_callVp C dX6_loadSum_75 (n := 78) rfl m_X6_229 v_yX6_isSign h0.1 ⟨by decide, rfl⟩ (c_X6_isSign (w := w) (J := J9) hI10 hF h0 (u7 + 1) 40 (by omega) (by omega) (by omega)) (Nat.le_of_ble_eq_true rfl) rfl rfl (Nat.le_of_ble_eq_true rfl) ⟨Nat.le_refl _, Nat.le_refl _⟩ (fun x35 h36 => ?_)
            refine q_istore_n C [.ref (w.2.1 + a), .null, zi u7, zi x35, .null, .null, .null] dX6_loadSum_78 (n := 79) rfl rfl rfl ?_
            refine q_iload_n C dX6_loadSum_79 (n := 80) rfl rfl ?_
            have J_40 : ∀ (u37 : Int), (-2147483648 ≤ u37 ∧ u37 ≤ 2147483647) → (u37 = u7 + 1 ∨ u37 = u7 + 2) → zK w p e 11 0 0 s m args below meth c 7 T Po 92 [.ref (w.2.1 + a), .null, zi u7, zi x35, .null, .null, .null] [zi u37] (T, M8, J9, R) := by
              intro u37 h38 h39
              refine q_istore C [.ref (w.2.1 + a), .null, zi u7, zi x35, zi u37, .null, .null] dX6_loadSum_92 (n := 94) rfl rfl rfl ?_
              refine q_aload_n C dX6_loadSum_94 (n := 95) rfl rfl ?_
              refine q_iload C dX6_loadSum_95 (n := 97) rfl rfl ?_
              refine q_callVp C dX6_loadSum_97 (n := 100) rfl m_X6_274 v_yX6_isName h0.1 ⟨by decide, rfl⟩ (c_X6_isName (w := w) (J := J9) hI10 hF h0 u37 (by omega)) (Nat.le_of_ble_eq_true rfl) rfl rfl (Nat.le_of_ble_eq_true rfl) ⟨Nat.le_refl _, Nat.le_refl _⟩ (fun x43 h44 => ?_)
              obtain ⟨h41, h42⟩ := h44
              refine q_if_ne C 114 dX6_loadSum_100 (n := 103) rfl rfl (by omega) (fun h45 => ?_) (fun h45 => ?_)
              · refine q_iload_n C dX6_loadSum_114 (n := 115) rfl rfl ?_
                have J_46 : zK w p e 11 0 0 s m args below meth c 7 T Po 144 [.ref (w.2.1 + a), .null, zi u7, zi x35, zi u37, .null, .null] [] (T, M8, J9, R) := by
                  refine q_aload_n C dX6_loadSum_144 (n := 145) rfl rfl ?_
                  refine q_getR C dX6_loadSum_145 (n := 148) rfl f_X6_80 h0.1 (hF _ _ _ h0.2.2.2.2.2.1) ?_
                  refine q_aload_n C dX6_loadSum_148 (n := 149) rfl rfl ?_
                  refine q_getR C dX6_loadSum_149 (n := 152) rfl f_X6_37 h0.1 (hF _ _ _ h0.2.2.2.2.2.2.2.2.2.2.2.2.2.2.2.2.2.2.2.2.2.2.1) ?_
                  refine q_getR C dX6_loadSum_152 (n := 155) rfl f_X6_262 h0.2.2.2.2.2.2.2.2.2.2.2.2.2.2.2.2.2.2.2.2.2.2.2.1.1 (hF _ _ _ h0.2.2.2.2.2.2.2.2.2.2.2.2.2.2.2.2.2.2.2.2.2.2.2.1.2.1) ?_
                  refine q_iload C dX6_loadSum_155 (n := 157) rfl rfl ?_
                  have g47 := zI.at hI10 (h0.2.2.2.2.2.2.2.2.2.2.2.2.2.2.2.2.2.2.2.2.2.2.2.1.2.2.2.1 u37)
                  have g48 : M8 (a + 9 + 1) u37 + zand (M8 (a + 9 + 2) u37) 31 ≤ (L : Int) ∧ zand (M8 (a + 9 + 2) u37) 31 ≤ 30 := zI.row hI10 (h0.2.2.2.2.2.2.2.2.2.2.2.2.2.2.2.2.2.2.2.2.2.2.2.1.2.2.2.1 u37)
                  refine q_iald C dX6_loadSum_157 (n := 158) rfl h0.2.2.2.2.2.2.2.2.2.2.2.2.2.2.2.2.2.2.2.2.2.2.2.1.2.2.1 (by omega) (v := M8 (a + 9 + 1) u37) rfl ?_
                  refine q_aload_n C dX6_loadSum_158 (n := 159) rfl rfl ?_
                  refine q_getR C dX6_loadSum_159 (n := 162) rfl f_X6_37 h0.1 (hF _ _ _ h0.2.2.2.2.2.2.2.2.2.2.2.2.2.2.2.2.2.2.2.2.2.2.1) ?_
                  refine q_getR C dX6_loadSum_162 (n := 165) rfl f_X6_265 h0.2.2.2.2.2.2.2.2.2.2.2.2.2.2.2.2.2.2.2.2.2.2.2.1.1 (hF _ _ _ h0.2.2.2.2.2.2.2.2.2.2.2.2.2.2.2.2.2.2.2.2.2.2.2.1.2.2.2.2.1) ?_
                  refine q_iload C dX6_loadSum_165 (n := 167) rfl rfl ?_
                  have g49 := zI.at hI10 (h0.2.2.2.2.2.2.2.2.2.2.2.2.2.2.2.2.2.2.2.2.2.2.2.1.2.2.2.2.2.2.1 u37)
                  refine q_iald C dX6_loadSum_167 (n := 168) rfl h0.2.2.2.2.2.2.2.2.2.2.2.2.2.2.2.2.2.2.2.2.2.2.2.1.2.2.2.2.2.1 (by omega) (v := M8 (a + 9 + 2) u37) rfl ?_
                  refine q_callSp C dX6_loadSum_168 (n := 171) rfl m_X6_277 s_yX5_lengthOf (c_X5_lengthOf (w := w) (J := J9) hI10 hF (M8 (a + 9 + 2) u37)) (Nat.le_of_ble_eq_true rfl) rfl rfl (Nat.le_of_ble_eq_true rfl) ⟨Nat.le_refl _, Nat.le_refl _⟩ (fun x52 h53 => ?_)
                  obtain ⟨h50, h51⟩ := h53
                  refine q_callVp C dX6_loadSum_171 (n := 174) rfl m_X6_337 v_yX3_standing h0.2.2.2.2.2.2.1.1 ⟨by decide, rfl⟩ (c_X3_standing (w := w) (J := J9) hI10 hF h0.2.2.2.2.2.2.1 (M8 (a + 9 + 1) u37) x52 (by omega) (by omega) (by omega)) (Nat.le_of_ble_eq_true rfl) rfl rfl (Nat.le_of_ble_eq_true rfl) ⟨Nat.le_refl _, Nat.le_refl _⟩ (fun x55 h56 => ?_)
                  refine q_iconst C dX6_loadSum_174 (n := 175) rfl ?_
                  have J_60 : ∀ (u57 : Int), (-2147483648 ≤ u57 ∧ u57 ≤ 2147483647) → (u57 = 0 ∨ u57 = 1) → zK w p e 11 0 0 s m args below meth c 7 T Po 183 [.ref (w.2.1 + a), .null, zi u7, zi x35, zi u37, .null, .null] [zi u57] (T, M8, J9, R) := by
                    intro u57 h58 h59
                    refine q_istore C [.ref (w.2.1 + a), .null, zi u7, zi x35, zi u37, zi u57, .null] dX6_loadSum_183 (n := 185) rfl rfl rfl ?_
                    refine q_iconst C dX6_loadSum_185 (n := 186) rfl ?_
                    refine q_iconst C dX6_loadSum_186 (n := 187) rfl ?_
                    refine q_callSp C dX6_loadSum_187 (n := 190) rfl m_X6_250 s_yX5_shape (c_X5_shape (w := w) (J := J9) hI10 hF 1 1) (Nat.le_of_ble_eq_true rfl) rfl rfl (Nat.le_of_ble_eq_true rfl) ⟨Nat.le_refl _, Nat.le_refl _⟩ (fun x63 h64 => ?_)
                    obtain ⟨h61, h62⟩ := h64
                    refine q_aload_n C dX6_loadSum_190 (n := 191) rfl rfl ?_
                    refine q_getR C dX6_loadSum_191 (n := 194) rfl f_X6_37 h0.1 (hF _ _ _ h0.2.2.2.2.2.2.2.2.2.2.2.2.2.2.2.2.2.2.2.2.2.2.1) ?_
                    refine q_getR C dX6_loadSum_194 (n := 197) rfl f_X6_265 h0.2.2.2.2.2.2.2.2.2.2.2.2.2.2.2.2.2.2.2.2.2.2.2.1.1 (hF _ _ _ h0.2.2.2.2.2.2.2.2.2.2.2.2.2.2.2.2.2.2.2.2.2.2.2.1.2.2.2.2.1) ?_
                    refine q_iload_n C dX6_loadSum_197 (n := 198) rfl rfl ?_
                    have g65 := zI.at hI10 (h0.2.2.2.2.2.2.2.2.2.2.2.2.2.2.2.2.2.2.2.2.2.2.2.1.2.2.2.2.2.2.1 u7)
                    refine q_iald C dX6_loadSum_198 (n := 199) rfl h0.2.2.2.2.2.2.2.2.2.2.2.2.2.2.2.2.2.2.2.2.2.2.2.1.2.2.2.2.2.1 (by omega) (v := M8 (a + 9 + 2) u7) rfl ?_
                    refine q_callSp C dX6_loadSum_199 (n := 202) rfl m_X6_359 s_yX5_blankAs (c_X5_blankAs (w := w) (J := J9) hI10 hF x63 (M8 (a + 9 + 2) u7)) (Nat.le_of_ble_eq_true rfl) rfl rfl (Nat.le_of_ble_eq_true rfl) ⟨Nat.le_refl _, Nat.le_refl _⟩ (fun x68 h69 => ?_)
                    obtain ⟨h66, h67⟩ := h69
                    refine q_istore C [.ref (w.2.1 + a), .null, zi u7, zi x35, zi u37, zi u57, zi x68] dX6_loadSum_202 (n := 204) rfl rfl rfl ?_
                    refine q_aload_n C dX6_loadSum_204 (n := 205) rfl rfl ?_
                    refine q_getR C dX6_loadSum_205 (n := 208) rfl f_X6_89 h0.1 (hF _ _ _ h0.2.2.2.2.2.2.2.2.2.2.2.2.2.2.2.2.2.2.1) ?_
                    refine q_sipush C dX6_loadSum_208 (n := 211) rfl (x := 1694) (by decide) ?_
                    refine q_iload C dX6_loadSum_211 (n := 213) rfl rfl ?_
                    refine q_iadd C dX6_loadSum_213 (n := 214) rfl (v := 1694 + u57) rfl ?_
                    refine q_iload C dX6_loadSum_214 (n := 216) rfl rfl ?_
                    refine q_aload_n C dX6_loadSum_216 (n := 217) rfl rfl ?_
                    refine q_getR C dX6_loadSum_217 (n := 220) rfl f_X6_37 h0.1 (hF _ _ _ h0.2.2.2.2.2.2.2.2.2.2.2.2.2.2.2.2.2.2.2.2.2.2.1) ?_
                    refine q_getR C dX6_loadSum_220 (n := 223) rfl f_X6_265 h0.2.2.2.2.2.2.2.2.2.2.2.2.2.2.2.2.2.2.2.2.2.2.2.1.1 (hF _ _ _ h0.2.2.2.2.2.2.2.2.2.2.2.2.2.2.2.2.2.2.2.2.2.2.2.1.2.2.2.2.1) ?_
                    refine q_iload_n C dX6_loadSum_223 (n := 224) rfl rfl ?_
                    refine q_iald C dX6_loadSum_224 (n := 225) rfl h0.2.2.2.2.2.2.2.2.2.2.2.2.2.2.2.2.2.2.2.2.2.2.2.1.2.2.2.2.2.1 (by omega) (v := M8 (a + 9 + 2) u7) rfl ?_
                    refine q_callSp C dX6_loadSum_225 (n := 228) rfl m_X6_362 s_yX5_from (c_X5_from (w := w) (J := J9) hI10 hF x68 (M8 (a + 9 + 2) u7)) (Nat.le_of_ble_eq_true rfl) rfl rfl (Nat.le_of_ble_eq_true rfl) ⟨Nat.le_refl _, Nat.le_refl _⟩ (fun x72 h73 => ?_)
                    obtain ⟨h70, h71⟩ := h73
                    refine q_callVv C dX6_loadSum_228 (n := 231) rfl m_X6_285 v_yX0_load h0.2.2.2.2.2.2.2.2.2.2.2.2.2.2.2.2.2.2.2.1.1 ⟨by decide, rfl⟩ (c_X0_load (w := w) (J := J9) hI10 hF h0.2.2.2.2.2.2.2.2.2.2.2.2.2.2.2.2.2.2.2.1 (1694 + u57) x72 (by omega) (by omega)) (Nat.le_of_ble_eq_true rfl) rfl rfl (Nat.le_of_ble_eq_true rfl) ⟨Nat.le_refl _, Nat.le_refl _⟩ (fun M74 J75  hI76 h77 => ?_)
                    have hK79 := hK11.tr h77 (by decide)
                    refine q_iload_n C dX6_loadSum_231 (n := 232) rfl rfl ?_
                    have J_83 : ∀ (u80 : Int), (-2147483648 ≤ u80 ∧ u80 ≤ 2147483647) → (u7 ≤ u80 ∧ u80 ≤ u7 + 3) → zK w p e 11 0 0 s m args below meth c 7 T Po 244 [.ref (w.2.1 + a), .null, .null, .null, .null, .null, .null] [zi u80] (T, M74, J75, R) := by
                      intro u80 h81 h82
                      refine q_istore_n C [.ref (w.2.1 + a), .null, zi u80, .null, .null, .null, .null] dX6_loadSum_244 (n := 245) rfl rfl rfl ?_
                      exact zK.weak (J_32 u80 M74 J75 hI76 hK79 (by omega) (by omega)) (zwk_c (zwk_n (zwk_c (zwk_n (zwk_n (zwk_n (zwk_n zwk_e)))))))
                    refine q_if_eq C 242 dX6_loadSum_232 (n := 235) rfl rfl (by omega) (fun h84 => ?_) (fun h84 => ?_)
                    · refine q_iload C dX6_loadSum_242 (n := 244) rfl rfl ?_
                      exact zK.weak (J_83 u37 (by omega) (by omega)) (zwk_c (zwk_n (zwk_n (zwk_n (zwk_n (zwk_n (zwk_n zwk_e)))))))
                    · refine q_iload C dX6_loadSum_235 (n := 237) rfl rfl ?_
                      refine q_iconst C dX6_loadSum_237 (n := 238) rfl ?_
                      refine q_iadd C dX6_loadSum_238 (n := 239) rfl (v := u37 + 1) rfl ?_
                      refine q_goto C 244 dX6_loadSum_239 rfl ?_
                      exact zK.weak (J_83 (u37 + 1) (by omega) (by omega)) (zwk_c (zwk_n (zwk_n (zwk_n (zwk_n (zwk_n (zwk_n zwk_e)))))))
                  refine q_icmp_eq C 182 dX6_loadSum_175 (n := 178) rfl rfl (by omega) (fun h85 => ?_) (fun h85 => ?_)
                  · refine q_iconst C dX6_loadSum_182 (n := 183) rfl ?_
                    exact zK.weak (J_60 0 (by omega) (by omega)) (zwk_c (zwk_n (zwk_c (zwk_c (zwk_c (zwk_n (zwk_n zwk_e)))))))
                  · refine q_iconst C dX6_loadSum_178 (n := 179) rfl ?_
                    refine q_goto C 183 dX6_loadSum_179 rfl ?_
                    exact zK.weak (J_60 1 (by omega) (by omega)) (zwk_c (zwk_n (zwk_c (zwk_c (zwk_c (zwk_n (zwk_n zwk_e)))))))
                refine q_if_eq C 144 dX6_loadSum_115 (n := 118) rfl rfl (by omega) (fun h86 => ?_) (fun h86 => ?_)
                · exact zK.weak (J_46) (zwk_c (zwk_n (zwk_c (zwk_c (zwk_c (zwk_n (zwk_n zwk_e)))))))
                · refine q_aload_n C dX6_loadSum_118 (n := 119) rfl rfl ?_
                  refine q_iload C dX6_loadSum_119 (n := 121) rfl rfl ?_
                  refine q_iconst C dX6_loadSum_121 (n := 122) rfl ?_
                  refine q_iadd C dX6_loadSum_122 (n := 123) rfl (v := u37 + 1) rfl ?_
                  refine q_bipush C dX6_loadSum_123 (n := 125) rfl (x := 41) (by decide) ?_
                  refine q_callVp C dX6_loadSum_125 (n := 128) rfl m_X6_229 v_yX6_isSign h0.1 ⟨by decide, rfl⟩ (c_X6_isSign (w := w) (J := J9) hI10 hF h0 (u37 + 1) 41 (by omega) (by omega) (by omega)) (Nat.le_of_ble_eq_true rfl) rfl rfl (Nat.le_of_ble_eq_true rfl) ⟨Nat.le_refl _, Nat.le_refl _⟩ (fun x88 h89 => ?_)
                  refine q_if_ne C 144 dX6_loadSum_128 (n := 131) rfl rfl (by omega) (fun h90 => ?_) (fun h90 => ?_)
                  · exact zK.weak (J_46) (zwk_c (zwk_n (zwk_c (zwk_c (zwk_c (zwk_n (zwk_n zwk_e)))))))
                  · refine q_aload_n C dX6_loadSum_131 (n := 132) rfl rfl ?_
                    refine q_bipush C dX6_loadSum_132 (n := 134) rfl (x := 8) (by decide) ?_
                    refine q_iload C dX6_loadSum_134 (n := 136) rfl rfl ?_
                    refine q_iconst C dX6_loadSum_136 (n := 137) rfl ?_
                    refine q_iadd C dX6_loadSum_137 (n := 138) rfl (v := u37 + 1) rfl ?_
                    refine q_callVv C dX6_loadSum_138 (n := 141) rfl m_X6_331 v_yX6_refuse h0.1 ⟨by decide, rfl⟩ (c_X6_refuse (w := w) (J := J9) hI10 hF h0 8 (u37 + 1) (by omega) (by omega)) (Nat.le_of_ble_eq_true rfl) rfl rfl (Nat.le_of_ble_eq_true rfl) ⟨Nat.le_refl _, Nat.le_refl _⟩ (fun M91 J92  hI93 h94 => ?_)
                    have hK96 := hK11.tr h94 (by decide)
                    refine q_goto C 245 dX6_loadSum_141 rfl ?_
                    exact zK.weak (J_32 u7 M91 J92 hI93 hK96 (by omega) (by omega)) (zwk_c (zwk_n (zwk_c (zwk_n (zwk_n (zwk_n (zwk_n zwk_e)))))))
              · refine q_aload_n C dX6_loadSum_103 (n := 104) rfl rfl ?_
                refine q_bipush C dX6_loadSum_104 (n := 106) rfl (x := 8) (by decide) ?_
                refine q_iload C dX6_loadSum_106 (n := 108) rfl rfl ?_
                refine q_callVv C dX6_loadSum_108 (n := 111) rfl m_X6_331 v_yX6_refuse h0.1 ⟨by decide, rfl⟩ (c_X6_refuse (w := w) (J := J9) hI10 hF h0 8 u37 (by omega) (by omega)) (Nat.le_of_ble_eq_true rfl) rfl rfl (Nat.le_of_ble_eq_true rfl) ⟨Nat.le_refl _, Nat.le_refl _⟩ (fun M97 J98  hI99 h100 => ?_)
                have hK102 := hK11.tr h100 (by decide)
                refine q_goto C 245 dX6_loadSum_111 rfl ?_
                exact zK.weak (J_32 u7 M97 J98 hI99 hK102 (by omega) (by omega)) (zwk_c (zwk_n (zwk_c (zwk_n (zwk_n (zwk_n (zwk_n zwk_e)))))))
            refine q_if_eq C 89 dX6_loadSum_80 (n := 83) rfl rfl (by omega) (fun h103 => ?_) (fun h103 => ?_)
            · refine q_iload_n C dX6_loadSum_89 (n := 90) rfl rfl ?_
              refine q_iconst C dX6_loadSum_90 (n := 91) rfl ?_
              refine q_iadd C dX6_loadSum_91 (n := 92) rfl (v := u7 + 1) rfl ?_
              exact zK.weak (J_40 (u7 + 1) (by omega) (by omega)) (zwk_c (zwk_n (zwk_c (zwk_c (zwk_n (zwk_n (zwk_n zwk_e)))))))
            · refine q_iload_n C dX6_loadSum_83 (n := 84) rfl rfl ?_
              refine q_iconst C dX6_loadSum_84 (n := 85) rfl ?_
              refine q_iadd C dX6_loadSum_85 (n := 86) rfl (v := u7 + 2) rfl ?_
              refine q_goto C 92 dX6_loadSum_86 rfl ?_
              exact zK.weak (J_40 (u7 + 2) (by omega) (by omega)) (zwk_c (zwk_n (zwk_c (zwk_c (zwk_n (zwk_n (zwk_n zwk_e)))))))
          · refine q_aload_n C dX6_loadSum_41 (n := 42) rfl rfl ?_
            refine q_getR C dX6_loadSum_42 (n := 45) rfl f_X6_89 h0.1 (hF _ _ _ h0.2.2.2.2.2.2.2.2.2.2.2.2.2.2.2.2.2.2.1) ?_
            refine q_aload_n C dX6_loadSum_45 (n := 46) rfl rfl ?_
            refine q_getR C dX6_loadSum_46 (n := 49) rfl f_X6_37 h0.1 (hF _ _ _ h0.2.2.2.2.2.2.2.2.2.2.2.2.2.2.2.2.2.2.2.2.2.2.1) ?_
            refine q_getR C dX6_loadSum_49 (n := 52) rfl f_X6_262 h0.2.2.2.2.2.2.2.2.2.2.2.2.2.2.2.2.2.2.2.2.2.2.2.1.1 (hF _ _ _ h0.2.2.2.2.2.2.2.2.2.2.2.2.2.2.2.2.2.2.2.2.2.2.2.1.2.1) ?_
            refine q_iload_n C dX6_loadSum_52 (n := 53) rfl rfl ?_
            have g104 := zI.at hI10 (h0.2.2.2.2.2.2.2.2.2.2.2.2.2.2.2.2.2.2.2.2.2.2.2.1.2.2.2.1 u7)
            have g105 : M8 (a + 9 + 1) u7 + zand (M8 (a + 9 + 2) u7) 31 ≤ (L : Int) ∧ zand (M8 (a + 9 + 2) u7) 31 ≤ 30 := zI.row hI10 (h0.2.2.2.2.2.2.2.2.2.2.2.2.2.2.2.2.2.2.2.2.2.2.2.1.2.2.2.1 u7)
            refine q_iald C dX6_loadSum_53 (n := 54) rfl h0.2.2.2.2.2.2.2.2.2.2.2.2.2.2.2.2.2.2.2.2.2.2.2.1.2.2.1 (by omega) (v := M8 (a + 9 + 1) u7) rfl ?_
            refine q_aload_n C dX6_loadSum_54 (n := 55) rfl rfl ?_
            refine q_getR C dX6_loadSum_55 (n := 58) rfl f_X6_37 h0.1 (hF _ _ _ h0.2.2.2.2.2.2.2.2.2.2.2.2.2.2.2.2.2.2.2.2.2.2.1) ?_
            refine q_getR C dX6_loadSum_58 (n := 61) rfl f_X6_265 h0.2.2.2.2.2.2.2.2.2.2.2.2.2.2.2.2.2.2.2.2.2.2.2.1.1 (hF _ _ _ h0.2.2.2.2.2.2.2.2.2.2.2.2.2.2.2.2.2.2.2.2.2.2.2.1.2.2.2.2.1) ?_
            refine q_iload_n C dX6_loadSum_61 (n := 62) rfl rfl ?_
            have g106 := zI.at hI10 (h0.2.2.2.2.2.2.2.2.2.2.2.2.2.2.2.2.2.2.2.2.2.2.2.1.2.2.2.2.2.2.1 u7)
            refine q_iald C dX6_loadSum_62 (n := 63) rfl h0.2.2.2.2.2.2.2.2.2.2.2.2.2.2.2.2.2.2.2.2.2.2.2.1.2.2.2.2.2.1 (by omega) (v := M8 (a + 9 + 2) u7) rfl ?_
            refine q_callVv C dX6_loadSum_63 (n := 66) rfl m_X6_285 v_yX0_load h0.2.2.2.2.2.2.2.2.2.2.2.2.2.2.2.2.2.2.2.1.1 ⟨by decide, rfl⟩ (c_X0_load (w := w) (J := J9) hI10 hF h0.2.2.2.2.2.2.2.2.2.2.2.2.2.2.2.2.2.2.2.1 (M8 (a + 9 + 1) u7) (M8 (a + 9 + 2) u7) (by omega) (by omega)) (Nat.le_of_ble_eq_true rfl) rfl rfl (Nat.le_of_ble_eq_true rfl) ⟨Nat.le_refl _, Nat.le_refl _⟩ (fun M107 J108  hI109 h110 => ?_)
            have hK112 := hK11.tr h110 (by decide)
            refine q_goto C 245 dX6_loadSum_66 rfl ?_
            exact zK.weak (J_32 u7 M107 J108 hI109 hK112 (by omega) (by omega)) (zwk_c (zwk_n (zwk_c (zwk_n (zwk_n (zwk_n (zwk_n zwk_e)))))))
  exact zK.weak (L_14 _ v1 M1 J2 hI3 hK6 (by omega) (by omega) (Int.self_le_toNat _)) (zwk_c (zwk_n (zwk_c (zwk_n (zwk_n (zwk_n (zwk_n zwk_e)))))))
theorem c_X6_cutLine {w : zWp} {T : zTl} {M : zMm} {J : zJm} {R : zRm'} {G : zGt} {F : zRm'} {a L : Nat} (hI : zI G M) (hF : zF F R) (h0 : zRunner T F G a L) (v1 : Int) (v2 : Int) (p1 : L ≤ 1000000) (p2 : 0 ≤ v1 ∧ v1 ≤ 3000) (p3 : -1 ≤ v2 ∧ v2 ≤ 440) : zCt w 3 0 0 yX6_cutLine cX6_cutLine 7 (some .boolean) [.ref (w.2.1 + a), zi v1, zi v2] (T, M, J, R) (zPi T R G (fun x M2 => (zKp G 4 M M2) ∧ (x = 0 ∨ x = 1))) := by
  refine zCt.of rfl (Nat.le_of_ble_eq_true rfl) ?_
  intro p e s m args below meth c C
  obtain ⟨Po, hPo⟩ : ∃ Po, Po = zPi T R G (fun x M2 => (zKp G 4 M M2) ∧ (x = 0 ∨ x = 1)) := ⟨_, rfl⟩
  rw [← hPo]
  have hK0 : zKp G 4 M M := zKp.rf
  show zK w p e 3 0 0 s m args below meth c 7 T Po 0 [.ref (w.2.1 + a), zi v1, zi v2, .null, .null, .null, .null] [] (T, M, J, R)
  refine q_aload_n C dX6_cutLine_0 (n := 1) rfl rfl ?_
  refine q_getR C dX6_cutLine_1 (n := 4) rfl f_X6_37 h0.1 (hF _ _ _ h0.2.2.2.2.2.2.2.2.2.2.2.2.2.2.2.2.2.2.2.2.2.2.1) ?_
  refine q_iconst C dX6_cutLine_4 (n := 5) rfl ?_
  refine q_putI C dX6_cutLine_5 (n := 8) rfl f_X6_103 h0.2.2.2.2.2.2.2.2.2.2.2.2.2.2.2.2.2.2.2.2.2.2.2.1.1 ⟨rfl, rfl⟩ (fun M1 (e2 : M1 = zup M (a + 9) 3 0) => ?_)
  have hI3 : zI G M1 := hI.put e2 h0.2.2.2.2.2.2.2.2.2.2.2.2.2.2.2.2.2.2.2.2.2.2.2.1.2.2.2.2.2.2.2.2.2.2 rfl (by omega)
  have hK4 := hK0.put e2 h0.2.2.2.2.2.2.2.2.2.2.2.2.2.2.2.2.2.2.2.2.2.2.2.1.2.2.2.2.2.2.2.2.2.2 (by decide)
  refine q_iconst C dX6_cutLine_8 (n := 9) rfl ?_
  refine q_istore_n C [.ref (w.2.1 + a), zi v1, zi v2, zi 0, .null, .null, .null] dX6_cutLine_9 (n := 10) rfl rfl rfl ?_
  have L_12 : ∀ n13 : Nat, ∀ (u5 : Int) (M6 : zMm) (J7 : zJm), zI G M6 → zKp G 4 M M6 → (-2147483648 ≤ u5 ∧ u5 ≤ 2147483647) → (0 ≤ u5 ∧ u5 ≤ 441) → (500 - u5 ≤ (n13 : Int)) → zK w p e 3 0 0 s m args below meth c 7 T Po 10 [.ref (w.2.1 + a), zi v1, zi v2, zi u5, .null, .null, .null] [] (T, M6, J7, R) := by
    intro n13
    induction n13 with
    | zero =>
      intro u5 M6 J7 hI8 hK9 h10 h11 hm15
      exfalso
      omega
    | succ n13 ih14 =>
      intro u5 M6 J7 hI8 hK9 h10 h11 hm15
      refine q_iload_n C dX6_cutLine_10 (n := 11) rfl rfl ?_
      refine q_iload_n C dX6_cutLine_11 (n := 12) rfl rfl ?_
      refine q_icmp_ge C 181 dX6_cutLine_12 (n := 15) rfl rfl (by omega) (fun h16 => ?_) (fun h16 => ?_)
      · refine q_iconst C dX6_cutLine_181 (n := 182) rfl ?_
        exact q_zret C dX6_cutLine_182 ⟨rfl, rfl⟩ (by omega) (by rw [hPo]; exact ⟨1, M6, J7, rfl, rfl, hI8, hK9, by omega⟩)
      · refine q_aload_n C dX6_cutLine_15 (n := 16) rfl rfl ?_
        refine q_getR C dX6_cutLine_16 (n := 19) rfl f_X6_71 h0.1 (hF _ _ _ h0.2.1) ?_
        refine q_iload_n C dX6_cutLine_19 (n := 20) rfl rfl ?_
        refine q_iload_n C dX6_cutLine_20 (n := 21) rfl rfl ?_
        refine q_iadd C dX6_cutLine_21 (n := 22) rfl (v := v1 + u5) rfl ?_
        refine q_callVp C dX6_cutLine_22 (n := 25) rfl m_X6_235 v_yX10_byteAt h0.2.2.1.1 ⟨by decide, rfl⟩ (c_X10_byteAt (w := w) (J := J7) hI8 hF h0.2.2.1 (v1 + u5) (by omega) (by omega)) (Nat.le_of_ble_eq_true rfl) rfl rfl (Nat.le_of_ble_eq_true rfl) ⟨Nat.le_refl _, Nat.le_refl _⟩ (fun x18 h19 => ?_)
        refine q_bipush C dX6_cutLine_25 (n := 27) rfl (x := 32) (by decide) ?_
        have J_27 : ∀ (u20 : Int) (M21 : zMm) (J22 : zJm), zI G M21 → zKp G 4 M M21 → (-2147483648 ≤ u20 ∧ u20 ≤ 2147483647) → (u5 ≤ u20 ∧ u20 ≤ 440) → zK w p e 3 0 0 s m args below meth c 7 T Po 175 [.ref (w.2.1 + a), zi v1, zi v2, zi u20, .null, .null, .null] [] (T, M21, J22, R) := by
          intro u20 M21 J22 hI23 hK24 h25 h26
          refine q_iinc C [.ref (w.2.1 + a), zi v1, zi v2, zi (u20 + 1), .null, .null, .null] dX6_cutLine_175 (n := 178) rfl rfl rfl rfl ?_
          refine q_goto C 10 dX6_cutLine_178 rfl ?_
          exact zK.weak (ih14 (u20 + 1) M21 J22 hI23 hK24 (by omega) (by omega) (by omega)) (zwk_c (zwk_c (zwk_c (zwk_c (zwk_n (zwk_n (zwk_n zwk_e)))))))
        refine q_icmp_ne C 33 dX6_cutLine_27 (n := 30) rfl rfl (by omega) (fun h28 => ?_) (fun h28 => ?_)
        · refine q_aload_n C dX6_cutLine_33 (n := 34) rfl rfl ?_
          have g29 := zI.at hI h0.2.2.2.2.2.2.2.2.2.2.2.2.2.2.2.2.2.2.2.2.2.2.2.2.2.2.2.2.2.2.2.2.2.2.2.2.2.2.2.2.2.2.2.2
          refine q_getI C dX6_cutLine_34 (n := 37) rfl f_X6_65 h0.1 (v := M a 19) (hK9 _ _ (zle_t h0.2.2.2.2.2.2.2.2.2.2.2.2.2.2.2.2.2.2.2.2.2.2.2.2.2.2.2.2.2.2.2.2.2.2.2.2.2.2.2.2.2.2.2.2 (by decide))) ?_
          refine q_callSp C dX6_cutLine_37 (n := 40) rfl m_X6_238 s_yX5_fileOf (c_X5_fileOf (w := w) (J := J7) hI8 hF (M a 19)) (Nat.le_of_ble_eq_true rfl) rfl rfl (Nat.le_of_ble_eq_true rfl) ⟨Nat.le_refl _, Nat.le_refl _⟩ (fun x31 h32 => ?_)
          refine q_aload_n C dX6_cutLine_40 (n := 41) rfl rfl ?_
          refine q_getI C dX6_cutLine_41 (n := 44) rfl f_X6_65 h0.1 (v := M a 19) (hK9 _ _ (zle_t h0.2.2.2.2.2.2.2.2.2.2.2.2.2.2.2.2.2.2.2.2.2.2.2.2.2.2.2.2.2.2.2.2.2.2.2.2.2.2.2.2.2.2.2.2 (by decide))) ?_
          refine q_callSp C dX6_cutLine_44 (n := 47) rfl m_X6_241 s_yX5_lineOf (c_X5_lineOf (w := w) (J := J7) hI8 hF (M a 19)) (Nat.le_of_ble_eq_true rfl) rfl rfl (Nat.le_of_ble_eq_true rfl) ⟨Nat.le_refl _, Nat.le_refl _⟩ (fun x34 h35 => ?_)
          refine q_iload_n C dX6_cutLine_47 (n := 48) rfl rfl ?_
          refine q_callSp C dX6_cutLine_48 (n := 51) rfl m_X6_165 s_yX5_origin (c_X5_origin (w := w) (J := J7) hI8 hF x31 x34 u5) (Nat.le_of_ble_eq_true rfl) rfl rfl (Nat.le_of_ble_eq_true rfl) ⟨Nat.le_refl _, Nat.le_refl _⟩ (fun x38 h39 => ?_)
          obtain ⟨h36, h37⟩ := h39
          refine q_istore C [.ref (w.2.1 + a), zi v1, zi v2, zi u5, zi x38, .null, .null] dX6_cutLine_51 (n := 53) rfl rfl rfl ?_
          refine q_aload_n C dX6_cutLine_53 (n := 54) rfl rfl ?_
          refine q_getR C dX6_cutLine_54 (n := 57) rfl f_X6_71 h0.1 (hF _ _ _ h0.2.1) ?_
          refine q_iload_n C dX6_cutLine_57 (n := 58) rfl rfl ?_
          refine q_iload_n C dX6_cutLine_58 (n := 59) rfl rfl ?_
          refine q_iadd C dX6_cutLine_59 (n := 60) rfl (v := v1 + u5) rfl ?_
          refine q_iload_n C dX6_cutLine_60 (n := 61) rfl rfl ?_
          refine q_iload_n C dX6_cutLine_61 (n := 62) rfl rfl ?_
          refine q_iadd C dX6_cutLine_62 (n := 63) rfl (v := v1 + v2) rfl ?_
          refine q_callVp C dX6_cutLine_63 (n := 66) rfl m_X6_244 v_yX10_endOf h0.2.2.1.1 ⟨by decide, rfl⟩ (c_X10_endOf (w := w) (J := J7) hI8 hF h0.2.2.1 (v1 + u5) (v1 + v2) (by omega) (by omega) (by omega)) (Nat.le_of_ble_eq_true rfl) rfl rfl (Nat.le_of_ble_eq_true rfl) ⟨Nat.le_refl _, Nat.le_refl _⟩ (fun x41 h42 => ?_)
          refine q_istore C [.ref (w.2.1 + a), zi v1, zi v2, zi u5, zi x38, zi x41, .null] dX6_cutLine_66 (n := 68) rfl rfl rfl ?_
          refine q_iload C dX6_cutLine_68 (n := 70) rfl rfl ?_
          refine q_iload_n C dX6_cutLine_70 (n := 71) rfl rfl ?_
          refine q_isub C dX6_cutLine_71 (n := 72) rfl (v := x41 - v1) rfl ?_
          refine q_iload_n C dX6_cutLine_72 (n := 73) rfl rfl ?_
          refine q_isub C dX6_cutLine_73 (n := 74) rfl (v := (x41 - v1) - u5) rfl ?_
          refine q_istore C [.ref (w.2.1 + a), zi v1, zi v2, zi u5, zi x38, zi x41, zi ((x41 - v1) - u5)] dX6_cutLine_74 (n := 76) rfl rfl rfl ?_
          refine q_iload C dX6_cutLine_76 (n := 78) rfl rfl ?_
          refine q_iconst C dX6_cutLine_78 (n := 79) rfl ?_
          have J_43 : zK w p e 3 0 0 s m args below meth c 7 T Po 89 [.ref (w.2.1 + a), .null, .null, .null, zi x38, .null, .null] [] (T, M6, J7, R) := by
            refine q_aload_n C dX6_cutLine_89 (n := 90) rfl rfl ?_
            refine q_getR C dX6_cutLine_90 (n := 93) rfl f_X6_12 h0.1 (hF _ _ _ h0.2.2.2.1) ?_
            refine q_iconst C dX6_cutLine_93 (n := 94) rfl ?_
            refine q_iload C dX6_cutLine_94 (n := 96) rfl rfl ?_
            refine q_callVv C dX6_cutLine_96 (n := 99) rfl m_X6_180 v_yX1_meet h0.2.2.2.2.1.1 ⟨by decide, rfl⟩ (c_X1_meet (w := w) (J := J7) hI8 hF h0.2.2.2.2.1 1 x38 (by omega) (by omega)) (Nat.le_of_ble_eq_true rfl) rfl rfl (Nat.le_of_ble_eq_true rfl) ⟨Nat.le_refl _, Nat.le_refl _⟩ (fun M44 J45  hI46 h47 => ?_)
            have hK49 := hK9.tr h47 (by decide)
            refine q_iconst C dX6_cutLine_99 (n := 100) rfl ?_
            exact q_zret C dX6_cutLine_100 ⟨rfl, rfl⟩ (by omega) (by rw [hPo]; exact ⟨0, M44, J45, rfl, rfl, hI46, hK49, by omega⟩)
          refine q_icmp_eq C 89 dX6_cutLine_79 (n := 82) rfl rfl (by omega) (fun h50 => ?_) (fun h50 => ?_)
          · exact zK.weak (J_43) (zwk_c (zwk_n (zwk_n (zwk_n (zwk_c (zwk_n (zwk_n zwk_e)))))))
          · refine q_iload C dX6_cutLine_82 (n := 84) rfl rfl ?_
            refine q_bipush C dX6_cutLine_84 (n := 86) rfl (x := 30) (by decide) ?_
            refine q_icmp_le C 101 dX6_cutLine_86 (n := 89) rfl rfl (by omega) (fun h51 => ?_) (fun h51 => ?_)
            · refine q_iload C dX6_cutLine_101 (n := 103) rfl rfl ?_
              refine q_aload_n C dX6_cutLine_103 (n := 104) rfl rfl ?_
              refine q_getR C dX6_cutLine_104 (n := 107) rfl f_X6_71 h0.1 (hF _ _ _ h0.2.1) ?_
              refine q_iload_n C dX6_cutLine_107 (n := 108) rfl rfl ?_
              refine q_iload_n C dX6_cutLine_108 (n := 109) rfl rfl ?_
              refine q_iadd C dX6_cutLine_109 (n := 110) rfl (v := v1 + u5) rfl ?_
              refine q_callVp C dX6_cutLine_110 (n := 113) rfl m_X6_247 v_yX10_kindAt h0.2.2.1.1 ⟨by decide, rfl⟩ (c_X10_kindAt (w := w) (J := J7) hI8 hF h0.2.2.1 (v1 + u5) (by omega) (by omega)) (Nat.le_of_ble_eq_true rfl) rfl rfl (Nat.le_of_ble_eq_true rfl) ⟨Nat.le_refl _, Nat.le_refl _⟩ (fun x53 h54 => ?_)
              refine q_iload C dX6_cutLine_113 (n := 115) rfl rfl ?_
              refine q_callSp C dX6_cutLine_115 (n := 118) rfl m_X6_250 s_yX5_shape (c_X5_shape (w := w) (J := J7) hI8 hF x53 ((x41 - v1) - u5)) (Nat.le_of_ble_eq_true rfl) rfl rfl (Nat.le_of_ble_eq_true rfl) ⟨Nat.le_refl _, Nat.le_refl _⟩ (fun x57 h58 => ?_)
              obtain ⟨h55, h56⟩ := h58
              refine q_ior C dX6_cutLine_118 (n := 119) rfl (v := zor x38 x57) rfl ?_
              have g59 := zr_or x38 x57
              have g60 : zand x38 31 = 0 → zand (zor x38 x57) 31 = zand x57 31 := fun h => zl_or h
              refine q_istore C [.ref (w.2.1 + a), zi v1, zi v2, zi u5, zi (zor x38 x57), zi x41, zi ((x41 - v1) - u5)] dX6_cutLine_119 (n := 121) rfl rfl rfl ?_
              refine q_iload_n C dX6_cutLine_121 (n := 122) rfl rfl ?_
              have J_64 : ∀ (u61 : Int), (-2147483648 ≤ u61 ∧ u61 ≤ 2147483647) → (zand u61 31 = ((x41 - v1) - u5)) → zK w p e 3 0 0 s m args below meth c 7 T Po 150 [.ref (w.2.1 + a), zi v1, zi v2, zi u5, zi u61, .null, zi ((x41 - v1) - u5)] [] (T, M6, J7, R) := by
                intro u61 h62 h63
                refine q_aload_n C dX6_cutLine_150 (n := 151) rfl rfl ?_
                refine q_getR C dX6_cutLine_151 (n := 154) rfl f_X6_37 h0.1 (hF _ _ _ h0.2.2.2.2.2.2.2.2.2.2.2.2.2.2.2.2.2.2.2.2.2.2.1) ?_
                refine q_iload_n C dX6_cutLine_154 (n := 155) rfl rfl ?_
                refine q_iload_n C dX6_cutLine_155 (n := 156) rfl rfl ?_
                refine q_iadd C dX6_cutLine_156 (n := 157) rfl (v := v1 + u5) rfl ?_
                refine q_iload C dX6_cutLine_157 (n := 159) rfl rfl ?_
                refine q_iconst C dX6_cutLine_159 (n := 160) rfl ?_
                refine q_callVi C dX6_cutLine_160 (n := 163) rfl m_X6_253 v_yX5_add h0.2.2.2.2.2.2.2.2.2.2.2.2.2.2.2.2.2.2.2.2.2.2.2.1.1 ⟨by decide, rfl⟩ (c_X5_add (w := w) (J := J7) hI8 hF h0.2.2.2.2.2.2.2.2.2.2.2.2.2.2.2.2.2.2.2.2.2.2.2.1 (v1 + u5) u61 0 (by omega) (by omega) (by omega) (by omega)) (Nat.le_of_ble_eq_true rfl) rfl rfl (Nat.le_of_ble_eq_true rfl) ⟨Nat.le_refl _, Nat.le_refl _⟩ (fun x72 M68 J69  hI70 h71 => ?_)
                obtain ⟨hk73, h65, h66, h67⟩ := h71
                have hK74 := hK9.tr hk73 (by decide)
                refine q_pop C dX6_cutLine_163 (n := 164) rfl rfl ?_
                refine q_iload_n C dX6_cutLine_164 (n := 165) rfl rfl ?_
                refine q_iload C dX6_cutLine_165 (n := 167) rfl rfl ?_
                refine q_iconst C dX6_cutLine_167 (n := 168) rfl ?_
                refine q_mmax C dX6_cutLine_168 (n := 171) rfl x_X6_257 (by omega) (Nat.le_of_ble_eq_true rfl) (Nat.le_of_ble_eq_true rfl) ⟨Nat.le_refl _, Nat.le_refl _⟩ (fun x75 h76 h77 h78 => ?_)
                refine q_iconst C dX6_cutLine_171 (n := 172) rfl ?_
                refine q_isub C dX6_cutLine_172 (n := 173) rfl (v := x75 - 1) rfl ?_
                refine q_iadd C dX6_cutLine_173 (n := 174) rfl (v := u5 + (x75 - 1)) rfl ?_
                refine q_istore_n C [.ref (w.2.1 + a), zi v1, zi v2, zi (u5 + (x75 - 1)), zi u61, .null, zi ((x41 - v1) - u5)] dX6_cutLine_174 (n := 175) rfl rfl rfl ?_
                exact zK.weak (J_27 (u5 + (x75 - 1)) M68 J69 hI70 hK74 (by omega) (by omega)) (zwk_c (zwk_c (zwk_c (zwk_c (zwk_n (zwk_n (zwk_n zwk_e)))))))
              refine q_if_le C 150 dX6_cutLine_122 (n := 125) rfl rfl (by omega) (fun h79 => ?_) (fun h79 => ?_)
              · exact zK.weak (J_64 (zor x38 x57) (by omega) (by omega)) (zwk_c (zwk_c (zwk_c (zwk_c (zwk_c (zwk_n (zwk_c zwk_e)))))))
              · refine q_aload_n C dX6_cutLine_125 (n := 126) rfl rfl ?_
                refine q_getR C dX6_cutLine_126 (n := 129) rfl f_X6_71 h0.1 (hF _ _ _ h0.2.1) ?_
                refine q_iload_n C dX6_cutLine_129 (n := 130) rfl rfl ?_
                refine q_iload_n C dX6_cutLine_130 (n := 131) rfl rfl ?_
                refine q_iadd C dX6_cutLine_131 (n := 132) rfl (v := v1 + u5) rfl ?_
                refine q_iconst C dX6_cutLine_132 (n := 133) rfl ?_
                refine q_isub C dX6_cutLine_133 (n := 134) rfl (v := (v1 + u5) - 1) rfl ?_
                refine q_callVp C dX6_cutLine_134 (n := 137) rfl m_X6_235 v_yX10_byteAt h0.2.2.1.1 ⟨by decide, rfl⟩ (c_X10_byteAt (w := w) (J := J7) hI8 hF h0.2.2.1 ((v1 + u5) - 1) (by omega) (by omega)) (Nat.le_of_ble_eq_true rfl) rfl rfl (Nat.le_of_ble_eq_true rfl) ⟨Nat.le_refl _, Nat.le_refl _⟩ (fun x81 h82 => ?_)
                refine q_bipush C dX6_cutLine_137 (n := 139) rfl (x := 32) (by decide) ?_
                refine q_icmp_ne C 150 dX6_cutLine_139 (n := 142) rfl rfl (by omega) (fun h83 => ?_) (fun h83 => ?_)
                · exact zK.weak (J_64 (zor x38 x57) (by omega) (by omega)) (zwk_c (zwk_c (zwk_c (zwk_c (zwk_c (zwk_n (zwk_c zwk_e)))))))
                · refine q_iload C dX6_cutLine_142 (n := 144) rfl rfl ?_
                  refine q_sipush C dX6_cutLine_144 (n := 147) rfl (x := 128) (by decide) ?_
                  refine q_ior C dX6_cutLine_147 (n := 148) rfl (v := zor (zor x38 x57) 128) rfl ?_
                  have g84 := zr_or (zor x38 x57) 128
                  have g85 := zl_128 (zor x38 x57)
                  refine q_istore C [.ref (w.2.1 + a), zi v1, zi v2, zi u5, zi (zor (zor x38 x57) 128), zi x41, zi ((x41 - v1) - u5)] dX6_cutLine_148 (n := 150) rfl rfl rfl ?_
                  exact zK.weak (J_64 (zor (zor x38 x57) 128) (by omega) (by omega)) (zwk_c (zwk_c (zwk_c (zwk_c (zwk_c (zwk_n (zwk_c zwk_e)))))))
            · exact zK.weak (J_43) (zwk_c (zwk_n (zwk_n (zwk_n (zwk_c (zwk_n (zwk_n zwk_e)))))))
        · refine q_goto C 175 dX6_cutLine_30 rfl ?_
          exact zK.weak (J_27 u5 M6 J7 hI8 hK9 (by omega) (by omega)) (zwk_c (zwk_c (zwk_c (zwk_c (zwk_n (zwk_n (zwk_n zwk_e)))))))
  exact zK.weak (L_12 _ 0 M1 J hI3 hK4 (by omega) (by omega) (Int.self_le_toNat _)) (zwk_c (zwk_c (zwk_c (zwk_c (zwk_n (zwk_n (zwk_n zwk_e)))))))
