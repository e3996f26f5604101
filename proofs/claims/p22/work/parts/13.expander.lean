theorem c_X0_clear {w : zWp} {T : zTl} {M : zMm} {J : zJm} {R : zRm'} {G : zGt} {F : zRm'} {a t mc q L : Nat} (hI : zI G M) (hF : zF F R) (h0 : zExpander T F G a t mc q L) : zCt w 1 0 0 yX0_clear cX0_clear 1 none [.ref (w.2.1 + a)] (T, M, J, R) (zPv T R G (fun M2 => (zKp G 1 M M2))) := by
  refine zCt.of rfl (Nat.le_of_ble_eq_true rfl) ?_
  intro p e s m args below meth c C
  obtain ⟨Po, hPo⟩ : ∃ Po, Po = zPv T R G (fun M2 => (zKp G 1 M M2)) := ⟨_, rfl⟩
  rw [← hPo]
  have hK0 : zKp G 1 M M := zKp.rf
  show zK w p e 1 0 0 s m args below meth c 1 T Po 0 [.ref (w.2.1 + a)] [] (T, M, J, R)
  refine q_aload_n C dX0_clear_0 (n := 1) rfl rfl ?_
  refine q_getR C dX0_clear_1 (n := 4) rfl f_X0_14 h0.1 (hF _ _ _ h0.2.2.2.2.2.2.2.1) ?_
  refine q_iconst C dX0_clear_4 (n := 5) rfl ?_
  refine q_putI C dX0_clear_5 (n := 8) rfl f_X0_60 h0.2.2.2.2.2.2.2.2.1.1 ⟨rfl, rfl⟩ (fun M1 (e2 : M1 = zup M (a + 1) 3 0) => ?_)
  have hI3 : zI G M1 := hI.put e2 h0.2.2.2.2.2.2.2.2.1.2.2.2.2.2.2.2.2.2.2 rfl (by omega)
  have hK4 := hK0.put e2 h0.2.2.2.2.2.2.2.2.1.2.2.2.2.2.2.2.2.2.2 (by decide)
  exact q_vret C dX0_clear_8 ⟨rfl, rfl⟩ (by rw [hPo]; exact ⟨M1, J, rfl, rfl, hI3, hK4⟩)
theorem c_X0_load {w : zWp} {T : zTl} {M : zMm} {J : zJm} {R : zRm'} {G : zGt} {F : zRm'} {a t mc q L : Nat} (hI : zI G M) (hF : zF F R) (h0 : zExpander T F G a t mc q L) (v1 : Int) (v2 : Int) (p1 : 0 ≤ v1 ∧ v1 + zand v2 31 ≤ L ∧ zand v2 31 ≤ 30) (p2 : -2147483648 ≤ v2 ∧ v2 ≤ 2147483647) : zCt w 2 0 0 yX0_load cX0_load 4 none [.ref (w.2.1 + a), zi v1, zi v2] (T, M, J, R) (zPv T R G (fun M2 => (zKp G 4 M M2))) := by
  refine zCt.of rfl (Nat.le_of_ble_eq_true rfl) ?_
  intro p e s m args below meth c C
  obtain ⟨Po, hPo⟩ : ∃ Po, Po = zPv T R G (fun M2 => (zKp G 4 M M2)) := ⟨_, rfl⟩
  rw [← hPo]
  have hK0 : zKp G 4 M M := zKp.rf
  show zK w p e 2 0 0 s m args below meth c 4 T Po 0 [.ref (w.2.1 + a), zi v1, zi v2, .null] [] (T, M, J, R)
  refine q_aload_n C dX0_load_0 (n := 1) rfl rfl ?_
  refine q_getR C dX0_load_1 (n := 4) rfl f_X0_14 h0.1 (hF _ _ _ h0.2.2.2.2.2.2.2.1) ?_
  have g1 := zI.at hI h0.2.2.2.2.2.2.2.2.1.2.2.2.2.2.2.2.2.2.2
  refine q_getI C dX0_load_4 (n := 7) rfl f_X0_60 h0.2.2.2.2.2.2.2.2.1.1 (v := M (a + 1) 3) rfl ?_
  refine q_istore_n C [.ref (w.2.1 + a), zi v1, zi v2, zi (M (a + 1) 3)] dX0_load_7 (n := 8) rfl rfl rfl ?_
  refine q_aload_n C dX0_load_8 (n := 9) rfl rfl ?_
  refine q_getR C dX0_load_9 (n := 12) rfl f_X0_14 h0.1 (hF _ _ _ h0.2.2.2.2.2.2.2.1) ?_
  refine q_iload_n C dX0_load_12 (n := 13) rfl rfl ?_
  refine q_iload_n C dX0_load_13 (n := 14) rfl rfl ?_
  refine q_iconst C dX0_load_14 (n := 15) rfl ?_
  refine q_callVi C dX0_load_15 (n := 18) rfl m_X0_63 v_yX5_add h0.2.2.2.2.2.2.2.2.1.1 ⟨by decide, rfl⟩ (c_X5_add (w := w) (J := J) hI hF h0.2.2.2.2.2.2.2.2.1 v1 v2 0 (by omega) (by omega) (by omega) (by omega)) (Nat.le_of_ble_eq_true rfl) rfl rfl (Nat.le_of_ble_eq_true rfl) ⟨Nat.le_refl _, Nat.le_refl _⟩ (fun x9 M5 J6  hI7 h8 => ?_)
  obtain ⟨hk10, h2, h3, h4⟩ := h8
  have hK11 := hK0.tr hk10 (by decide)
  refine q_if_eq C 41 dX0_load_18 (n := 21) rfl rfl (by omega) (fun h12 => ?_) (fun h12 => ?_)
  · exact q_vret C dX0_load_41 ⟨rfl, rfl⟩ (by rw [hPo]; exact ⟨M5, J6, rfl, rfl, hI7, hK11⟩)
  · refine q_aload_n C dX0_load_21 (n := 22) rfl rfl ?_
    refine q_getR C dX0_load_22 (n := 25) rfl f_X0_20 h0.1 (hF _ _ _ h0.2.2.2.2.2.2.2.2.2.1) ?_
    refine q_iload_n C dX0_load_25 (n := 26) rfl rfl ?_
    refine q_iconst C dX0_load_26 (n := 27) rfl ?_
    refine q_iast C dX0_load_27 (n := 28) rfl h0.2.2.2.2.2.2.2.2.2.2.1 (by omega)  (fun M13 e14 => ?_)
    have hI15 : zI G M13 := hI7.put e14 (h0.2.2.2.2.2.2.2.2.2.2.2.1 (M (a + 1) 3)) rfl (by omega)
    have hK16 := hK11.put e14 (h0.2.2.2.2.2.2.2.2.2.2.2.1 (M (a + 1) 3)) (by decide)
    refine q_iload_n C dX0_load_28 (n := 29) rfl rfl ?_
    refine q_if_le C 41 dX0_load_29 (n := 32) rfl rfl (by omega) (fun h17 => ?_) (fun h17 => ?_)
    · exact q_vret C dX0_load_41 ⟨rfl, rfl⟩ (by rw [hPo]; exact ⟨M13, J6, rfl, rfl, hI15, hK16⟩)
    · refine q_aload_n C dX0_load_32 (n := 33) rfl rfl ?_
      refine q_getR C dX0_load_33 (n := 36) rfl f_X0_20 h0.1 (hF _ _ _ h0.2.2.2.2.2.2.2.2.2.1) ?_
      refine q_iload_n C dX0_load_36 (n := 37) rfl rfl ?_
      refine q_iconst C dX0_load_37 (n := 38) rfl ?_
      refine q_isub C dX0_load_38 (n := 39) rfl (v := (M (a + 1) 3) - 1) rfl ?_
      refine q_iload_n C dX0_load_39 (n := 40) rfl rfl ?_
      refine q_iast C dX0_load_40 (n := 41) rfl h0.2.2.2.2.2.2.2.2.2.2.1 (by omega)  (fun M18 e19 => ?_)
      have hI20 : zI G M18 := hI15.put e19 (h0.2.2.2.2.2.2.2.2.2.2.2.1 ((M (a + 1) 3) - 1)) rfl (by omega)
      have hK21 := hK16.put e19 (h0.2.2.2.2.2.2.2.2.2.2.2.1 ((M (a + 1) 3) - 1)) (by decide)
      exact q_vret C dX0_load_41 ⟨rfl, rfl⟩ (by rw [hPo]; exact ⟨M18, J6, rfl, rfl, hI20, hK21⟩)
theorem c_X0_openArgument {w : zWp} {T : zTl} {M : zMm} {J : zJm} {R : zRm'} {G : zGt} {F : zRm'} {a t mc q L fp : Nat} (hI : zI G M) (hF : zF F R) (h0 : zExpander T F G a t mc q L) (h_frame : zFrame T F G fp L) (v1 : Int) (v2 : Int) (p1 : -2147483648 ≤ v1 ∧ v1 ≤ 2147483647) (p2 : v2 = 0 ∨ v2 = 1) : zCt w 2 0 0 yX0_openArgument cX0_openArgument 4 none [.ref (w.2.1 + a), .ref (w.2.1 + fp), zi v1, zi v2] (T, M, J, R) (zPv T R G (fun M2 => (zKp G 11 M M2))) := by
  refine zCt.of rfl (Nat.le_of_ble_eq_true rfl) ?_
  intro p e s m args below meth c C
  obtain ⟨Po, hPo⟩ : ∃ Po, Po = zPv T R G (fun M2 => (zKp G 11 M M2)) := ⟨_, rfl⟩
  rw [← hPo]
  have hK0 : zKp G 11 M M := zKp.rf
  show zK w p e 2 0 0 s m args below meth c 4 T Po 0 [.ref (w.2.1 + a), .ref (w.2.1 + fp), zi v1, zi v2] [] (T, M, J, R)
  refine q_iload_n C dX0_openArgument_0 (n := 1) rfl rfl ?_
  refine q_if_lt C 70 dX0_openArgument_1 (n := 4) rfl rfl (by omega) (fun h1 => ?_) (fun h1 => ?_)
  · exact q_vret C dX0_openArgument_70 ⟨rfl, rfl⟩ (by rw [hPo]; exact ⟨M, J, rfl, rfl, hI, hK0⟩)
  · refine q_iload_n C dX0_openArgument_4 (n := 5) rfl rfl ?_
    refine q_iconst C dX0_openArgument_5 (n := 6) rfl ?_
    refine q_icmp_ge C 70 dX0_openArgument_6 (n := 9) rfl rfl (by omega) (fun h2 => ?_) (fun h2 => ?_)
    · exact q_vret C dX0_openArgument_70 ⟨rfl, rfl⟩ (by rw [hPo]; exact ⟨M, J, rfl, rfl, hI, hK0⟩)
    · refine q_aload_n C dX0_openArgument_9 (n := 10) rfl rfl ?_
      have g3 := zI.at hI h0.2.2.2.2.2.2.2.2.2.2.2.2.2.2.2.1
      refine q_getI C dX0_openArgument_10 (n := 13) rfl f_X0_30 h0.1 (v := M a 6) rfl ?_
      refine q_iconst C dX0_openArgument_13 (n := 14) rfl ?_
      refine q_iadd C dX0_openArgument_14 (n := 15) rfl (v := (M a 6) + 1) rfl ?_
      refine q_aload_n C dX0_openArgument_15 (n := 16) rfl rfl ?_
      refine q_getR C dX0_openArgument_16 (n := 19) rfl f_X0_26 h0.1 (hF _ _ _ h0.2.2.2.2.2.2.2.2.2.2.2.2.1) ?_
      refine q_alen C dX0_openArgument_19 (n := 20) rfl ⟨by decide, by decide⟩ h0.2.2.2.2.2.2.2.2.2.2.2.2.2.1 ?_
      show zK w p e 2 0 0 s m args below meth c 4 T Po 20 [.ref (w.2.1 + a), .ref (w.2.1 + fp), zi v1, zi v2] [zi 101, zi ((M a 6) + 1)] (T, M, J, R)
      refine q_icmp_ge C 70 dX0_openArgument_20 (n := 23) rfl rfl (by omega) (fun h4 => ?_) (fun h4 => ?_)
      · exact q_vret C dX0_openArgument_70 ⟨rfl, rfl⟩ (by rw [hPo]; exact ⟨M, J, rfl, rfl, hI, hK0⟩)
      · refine q_aload_n C dX0_openArgument_23 (n := 24) rfl rfl ?_
        refine q_dup C dX0_openArgument_24 (n := 25) rfl rfl ?_
        refine q_getI C dX0_openArgument_25 (n := 28) rfl f_X0_30 h0.1 (v := M a 6) rfl ?_
        refine q_iconst C dX0_openArgument_28 (n := 29) rfl ?_
        refine q_iadd C dX0_openArgument_29 (n := 30) rfl (v := (M a 6) + 1) rfl ?_
        refine q_putI C dX0_openArgument_30 (n := 33) rfl f_X0_30 h0.1 ⟨rfl, rfl⟩ (fun M5 (e6 : M5 = zup M a 6 ((M a 6) + 1)) => ?_)
        have hI7 : zI G M5 := hI.put e6 h0.2.2.2.2.2.2.2.2.2.2.2.2.2.2.2.1 rfl (by omega)
        have hK8 := hK0.put e6 h0.2.2.2.2.2.2.2.2.2.2.2.2.2.2.2.1 (by decide)
        refine q_aload_n C dX0_openArgument_33 (n := 34) rfl rfl ?_
        refine q_getR C dX0_openArgument_34 (n := 37) rfl f_X0_26 h0.1 (hF _ _ _ h0.2.2.2.2.2.2.2.2.2.2.2.2.1) ?_
        refine q_aload_n C dX0_openArgument_37 (n := 38) rfl rfl ?_
        refine q_getI C dX0_openArgument_38 (n := 41) rfl f_X0_30 h0.1 (v := (M a 6) + 1) (zup_s e6) ?_
        refine q_aald C dX0_openArgument_41 (n := 42) rfl ⟨by decide, by decide⟩ h0.2.2.2.2.2.2.2.2.2.2.2.2.2.1 (by omega) (hF _ _ _ (h0.2.2.2.2.2.2.2.2.2.2.2.2.2.2.1 ((M a 6) + 1) (by omega) (by omega)).1) ?_
        refine q_aload_n C dX0_openArgument_42 (n := 43) rfl rfl ?_
        refine q_getR C dX0_openArgument_43 (n := 46) rfl f_X0_159 h_frame.1 (hF _ _ _ h_frame.2.2.2.2.2.2.2.2.2.2.1) ?_
        refine q_iload_n C dX0_openArgument_46 (n := 47) rfl rfl ?_
        have g9 := zI.at hI (h_frame.2.2.2.2.2.2.2.2.2.2.2.2.1 v1)
        refine q_iald C dX0_openArgument_47 (n := 48) rfl h_frame.2.2.2.2.2.2.2.2.2.2.2.1 (by omega) (v := M (fp + 1) v1) (zup_n e6 (zne_t (h_frame.2.2.2.2.2.2.2.2.2.2.2.2.1 v1) h0.2.2.2.2.2.2.2.2.2.2.2.2.2.2.2.1 (by decide))) ?_
        refine q_aload_n C dX0_openArgument_48 (n := 49) rfl rfl ?_
        refine q_getR C dX0_openArgument_49 (n := 52) rfl f_X0_162 h_frame.1 (hF _ _ _ h_frame.2.2.2.2.2.2.2.2.2.2.2.2.2.1) ?_
        refine q_iload_n C dX0_openArgument_52 (n := 53) rfl rfl ?_
        have g10 := zI.at hI (h_frame.2.2.2.2.2.2.2.2.2.2.2.2.2.2.2.1 v1)
        refine q_iald C dX0_openArgument_53 (n := 54) rfl h_frame.2.2.2.2.2.2.2.2.2.2.2.2.2.2.1 (by omega) (v := M (fp + 2) v1) (zup_n e6 (zne_t (h_frame.2.2.2.2.2.2.2.2.2.2.2.2.2.2.2.1 v1) h0.2.2.2.2.2.2.2.2.2.2.2.2.2.2.2.1 (by decide))) ?_
        refine q_callVv C dX0_openArgument_54 (n := 57) rfl m_X0_67 v_yX2_enterRow (h0.2.2.2.2.2.2.2.2.2.2.2.2.2.2.1 ((M a 6) + 1) (by omega) (by omega)).2.1 ⟨by decide, rfl⟩ (c_X2_enterRow (w := w) (J := J) hI7 hF (h0.2.2.2.2.2.2.2.2.2.2.2.2.2.2.1 ((M a 6) + 1) (by omega) (by omega)).2 (M (fp + 1) v1) (M (fp + 2) v1) (by omega) (by omega)) (Nat.le_of_ble_eq_true rfl) rfl rfl (Nat.le_of_ble_eq_true rfl) ⟨Nat.le_refl _, Nat.le_refl _⟩ (fun M11 J12  hI13 h14 => ?_)
        have hK16 := hK8.tr h14 (by decide)
        refine q_aload_n C dX0_openArgument_57 (n := 58) rfl rfl ?_
        refine q_getR C dX0_openArgument_58 (n := 61) rfl f_X0_26 h0.1 (hF _ _ _ h0.2.2.2.2.2.2.2.2.2.2.2.2.1) ?_
        refine q_aload_n C dX0_openArgument_61 (n := 62) rfl rfl ?_
        refine q_getI C dX0_openArgument_62 (n := 65) rfl f_X0_30 h0.1 (v := (M a 6) + 1) ((h14 _ _ (zle_t h0.2.2.2.2.2.2.2.2.2.2.2.2.2.2.2.1 (by decide))).trans (zup_s e6)) ?_
        refine q_aald C dX0_openArgument_65 (n := 66) rfl ⟨by decide, by decide⟩ h0.2.2.2.2.2.2.2.2.2.2.2.2.2.1 (by omega) (hF _ _ _ (h0.2.2.2.2.2.2.2.2.2.2.2.2.2.2.1 ((M a 6) + 1) (by omega) (by omega)).1) ?_
        refine q_iload_n C dX0_openArgument_66 (n := 67) rfl rfl ?_
        refine q_putZ C dX0_openArgument_67 (n := 70) rfl f_X0_90 (h0.2.2.2.2.2.2.2.2.2.2.2.2.2.2.1 ((M a 6) + 1) (by omega) (by omega)).2.1 ⟨rfl, rfl⟩ (by omega) (fun M17 (e18 : M17 = zup M11 (a + 7 + 7 * ((M a 6) + 1 : Int).toNat) 2 v2) => ?_)
        have hI19 : zI G M17 := hI13.put e18 (h0.2.2.2.2.2.2.2.2.2.2.2.2.2.2.1 ((M a 6) + 1) (by omega) (by omega)).2.2.2.2.1 rfl (by omega)
        have hK20 := hK16.put e18 (h0.2.2.2.2.2.2.2.2.2.2.2.2.2.2.1 ((M a 6) + 1) (by omega) (by omega)).2.2.2.2.1 (by decide)
        exact q_vret C dX0_openArgument_70 ⟨rfl, rfl⟩ (by rw [hPo]; exact ⟨M17, J12, rfl, rfl, hI19, hK20⟩)
theorem c_X0_findArguments {w : zWp} {T : zTl} {M : zMm} {J : zJm} {R : zRm'} {G : zGt} {F : zRm'} {a t mc q L fp : Nat} (hI : zI G M) (hF : zF F R) (h0 : zExpander T F G a t mc q L) (h_frame : zFrame T F G fp L) (v1 : Int) (p1 : L ≤ 1000000) (p2 : 0 ≤ v1 ∧ v1 ≤ 3439) : zCt w 2 0 0 yX0_findArguments cX0_findArguments 8 (some .int) [.ref (w.2.1 + a), .ref (w.2.1 + fp), zi v1] (T, M, J, R) (zPi T R G (fun x M2 => (zKp G 1 M M2) ∧ (-1 ≤ x ∧ x ≤ 3439))) := by
  refine zCt.of rfl (Nat.le_of_ble_eq_true rfl) ?_
  intro p e s m args below meth c C
  obtain ⟨Po, hPo⟩ : ∃ Po, Po = zPi T R G (fun x M2 => (zKp G 1 M M2) ∧ (-1 ≤ x ∧ x ≤ 3439)) := ⟨_, rfl⟩
  rw [← hPo]
  have hK0 : zKp G 1 M M := zKp.rf
  show zK w p e 2 0 0 s m args below meth c 8 T Po 0 [.ref (w.2.1 + a), .ref (w.2.1 + fp), zi v1, .null, .null, .null, .null, .null] [] (T, M, J, R)
  refine q_iconst C dX0_findArguments_0 (n := 1) rfl ?_
  refine q_istore_n C [.ref (w.2.1 + a), .ref (w.2.1 + fp), zi v1, zi 0, .null, .null, .null, .null] dX0_findArguments_1 (n := 2) rfl rfl rfl ?_
  refine q_aload_n C dX0_findArguments_2 (n := 3) rfl rfl ?_
  refine q_getR C dX0_findArguments_3 (n := 6) rfl f_X0_20 h0.1 (hF _ _ _ h0.2.2.2.2.2.2.2.2.2.1) ?_
  refine q_iload_n C dX0_findArguments_6 (n := 7) rfl rfl ?_
  have g1 := zI.at hI (h0.2.2.2.2.2.2.2.2.2.2.2.1 v1)
  refine q_iald C dX0_findArguments_7 (n := 8) rfl h0.2.2.2.2.2.2.2.2.2.2.1 (by omega) (v := M (a + 5) v1) rfl ?_
  refine q_istore C [.ref (w.2.1 + a), .ref (w.2.1 + fp), zi v1, zi 0, zi (M (a + 5) v1), .null, .null, .null] dX0_findArguments_8 (n := 10) rfl rfl rfl ?_
  refine q_aload_n C dX0_findArguments_10 (n := 11) rfl rfl ?_
  refine q_iconst C dX0_findArguments_11 (n := 12) rfl ?_
  refine q_putI C dX0_findArguments_12 (n := 15) rfl f_X0_149 h_frame.1 ⟨rfl, rfl⟩ (fun M2 (e3 : M2 = zup M fp 8 0) => ?_)
  have hI4 : zI G M2 := hI.put e3 h_frame.2.2.2.2.2.2.2.2.2.1 rfl (by omega)
  have hK5 := hK0.put e3 h_frame.2.2.2.2.2.2.2.2.2.1 (by decide)
  refine q_iload C dX0_findArguments_15 (n := 17) rfl rfl ?_
  refine q_istore C [.ref (w.2.1 + a), .ref (w.2.1 + fp), zi v1, zi 0, zi (M (a + 5) v1), zi (M (a + 5) v1), .null, .null] dX0_findArguments_17 (n := 19) rfl rfl rfl ?_
  refine q_iconst C dX0_findArguments_19 (n := 20) rfl ?_
  refine q_istore C [.ref (w.2.1 + a), .ref (w.2.1 + fp), zi v1, zi 0, zi (M (a + 5) v1), zi (M (a + 5) v1), zi 0, .null] dX0_findArguments_20 (n := 22) rfl rfl rfl ?_
  have L_23 : ∀ n24 : Nat, ∀ (u6 : Int) (u7 : Int) (u8 : Int) (u9 : Int) (M10 : zMm) (J11 : zJm), zI G M10 → zKp G 1 M M10 → (-2147483648 ≤ u6 ∧ u6 ≤ 2147483647) → (-2147483648 ≤ u7 ∧ u7 ≤ 2147483647) → (-2147483648 ≤ u8 ∧ u8 ≤ 2147483647) → (-2147483648 ≤ u9 ∧ u9 ≤ 2147483647) → (0 ≤ u9 ∧ u9 ≤ 3440) → (-1 ≤ u7 ∧ u7 ≤ 3439) → (-1 ≤ u8 ∧ u8 ≤ 3439) → (-u9 ≤ u6 ∧ u6 ≤ u9) → (0 ≤ M10 fp 8 ∧ M10 fp 8 ≤ u9) → (3440 - u9 + 1 ≤ (n24 : Int)) → zK w p e 2 0 0 s m args below meth c 8 T Po 22 [.ref (w.2.1 + a), .ref (w.2.1 + fp), .null, zi u6, zi u7, zi u8, zi u9, .null] [] (T, M10, J11, R) := by
    intro n24
    induction n24 with
    | zero =>
      intro u6 u7 u8 u9 M10 J11 hI12 hK13 h14 h15 h16 h17 h18 h19 h20 h21 h22 hm26
      exfalso
      omega
    | succ n24 ih25 =>
      intro u6 u7 u8 u9 M10 J11 hI12 hK13 h14 h15 h16 h17 h18 h19 h20 h21 h22 hm26
      refine q_iload C dX0_findArguments_22 (n := 24) rfl rfl ?_
      refine q_sipush C dX0_findArguments_24 (n := 27) rfl (x := 3440) (by decide) ?_
      refine q_icmp_ge C 191 dX0_findArguments_27 (n := 30) rfl rfl (by omega) (fun h27 => ?_) (fun h27 => ?_)
      · refine q_iconst C dX0_findArguments_191 (n := 192) rfl ?_
        exact q_iret C dX0_findArguments_192 ⟨rfl, rfl⟩ (by rw [hPo]; exact ⟨(-1), M10, J11, rfl, rfl, hI12, hK13, by omega⟩)
      · refine q_iload C dX0_findArguments_30 (n := 32) rfl rfl ?_
        refine q_aload_n C dX0_findArguments_32 (n := 33) rfl rfl ?_
        have g28 := zI.at hI12 h_frame.2.2.1
        refine q_getI C dX0_findArguments_33 (n := 36) rfl f_X0_87 h_frame.1 (v := M10 fp 1) rfl ?_
        refine q_icmp_eq C 191 dX0_findArguments_36 (n := 39) rfl rfl (by omega) (fun h29 => ?_) (fun h29 => ?_)
        · refine q_iconst C dX0_findArguments_191 (n := 192) rfl ?_
          exact q_iret C dX0_findArguments_192 ⟨rfl, rfl⟩ (by rw [hPo]; exact ⟨(-1), M10, J11, rfl, rfl, hI12, hK13, by omega⟩)
        · refine q_iload C dX0_findArguments_39 (n := 41) rfl rfl ?_
          refine q_if_lt C 191 dX0_findArguments_41 (n := 44) rfl rfl (by omega) (fun h30 => ?_) (fun h30 => ?_)
          · refine q_iconst C dX0_findArguments_191 (n := 192) rfl ?_
            exact q_iret C dX0_findArguments_192 ⟨rfl, rfl⟩ (by rw [hPo]; exact ⟨(-1), M10, J11, rfl, rfl, hI12, hK13, by omega⟩)
          · refine q_aload_n C dX0_findArguments_44 (n := 45) rfl rfl ?_
            refine q_getR C dX0_findArguments_45 (n := 48) rfl f_X0_38 h0.1 (hF _ _ _ h0.2.1) ?_
            refine q_aload_n C dX0_findArguments_48 (n := 49) rfl rfl ?_
            refine q_getR C dX0_findArguments_49 (n := 52) rfl f_X0_14 h0.1 (hF _ _ _ h0.2.2.2.2.2.2.2.1) ?_
            refine q_getR C dX0_findArguments_52 (n := 55) rfl f_X0_97 h0.2.2.2.2.2.2.2.2.1.1 (hF _ _ _ h0.2.2.2.2.2.2.2.2.1.2.1) ?_
            refine q_iload C dX0_findArguments_55 (n := 57) rfl rfl ?_
            have g31 := zI.at hI (h0.2.2.2.2.2.2.2.2.1.2.2.2.1 u8)
            have g32 : M (a + 1 + 1) u8 + zand (M (a + 1 + 2) u8) 31 ≤ (L : Int) ∧ zand (M (a + 1 + 2) u8) 31 ≤ 30 := zI.row hI (h0.2.2.2.2.2.2.2.2.1.2.2.2.1 u8)
            refine q_iald C dX0_findArguments_57 (n := 58) rfl h0.2.2.2.2.2.2.2.2.1.2.2.1 (by omega) (v := M (a + 1 + 1) u8) (hK13 _ _ (zle_t (h0.2.2.2.2.2.2.2.2.1.2.2.2.1 u8) (by decide))) ?_
            refine q_aload_n C dX0_findArguments_58 (n := 59) rfl rfl ?_
            refine q_getR C dX0_findArguments_59 (n := 62) rfl f_X0_14 h0.1 (hF _ _ _ h0.2.2.2.2.2.2.2.1) ?_
            refine q_getR C dX0_findArguments_62 (n := 65) rfl f_X0_100 h0.2.2.2.2.2.2.2.2.1.1 (hF _ _ _ h0.2.2.2.2.2.2.2.2.1.2.2.2.2.1) ?_
            refine q_iload C dX0_findArguments_65 (n := 67) rfl rfl ?_
            have g33 := zI.at hI (h0.2.2.2.2.2.2.2.2.1.2.2.2.2.2.2.1 u8)
            refine q_iald C dX0_findArguments_67 (n := 68) rfl h0.2.2.2.2.2.2.2.2.1.2.2.2.2.2.1 (by omega) (v := M (a + 1 + 2) u8) (hK13 _ _ (zle_t (h0.2.2.2.2.2.2.2.2.1.2.2.2.2.2.2.1 u8) (by decide))) ?_
            refine q_callVp C dX0_findArguments_68 (n := 71) rfl m_X0_137 v_yX10_signOf h0.2.2.1.1 ⟨by decide, rfl⟩ (c_X10_signOf (w := w) (J := J11) hI12 hF h0.2.2.1 (M (a + 1 + 1) u8) (M (a + 1 + 2) u8) (by omega) (by omega)) (Nat.le_of_ble_eq_true rfl) rfl rfl (Nat.le_of_ble_eq_true rfl) ⟨Nat.le_refl _, Nat.le_refl _⟩ (fun x35 h36 => ?_)
            refine q_istore C [.ref (w.2.1 + a), .ref (w.2.1 + fp), .null, zi u6, zi u7, zi u8, zi u9, zi x35] dX0_findArguments_71 (n := 73) rfl rfl rfl ?_
            refine q_iload_n C dX0_findArguments_73 (n := 74) rfl rfl ?_
            have J_45 : ∀ (u37 : Int) (M38 : zMm) (J39 : zJm), zI G M38 → zKp G 1 M M38 → (-2147483648 ≤ u37 ∧ u37 ≤ 2147483647) → (-1 ≤ u37 ∧ u37 ≤ 3439) → (0 ≤ M38 fp 8 ∧ M38 fp 8 ≤ u9 + 1) → zK w p e 2 0 0 s m args below meth c 8 T Po 150 [.ref (w.2.1 + a), .ref (w.2.1 + fp), .null, zi u6, zi u37, zi u8, zi u9, zi x35] [] (T, M38, J39, R) := by
              intro u37 M38 J39 hI40 hK41 h42 h43 h44
              refine q_iload_n C dX0_findArguments_150 (n := 151) rfl rfl ?_
              refine q_iload C dX0_findArguments_151 (n := 153) rfl rfl ?_
              refine q_bipush C dX0_findArguments_153 (n := 155) rfl (x := 40) (by decide) ?_
              have J_49 : ∀ (u46 : Int), (-2147483648 ≤ u46 ∧ u46 ≤ 2147483647) → (-1 ≤ u46 ∧ u46 ≤ 1) → zK w p e 2 0 0 s m args below meth c 8 T Po 174 [.ref (w.2.1 + a), .ref (w.2.1 + fp), .null, .null, zi u37, zi u8, zi u9, .null] [zi u46, zi u6] (T, M38, J39, R) := by
                intro u46 h47 h48
                refine q_iadd C dX0_findArguments_174 (n := 175) rfl (v := u6 + u46) rfl ?_
                refine q_istore_n C [.ref (w.2.1 + a), .ref (w.2.1 + fp), .null, zi (u6 + u46), zi u37, zi u8, zi u9, .null] dX0_findArguments_175 (n := 176) rfl rfl rfl ?_
                refine q_aload_n C dX0_findArguments_176 (n := 177) rfl rfl ?_
                refine q_getR C dX0_findArguments_177 (n := 180) rfl f_X0_20 h0.1 (hF _ _ _ h0.2.2.2.2.2.2.2.2.2.1) ?_
                refine q_iload C dX0_findArguments_180 (n := 182) rfl rfl ?_
                have g50 := zI.at hI40 (h0.2.2.2.2.2.2.2.2.2.2.2.1 u8)
                refine q_iald C dX0_findArguments_182 (n := 183) rfl h0.2.2.2.2.2.2.2.2.2.2.1 (by omega) (v := M38 (a + 5) u8) rfl ?_
                refine q_istore C [.ref (w.2.1 + a), .ref (w.2.1 + fp), .null, zi (u6 + u46), zi u37, zi (M38 (a + 5) u8), zi u9, .null] dX0_findArguments_183 (n := 185) rfl rfl rfl ?_
                refine q_iinc C [.ref (w.2.1 + a), .ref (w.2.1 + fp), .null, zi (u6 + u46), zi u37, zi (M38 (a + 5) u8), zi (u9 + 1), .null] dX0_findArguments_185 (n := 188) rfl rfl rfl rfl ?_
                refine q_goto C 22 dX0_findArguments_188 rfl ?_
                exact zK.weak (ih25 (u6 + u46) u37 (M38 (a + 5) u8) (u9 + 1) M38 J39 hI40 hK41 (by omega) (by omega) (by omega) (by omega) (by omega) (by omega) (by omega) (by omega) (by omega) (by omega)) (zwk_c (zwk_c (zwk_n (zwk_c (zwk_c (zwk_c (zwk_c (zwk_n zwk_e))))))))
              refine q_icmp_ne C 162 dX0_findArguments_155 (n := 158) rfl rfl (by omega) (fun h51 => ?_) (fun h51 => ?_)
              · refine q_iload C dX0_findArguments_162 (n := 164) rfl rfl ?_
                refine q_bipush C dX0_findArguments_164 (n := 166) rfl (x := 41) (by decide) ?_
                refine q_icmp_ne C 173 dX0_findArguments_166 (n := 169) rfl rfl (by omega) (fun h52 => ?_) (fun h52 => ?_)
                · refine q_iconst C dX0_findArguments_173 (n := 174) rfl ?_
                  exact zK.weak (J_49 0 (by omega) (by omega)) (zwk_c (zwk_c (zwk_n (zwk_n (zwk_c (zwk_c (zwk_c (zwk_n zwk_e))))))))
                · refine q_iconst C dX0_findArguments_169 (n := 170) rfl ?_
                  refine q_goto C 174 dX0_findArguments_170 rfl ?_
                  exact zK.weak (J_49 (-1) (by omega) (by omega)) (zwk_c (zwk_c (zwk_n (zwk_n (zwk_c (zwk_c (zwk_c (zwk_n zwk_e))))))))
              · refine q_iconst C dX0_findArguments_158 (n := 159) rfl ?_
                refine q_goto C 174 dX0_findArguments_159 rfl ?_
                exact zK.weak (J_49 1 (by omega) (by omega)) (zwk_c (zwk_c (zwk_n (zwk_n (zwk_c (zwk_c (zwk_c (zwk_n zwk_e))))))))
            refine q_if_ne C 150 dX0_findArguments_74 (n := 77) rfl rfl (by omega) (fun h53 => ?_) (fun h53 => ?_)
            · exact zK.weak (J_45 u7 M10 J11 hI12 hK13 (by omega) (by omega) (by omega)) (zwk_c (zwk_c (zwk_n (zwk_c (zwk_c (zwk_c (zwk_c (zwk_c zwk_e))))))))
            · refine q_iload C dX0_findArguments_77 (n := 79) rfl rfl ?_
              refine q_bipush C dX0_findArguments_79 (n := 81) rfl (x := 44) (by decide) ?_
              have J_54 : zK w p e 2 0 0 s m args below meth c 8 T Po 91 [.ref (w.2.1 + a), .ref (w.2.1 + fp), .null, zi u6, zi u7, zi u8, zi u9, zi x35] [] (T, M10, J11, R) := by
                refine q_aload_n C dX0_findArguments_91 (n := 92) rfl rfl ?_
                have g55 := zI.at hI12 h_frame.2.2.2.2.2.2.2.2.2.1
                refine q_getI C dX0_findArguments_92 (n := 95) rfl f_X0_149 h_frame.1 (v := M10 fp 8) rfl ?_
                refine q_iconst C dX0_findArguments_95 (n := 96) rfl ?_
                have J_61 : ∀ (M56 : zMm) (J57 : zJm), zI G M56 → zKp G 1 M M56 → (0 ≤ M56 fp 8 ∧ M56 fp 8 ≤ u9) → zK w p e 2 0 0 s m args below meth c 8 T Po 121 [.ref (w.2.1 + a), .ref (w.2.1 + fp), .null, zi u6, .null, zi u8, zi u9, zi x35] [] (T, M56, J57, R) := by
                  intro M56 J57 hI58 hK59 h60
                  refine q_aload_n C dX0_findArguments_121 (n := 122) rfl rfl ?_
                  refine q_dup C dX0_findArguments_122 (n := 123) rfl rfl ?_
                  have g62 := zI.at hI58 h_frame.2.2.2.2.2.2.2.2.2.1
                  refine q_getI C dX0_findArguments_123 (n := 126) rfl f_X0_149 h_frame.1 (v := M56 fp 8) rfl ?_
                  refine q_iconst C dX0_findArguments_126 (n := 127) rfl ?_
                  refine q_iadd C dX0_findArguments_127 (n := 128) rfl (v := (M56 fp 8) + 1) rfl ?_
                  refine q_putI C dX0_findArguments_128 (n := 131) rfl f_X0_149 h_frame.1 ⟨rfl, rfl⟩ (fun M63 (e64 : M63 = zup M56 fp 8 ((M56 fp 8) + 1)) => ?_)
                  have hI65 : zI G M63 := hI58.put e64 h_frame.2.2.2.2.2.2.2.2.2.1 rfl (by omega)
                  have hK66 := hK59.put e64 h_frame.2.2.2.2.2.2.2.2.2.1 (by decide)
                  refine q_aload_n C dX0_findArguments_131 (n := 132) rfl rfl ?_
                  refine q_getR C dX0_findArguments_132 (n := 135) rfl f_X0_20 h0.1 (hF _ _ _ h0.2.2.2.2.2.2.2.2.2.1) ?_
                  refine q_iload C dX0_findArguments_135 (n := 137) rfl rfl ?_
                  have g67 := zI.at hI65 (h0.2.2.2.2.2.2.2.2.2.2.2.1 u8)
                  refine q_iald C dX0_findArguments_137 (n := 138) rfl h0.2.2.2.2.2.2.2.2.2.2.1 (by omega) (v := M63 (a + 5) u8) rfl ?_
                  refine q_istore C [.ref (w.2.1 + a), .ref (w.2.1 + fp), .null, zi u6, zi (M63 (a + 5) u8), zi u8, zi u9, zi x35] dX0_findArguments_138 (n := 140) rfl rfl rfl ?_
                  refine q_iload C dX0_findArguments_140 (n := 142) rfl rfl ?_
                  refine q_bipush C dX0_findArguments_142 (n := 144) rfl (x := 41) (by decide) ?_
                  refine q_icmp_ne C 150 dX0_findArguments_144 (n := 147) rfl rfl (by omega) (fun h68 => ?_) (fun h68 => ?_)
                  · exact zK.weak (J_45 (M63 (a + 5) u8) M63 J57 hI65 hK66 (by omega) (by omega) (by have hz69 : M63 fp 8 = (M56 fp 8) + 1 := (zup_s e64); have hz70 : M63 fp 8 = (M56 fp 8) + 1 := (zup_s e64); omega)) (zwk_c (zwk_c (zwk_n (zwk_c (zwk_c (zwk_c (zwk_c (zwk_c zwk_e))))))))
                  · refine q_iload C dX0_findArguments_147 (n := 149) rfl rfl ?_
                    exact q_iret C dX0_findArguments_149 ⟨rfl, rfl⟩ (by rw [hPo]; exact ⟨u8, M63, J57, rfl, rfl, hI65, hK66, by omega⟩)
                refine q_icmp_ge C 121 dX0_findArguments_96 (n := 99) rfl rfl (by omega) (fun h71 => ?_) (fun h71 => ?_)
                · exact zK.weak (J_61 M10 J11 hI12 hK13 (by omega)) (zwk_c (zwk_c (zwk_n (zwk_c (zwk_n (zwk_c (zwk_c (zwk_c zwk_e))))))))
                · refine q_aload_n C dX0_findArguments_99 (n := 100) rfl rfl ?_
                  refine q_getR C dX0_findArguments_100 (n := 103) rfl f_X0_159 h_frame.1 (hF _ _ _ h_frame.2.2.2.2.2.2.2.2.2.2.1) ?_
                  refine q_aload_n C dX0_findArguments_103 (n := 104) rfl rfl ?_
                  refine q_getI C dX0_findArguments_104 (n := 107) rfl f_X0_149 h_frame.1 (v := M10 fp 8) rfl ?_
                  refine q_iload C dX0_findArguments_107 (n := 109) rfl rfl ?_
                  refine q_iast C dX0_findArguments_109 (n := 110) rfl h_frame.2.2.2.2.2.2.2.2.2.2.2.1 (by omega)  (fun M72 e73 => ?_)
                  have hI74 : zI G M72 := hI12.put e73 (h_frame.2.2.2.2.2.2.2.2.2.2.2.2.1 (M10 fp 8)) rfl (by omega)
                  have hK75 := hK13.put e73 (h_frame.2.2.2.2.2.2.2.2.2.2.2.2.1 (M10 fp 8)) (by decide)
                  refine q_aload_n C dX0_findArguments_110 (n := 111) rfl rfl ?_
                  refine q_getR C dX0_findArguments_111 (n := 114) rfl f_X0_162 h_frame.1 (hF _ _ _ h_frame.2.2.2.2.2.2.2.2.2.2.2.2.2.1) ?_
                  refine q_aload_n C dX0_findArguments_114 (n := 115) rfl rfl ?_
                  refine q_getI C dX0_findArguments_115 (n := 118) rfl f_X0_149 h_frame.1 (v := M10 fp 8) (zup_p e73 (by omega) _) ?_
                  refine q_iload C dX0_findArguments_118 (n := 120) rfl rfl ?_
                  refine q_iast C dX0_findArguments_120 (n := 121) rfl h_frame.2.2.2.2.2.2.2.2.2.2.2.2.2.2.1 (by omega)  (fun M76 e77 => ?_)
                  have hI78 : zI G M76 := hI74.put e77 (h_frame.2.2.2.2.2.2.2.2.2.2.2.2.2.2.2.1 (M10 fp 8)) rfl (by omega)
                  have hK79 := hK75.put e77 (h_frame.2.2.2.2.2.2.2.2.2.2.2.2.2.2.2.1 (M10 fp 8)) (by decide)
                  exact zK.weak (J_61 M76 J11 hI78 hK79 (by have hz80 : M76 fp 8 = M10 fp 8 := ((zup_p e77 (by omega) _).trans (zup_p e73 (by omega) _)); have hz81 : M76 fp 8 = M10 fp 8 := ((zup_p e77 (by omega) _).trans (zup_p e73 (by omega) _)); omega)) (zwk_c (zwk_c (zwk_n (zwk_c (zwk_n (zwk_c (zwk_c (zwk_c zwk_e))))))))
              refine q_icmp_eq C 91 dX0_findArguments_81 (n := 84) rfl rfl (by omega) (fun h82 => ?_) (fun h82 => ?_)
              · exact zK.weak (J_54) (zwk_c (zwk_c (zwk_n (zwk_c (zwk_c (zwk_c (zwk_c (zwk_c zwk_e))))))))
              · refine q_iload C dX0_findArguments_84 (n := 86) rfl rfl ?_
                refine q_bipush C dX0_findArguments_86 (n := 88) rfl (x := 41) (by decide) ?_
                refine q_icmp_ne C 150 dX0_findArguments_88 (n := 91) rfl rfl (by omega) (fun h83 => ?_) (fun h83 => ?_)
                · exact zK.weak (J_45 u7 M10 J11 hI12 hK13 (by omega) (by omega) (by omega)) (zwk_c (zwk_c (zwk_n (zwk_c (zwk_c (zwk_c (zwk_c (zwk_c zwk_e))))))))
                · exact zK.weak (J_54) (zwk_c (zwk_c (zwk_n (zwk_c (zwk_c (zwk_c (zwk_c (zwk_c zwk_e))))))))
  exact zK.weak (L_23 _ 0 (M (a + 5) v1) (M (a + 5) v1) 0 M2 J hI4 hK5 (by omega) (by omega) (by omega) (by omega) (by omega) (by omega) (by omega) (by omega) (by have hz84 : M2 fp 8 = 0 := (zup_s e3); have hz85 : M2 fp 8 = 0 := (zup_s e3); omega) (Int.self_le_toNat _)) (zwk_c (zwk_c (zwk_n (zwk_c (zwk_c (zwk_c (zwk_c (zwk_n zwk_e))))))))
theorem c_X0_replaces {w : zWp} {T : zTl} {M : zMm} {J : zJm} {R : zRm'} {G : zGt} {F : zRm'} {a t mc q L fp tl : Nat} (hI : zI G M) (hF : zF F R) (h0 : zExpander T F G a t mc q L) (h_frame : zFrame T F G fp L) (v1 : Int) (v2 : Int) (htal : R a 7 = some tl) (t_tl : T[tl]? = some (50, 10)) (g_tl : ∀ k, G tl k = (0, (-2147483648), 2147483647)) (p1 : L ≤ 1000000) (p2 : 0 ≤ v1 ∧ v1 ≤ 3439) (p3 : 0 ≤ v2 ∧ v2 ≤ 11) : zCt w 3 0 0 yX0_replaces cX0_replaces 10 (some .boolean) [.ref (w.2.1 + a), .ref (w.2.1 + fp), zi v1, zi v2] (T, M, J, R) (zPi T R G (fun x M2 => (zKp G 1 M M2) ∧ (x = 0 ∨ x = 1))) := by
  refine zCt.of rfl (Nat.le_of_ble_eq_true rfl) ?_
  intro p e s m args below meth c C
  obtain ⟨Po, hPo⟩ : ∃ Po, Po = zPi T R G (fun x M2 => (zKp G 1 M M2) ∧ (x = 0 ∨ x = 1)) := ⟨_, rfl⟩
  rw [← hPo]
  have hK0 : zKp G 1 M M := zKp.rf
  show zK w p e 3 0 0 s m args below meth c 10 T Po 0 [.ref (w.2.1 + a), .ref (w.2.1 + fp), zi v1, zi v2, .null, .null, .null, .null, .null, .null] [] (T, M, J, R)
  refine q_aload_n C dX0_replaces_0 (n := 1) rfl rfl ?_
  refine q_getR C dX0_replaces_1 (n := 4) rfl f_X0_14 h0.1 (hF _ _ _ h0.2.2.2.2.2.2.2.1) ?_
  refine q_getR C dX0_replaces_4 (n := 7) rfl f_X0_103 h0.2.2.2.2.2.2.2.2.1.1 (hF _ _ _ h0.2.2.2.2.2.2.2.2.1.2.2.2.2.2.2.2.1) ?_
  refine q_iload_n C dX0_replaces_7 (n := 8) rfl rfl ?_
  have g1 := zI.at hI (h0.2.2.2.2.2.2.2.2.1.2.2.2.2.2.2.2.2.2.1 v1)
  refine q_iald C dX0_replaces_8 (n := 9) rfl h0.2.2.2.2.2.2.2.2.1.2.2.2.2.2.2.2.2.1 (by omega) (v := M (a + 1 + 3) v1) rfl ?_
  refine q_istore C [.ref (w.2.1 + a), .ref (w.2.1 + fp), zi v1, zi v2, zi (M (a + 1 + 3) v1), .null, .null, .null, .null, .null] dX0_replaces_9 (n := 11) rfl rfl rfl ?_
  refine q_aload_n C dX0_replaces_11 (n := 12) rfl rfl ?_
  refine q_getR C dX0_replaces_12 (n := 15) rfl f_X0_20 h0.1 (hF _ _ _ h0.2.2.2.2.2.2.2.2.2.1) ?_
  refine q_iload_n C dX0_replaces_15 (n := 16) rfl rfl ?_
  have g2 := zI.at hI (h0.2.2.2.2.2.2.2.2.2.2.2.1 v1)
  refine q_iald C dX0_replaces_16 (n := 17) rfl h0.2.2.2.2.2.2.2.2.2.2.1 (by omega) (v := M (a + 5) v1) rfl ?_
  refine q_istore C [.ref (w.2.1 + a), .ref (w.2.1 + fp), zi v1, zi v2, zi (M (a + 1 + 3) v1), zi (M (a + 5) v1), .null, .null, .null, .null] dX0_replaces_17 (n := 19) rfl rfl rfl ?_
  refine q_aload_n C dX0_replaces_19 (n := 20) rfl rfl ?_
  refine q_getR C dX0_replaces_20 (n := 23) rfl f_X0_42 h0.1 (hF _ _ _ h0.2.2.2.1) ?_
  refine q_getR C dX0_replaces_23 (n := 26) rfl f_X0_134 h0.2.2.2.2.1.1 (hF _ _ _ h0.2.2.2.2.1.2.2.2.2.2.2.2.2.2.2.2.1) ?_
  refine q_iload_n C dX0_replaces_26 (n := 27) rfl rfl ?_
  have g3 := zI.at hI (h0.2.2.2.2.1.2.2.2.2.2.2.2.2.2.2.2.2.2.1 v2)
  refine q_iald C dX0_replaces_27 (n := 28) rfl h0.2.2.2.2.1.2.2.2.2.2.2.2.2.2.2.2.2.1 (by omega) (v := M (mc + 4) v2) rfl ?_
  refine q_iconst C dX0_replaces_28 (n := 29) rfl ?_
  have J_13 : ∀ (u4 : Int) (u5 : Int) (M6 : zMm) (J7 : zJm), zI G M6 → zKp G 1 M M6 → (-2147483648 ≤ u4 ∧ u4 ≤ 2147483647) → (-2147483648 ≤ u5 ∧ u5 ≤ 2147483647) → (-1 ≤ u5 ∧ u5 ≤ 3439) → zK w p e 3 0 0 s m args below meth c 10 T Po 233 [.ref (w.2.1 + a), .ref (w.2.1 + fp), zi v1, zi v2, zi u4, zi u5, .null, .null, .null, .null] [] (T, M6, J7, R) := by
    intro u4 u5 M6 J7 hI8 hK9 h10 h11 h12
    refine q_aload_n C dX0_replaces_233 (n := 234) rfl rfl ?_
    refine q_getR C dX0_replaces_234 (n := 237) rfl f_X0_50 h0.1 htal ?_
    refine q_bipush C dX0_replaces_237 (n := 239) rfl (x := 6) (by decide) ?_
    have g14 := zI.at hI8 (g_tl 6)
    refine q_iald C dX0_replaces_239 (n := 240) rfl t_tl (by omega) (v := M6 tl 6) rfl ?_
    refine q_bipush C dX0_replaces_240 (n := 242) rfl (x := 100) (by decide) ?_
    refine q_icmp_lt C 265 dX0_replaces_242 (n := 245) rfl rfl (by omega) (fun h15 => ?_) (fun h15 => ?_)
    · refine q_aload_n C dX0_replaces_265 (n := 266) rfl rfl ?_
      refine q_getR C dX0_replaces_266 (n := 269) rfl f_X0_50 h0.1 htal ?_
      refine q_bipush C dX0_replaces_269 (n := 271) rfl (x := 6) (by decide) ?_
      refine q_dup2 C dX0_replaces_271 (n := 272) rfl ⟨rfl, rfl⟩ ?_
      refine q_iald C dX0_replaces_272 (n := 273) rfl t_tl (by omega) (v := M6 tl 6) rfl ?_
      refine q_iconst C dX0_replaces_273 (n := 274) rfl ?_
      refine q_iadd C dX0_replaces_274 (n := 275) rfl (v := (M6 tl 6) + 1) rfl ?_
      refine q_wrap C ?_
      have g16 := zr_wr ((M6 tl 6) + 1)
      refine q_iast C dX0_replaces_275 (n := 276) rfl t_tl (by omega)  (fun M17 e18 => ?_)
      have hI19 : zI G M17 := hI8.put e18 (g_tl 6) rfl (by omega)
      have hK20 := hK9.put e18 (g_tl 6) (by decide)
      refine q_aload_n C dX0_replaces_276 (n := 277) rfl rfl ?_
      refine q_getR C dX0_replaces_277 (n := 280) rfl f_X0_42 h0.1 (hF _ _ _ h0.2.2.2.1) ?_
      refine q_getR C dX0_replaces_280 (n := 283) rfl f_X0_152 h0.2.2.2.2.1.1 (hF _ _ _ h0.2.2.2.2.1.2.2.2.2.2.2.2.2.2.2.2.2.2.2.2.2.2.2.2.2.2.2.2.1) ?_
      refine q_iload_n C dX0_replaces_283 (n := 284) rfl rfl ?_
      refine q_dup2 C dX0_replaces_284 (n := 285) rfl ⟨rfl, rfl⟩ ?_
      have g21 := zI.at hI19 (h0.2.2.2.2.1.2.2.2.2.2.2.2.2.2.2.2.2.2.2.2.2.2.2.2.2.2.2.2.2.2.1 v2)
      refine q_iald C dX0_replaces_285 (n := 286) rfl h0.2.2.2.2.1.2.2.2.2.2.2.2.2.2.2.2.2.2.2.2.2.2.2.2.2.2.2.2.2.1 (by omega) (v := M17 (mc + 8) v2) rfl ?_
      refine q_aload_n C dX0_replaces_286 (n := 287) rfl rfl ?_
      have g22 := zI.at hI19 h0.2.2.2.2.2.2.2.2.2.2.2.2.2.2.2.2.2
      refine q_getI C dX0_replaces_287 (n := 290) rfl f_X0_34 h0.1 (v := M17 a 8) rfl ?_
      have J_26 : ∀ (u23 : Int), (-2147483648 ≤ u23 ∧ u23 ≤ 2147483647) → (u23 = 0 ∨ u23 = 1) → zK w p e 3 0 0 s m args below meth c 10 T Po 298 [.ref (w.2.1 + a), .ref (w.2.1 + fp), zi v1, zi v2, zi u4, zi u5, .null, .null, .null, .null] [zi u23, zi (M17 (mc + 8) v2), zi v2, .ref (w.2.1 + (mc + 8))] (T, M17, J7, R) := by
        intro u23 h24 h25
        refine q_iadd C dX0_replaces_298 (n := 299) rfl (v := (M17 (mc + 8) v2) + u23) rfl ?_
        refine q_wrap C ?_
        have g27 := zr_wr ((M17 (mc + 8) v2) + u23)
        refine q_iast C dX0_replaces_299 (n := 300) rfl h0.2.2.2.2.1.2.2.2.2.2.2.2.2.2.2.2.2.2.2.2.2.2.2.2.2.2.2.2.2.1 (by omega)  (fun M28 e29 => ?_)
        have hI30 : zI G M28 := hI19.put e29 (h0.2.2.2.2.1.2.2.2.2.2.2.2.2.2.2.2.2.2.2.2.2.2.2.2.2.2.2.2.2.2.1 v2) rfl (by omega)
        have hK31 := hK20.put e29 (h0.2.2.2.2.1.2.2.2.2.2.2.2.2.2.2.2.2.2.2.2.2.2.2.2.2.2.2.2.2.2.1 v2) (by decide)
        refine q_aload_n C dX0_replaces_300 (n := 301) rfl rfl ?_
        refine q_iload_n C dX0_replaces_301 (n := 302) rfl rfl ?_
        refine q_iload C dX0_replaces_302 (n := 304) rfl rfl ?_
        refine q_iconst C dX0_replaces_304 (n := 305) rfl ?_
        refine q_iload_n C dX0_replaces_305 (n := 306) rfl rfl ?_
        refine q_ishl C dX0_replaces_306 (n := 307) rfl (v := zshl 1 v2) rfl ?_
        have g32 := zr_shl 1 v2
        have g33 : 0 ≤ v2 ∧ v2 ≤ 3 → 1 ≤ zshl 1 v2 ∧ zshl 1 v2 ≤ 8 := fun h => zshl1 h
        refine q_ior C dX0_replaces_307 (n := 308) rfl (v := zor u4 (zshl 1 v2)) rfl ?_
        have g34 := zr_or u4 (zshl 1 v2)
        have g35 : zand u4 31 = 0 → zand (zor u4 (zshl 1 v2)) 31 = zand (zshl 1 v2) 31 := fun h => zl_or h
        refine q_aload_n C dX0_replaces_308 (n := 309) rfl rfl ?_
        refine q_getR C dX0_replaces_309 (n := 312) rfl f_X0_14 h0.1 (hF _ _ _ h0.2.2.2.2.2.2.2.1) ?_
        refine q_getR C dX0_replaces_312 (n := 315) rfl f_X0_100 h0.2.2.2.2.2.2.2.2.1.1 (hF _ _ _ h0.2.2.2.2.2.2.2.2.1.2.2.2.2.1) ?_
        refine q_iload_n C dX0_replaces_315 (n := 316) rfl rfl ?_
        have g36 := zI.at hI (h0.2.2.2.2.2.2.2.2.1.2.2.2.2.2.2.1 v1)
        refine q_iald C dX0_replaces_316 (n := 317) rfl h0.2.2.2.2.2.2.2.2.1.2.2.2.2.2.1 (by omega) (v := M (a + 1 + 2) v1) ((zup_n e29 (zne_t (h0.2.2.2.2.2.2.2.2.1.2.2.2.2.2.2.1 v1) (h0.2.2.2.2.1.2.2.2.2.2.2.2.2.2.2.2.2.2.2.2.2.2.2.2.2.2.2.2.2.2.1 v2) (by decide))).trans ((zup_n e18 (zne_t (h0.2.2.2.2.2.2.2.2.1.2.2.2.2.2.2.1 v1) (g_tl 6) (by decide))).trans (hK9 _ _ (zle_t (h0.2.2.2.2.2.2.2.2.1.2.2.2.2.2.2.1 v1) (by decide))))) ?_
        refine q_iload C dX0_replaces_317 (n := 319) rfl rfl ?_
        refine q_callVv C dX0_replaces_319 (n := 322) rfl m_X0_155 v_yX2_beginReplacing h_frame.1 ⟨by decide, rfl⟩ (c_X2_beginReplacing (w := w) (J := J7) hI30 hF h_frame v2 (zor u4 (zshl 1 v2)) (M (a + 1 + 2) v1) u5 (by omega) (by omega) (by omega) (by omega)) (Nat.le_of_ble_eq_true rfl) rfl rfl (Nat.le_of_ble_eq_true rfl) ⟨Nat.le_refl _, Nat.le_refl _⟩ (fun M37 J38  hI39 h40 => ?_)
        have hK42 := hK31.tr h40 (by decide)
        refine q_iconst C dX0_replaces_322 (n := 323) rfl ?_
        exact q_zret C dX0_replaces_323 ⟨rfl, rfl⟩ (by omega) (by rw [hPo]; exact ⟨1, M37, J38, rfl, rfl, hI39, hK42, by omega⟩)
      refine q_if_eq C 297 dX0_replaces_290 (n := 293) rfl rfl (by omega) (fun h43 => ?_) (fun h43 => ?_)
      · refine q_iconst C dX0_replaces_297 (n := 298) rfl ?_
        exact zK.weak (J_26 0 (by omega) (by omega)) (zwk_c (zwk_c (zwk_c (zwk_c (zwk_c (zwk_c (zwk_n (zwk_n (zwk_n (zwk_n zwk_e))))))))))
      · refine q_iconst C dX0_replaces_293 (n := 294) rfl ?_
        refine q_goto C 298 dX0_replaces_294 rfl ?_
        exact zK.weak (J_26 1 (by omega) (by omega)) (zwk_c (zwk_c (zwk_c (zwk_c (zwk_c (zwk_c (zwk_n (zwk_n (zwk_n (zwk_n zwk_e))))))))))
    · refine q_aload_n C dX0_replaces_245 (n := 246) rfl rfl ?_
      refine q_getR C dX0_replaces_246 (n := 249) rfl f_X0_46 h0.1 (hF _ _ _ h0.2.2.2.2.2.1) ?_
      refine q_bipush C dX0_replaces_249 (n := 251) rfl (x := 7) (by decide) ?_
      refine q_aload_n C dX0_replaces_251 (n := 252) rfl rfl ?_
      refine q_getR C dX0_replaces_252 (n := 255) rfl f_X0_14 h0.1 (hF _ _ _ h0.2.2.2.2.2.2.2.1) ?_
      refine q_getR C dX0_replaces_255 (n := 258) rfl f_X0_100 h0.2.2.2.2.2.2.2.2.1.1 (hF _ _ _ h0.2.2.2.2.2.2.2.2.1.2.2.2.2.1) ?_
      refine q_iload_n C dX0_replaces_258 (n := 259) rfl rfl ?_
      have g44 := zI.at hI (h0.2.2.2.2.2.2.2.2.1.2.2.2.2.2.2.1 v1)
      refine q_iald C dX0_replaces_259 (n := 260) rfl h0.2.2.2.2.2.2.2.2.1.2.2.2.2.2.1 (by omega) (v := M (a + 1 + 2) v1) (hK9 _ _ (zle_t (h0.2.2.2.2.2.2.2.2.1.2.2.2.2.2.2.1 v1) (by decide))) ?_
      refine q_callVv C dX0_replaces_260 (n := 263) rfl m_X0_146 v_yX1_meet h0.2.2.2.2.2.2.1.1 ⟨by decide, rfl⟩ (c_X1_meet (w := w) (J := J7) hI8 hF h0.2.2.2.2.2.2.1 7 (M (a + 1 + 2) v1) (by omega) (by omega)) (Nat.le_of_ble_eq_true rfl) rfl rfl (Nat.le_of_ble_eq_true rfl) ⟨Nat.le_refl _, Nat.le_refl _⟩ (fun M45 J46  hI47 h48 => ?_)
      have hK50 := hK9.tr h48 (by decide)
      refine q_iconst C dX0_replaces_263 (n := 264) rfl ?_
      exact q_zret C dX0_replaces_264 ⟨rfl, rfl⟩ (by omega) (by rw [hPo]; exact ⟨1, M45, J46, rfl, rfl, hI47, hK50, by omega⟩)
  refine q_icmp_eq C 233 dX0_replaces_29 (n := 32) rfl rfl (by omega) (fun h51 => ?_) (fun h51 => ?_)
  · exact zK.weak (J_13 (M (a + 1 + 3) v1) (M (a + 5) v1) M J hI hK0 (by omega) (by omega) (by omega)) (zwk_c (zwk_c (zwk_c (zwk_c (zwk_c (zwk_c (zwk_n (zwk_n (zwk_n (zwk_n zwk_e))))))))))
  · refine q_iload C dX0_replaces_32 (n := 34) rfl rfl ?_
    refine q_istore C [.ref (w.2.1 + a), .ref (w.2.1 + fp), zi v1, zi v2, zi (M (a + 1 + 3) v1), zi (M (a + 5) v1), zi (M (a + 5) v1), .null, .null, .null] dX0_replaces_34 (n := 36) rfl rfl rfl ?_
    refine q_iload C dX0_replaces_36 (n := 38) rfl rfl ?_
    refine q_aload_n C dX0_replaces_38 (n := 39) rfl rfl ?_
    have g52 := zI.at hI h_frame.2.2.1
    refine q_getI C dX0_replaces_39 (n := 42) rfl f_X0_87 h_frame.1 (v := M fp 1) rfl ?_
    refine q_icmp_eq C 94 dX0_replaces_42 (n := 45) rfl rfl (by omega) (fun h53 => ?_) (fun h53 => ?_)
    · refine q_iconst C dX0_replaces_94 (n := 95) rfl ?_
      exact q_zret C dX0_replaces_95 ⟨rfl, rfl⟩ (by omega) (by rw [hPo]; exact ⟨0, M, J, rfl, rfl, hI, hK0, by omega⟩)
    · refine q_iload C dX0_replaces_45 (n := 47) rfl rfl ?_
      refine q_if_lt C 94 dX0_replaces_47 (n := 50) rfl rfl (by omega) (fun h54 => ?_) (fun h54 => ?_)
      · refine q_iconst C dX0_replaces_94 (n := 95) rfl ?_
        exact q_zret C dX0_replaces_95 ⟨rfl, rfl⟩ (by omega) (by rw [hPo]; exact ⟨0, M, J, rfl, rfl, hI, hK0, by omega⟩)
      · refine q_iload C dX0_replaces_50 (n := 52) rfl rfl ?_
        refine q_aload_n C dX0_replaces_52 (n := 53) rfl rfl ?_
        refine q_getR C dX0_replaces_53 (n := 56) rfl f_X0_14 h0.1 (hF _ _ _ h0.2.2.2.2.2.2.2.1) ?_
        have g55 := zI.at hI h0.2.2.2.2.2.2.2.2.1.2.2.2.2.2.2.2.2.2.2
        refine q_getI C dX0_replaces_56 (n := 59) rfl f_X0_60 h0.2.2.2.2.2.2.2.2.1.1 (v := M (a + 1) 3) rfl ?_
        refine q_icmp_ge C 94 dX0_replaces_59 (n := 62) rfl rfl (by omega) (fun h56 => ?_) (fun h56 => ?_)
        · refine q_iconst C dX0_replaces_94 (n := 95) rfl ?_
          exact q_zret C dX0_replaces_95 ⟨rfl, rfl⟩ (by omega) (by rw [hPo]; exact ⟨0, M, J, rfl, rfl, hI, hK0, by omega⟩)
        · refine q_aload_n C dX0_replaces_62 (n := 63) rfl rfl ?_
          refine q_getR C dX0_replaces_63 (n := 66) rfl f_X0_38 h0.1 (hF _ _ _ h0.2.1) ?_
          refine q_aload_n C dX0_replaces_66 (n := 67) rfl rfl ?_
          refine q_getR C dX0_replaces_67 (n := 70) rfl f_X0_14 h0.1 (hF _ _ _ h0.2.2.2.2.2.2.2.1) ?_
          refine q_getR C dX0_replaces_70 (n := 73) rfl f_X0_97 h0.2.2.2.2.2.2.2.2.1.1 (hF _ _ _ h0.2.2.2.2.2.2.2.2.1.2.1) ?_
          refine q_iload C dX0_replaces_73 (n := 75) rfl rfl ?_
          have g57 := zI.at hI (h0.2.2.2.2.2.2.2.2.1.2.2.2.1 (M (a + 5) v1))
          have g58 : M (a + 1 + 1) (M (a + 5) v1) + zand (M (a + 1 + 2) (M (a + 5) v1)) 31 ≤ (L : Int) ∧ zand (M (a + 1 + 2) (M (a + 5) v1)) 31 ≤ 30 := zI.row hI (h0.2.2.2.2.2.2.2.2.1.2.2.2.1 (M (a + 5) v1))
          refine q_iald C dX0_replaces_75 (n := 76) rfl h0.2.2.2.2.2.2.2.2.1.2.2.1 (by omega) (v := M (a + 1 + 1) (M (a + 5) v1)) rfl ?_
          refine q_aload_n C dX0_replaces_76 (n := 77) rfl rfl ?_
          refine q_getR C dX0_replaces_77 (n := 80) rfl f_X0_14 h0.1 (hF _ _ _ h0.2.2.2.2.2.2.2.1) ?_
          refine q_getR C dX0_replaces_80 (n := 83) rfl f_X0_100 h0.2.2.2.2.2.2.2.2.1.1 (hF _ _ _ h0.2.2.2.2.2.2.2.2.1.2.2.2.2.1) ?_
          refine q_iload C dX0_replaces_83 (n := 85) rfl rfl ?_
          have g59 := zI.at hI (h0.2.2.2.2.2.2.2.2.1.2.2.2.2.2.2.1 (M (a + 5) v1))
          refine q_iald C dX0_replaces_85 (n := 86) rfl h0.2.2.2.2.2.2.2.2.1.2.2.2.2.2.1 (by omega) (v := M (a + 1 + 2) (M (a + 5) v1)) rfl ?_
          refine q_callVp C dX0_replaces_86 (n := 89) rfl m_X0_137 v_yX10_signOf h0.2.2.1.1 ⟨by decide, rfl⟩ (c_X10_signOf (w := w) (J := J) hI hF h0.2.2.1 (M (a + 1 + 1) (M (a + 5) v1)) (M (a + 1 + 2) (M (a + 5) v1)) (by omega) (by omega)) (Nat.le_of_ble_eq_true rfl) rfl rfl (Nat.le_of_ble_eq_true rfl) ⟨Nat.le_refl _, Nat.le_refl _⟩ (fun x61 h62 => ?_)
          refine q_bipush C dX0_replaces_89 (n := 91) rfl (x := 40) (by decide) ?_
          refine q_icmp_eq C 96 dX0_replaces_91 (n := 94) rfl rfl (by omega) (fun h63 => ?_) (fun h63 => ?_)
          · refine q_aload_n C dX0_replaces_96 (n := 97) rfl rfl ?_
            refine q_aload_n C dX0_replaces_97 (n := 98) rfl rfl ?_
            refine q_iload C dX0_replaces_98 (n := 100) rfl rfl ?_
            refine q_callVi C dX0_replaces_100 (n := 103) rfl m_X0_142 v_yX0_findArguments h0.1 ⟨by decide, rfl⟩ (c_X0_findArguments (w := w) (J := J) hI hF h0 h_frame (M (a + 5) v1) (by omega) (by omega)) (Nat.le_of_ble_eq_true rfl) rfl rfl (Nat.le_of_ble_eq_true rfl) ⟨Nat.le_refl _, Nat.le_refl _⟩ (fun x69 M65 J66  hI67 h68 => ?_)
            obtain ⟨hk70, h64⟩ := h68
            have hK71 := hK0.tr hk70 (by decide)
            refine q_istore C [.ref (w.2.1 + a), .ref (w.2.1 + fp), zi v1, zi v2, zi (M (a + 1 + 3) v1), zi (M (a + 5) v1), zi (M (a + 5) v1), zi x69, .null, .null] dX0_replaces_103 (n := 105) rfl rfl rfl ?_
            refine q_iload C dX0_replaces_105 (n := 107) rfl rfl ?_
            refine q_iconst C dX0_replaces_107 (n := 108) rfl ?_
            refine q_icmp_ne C 130 dX0_replaces_108 (n := 111) rfl rfl (by omega) (fun h72 => ?_) (fun h72 => ?_)
            · refine q_aload_n C dX0_replaces_130 (n := 131) rfl rfl ?_
              refine q_getR C dX0_replaces_131 (n := 134) rfl f_X0_20 h0.1 (hF _ _ _ h0.2.2.2.2.2.2.2.2.2.1) ?_
              refine q_iload C dX0_replaces_134 (n := 136) rfl rfl ?_
              have g73 := zI.at hI67 (h0.2.2.2.2.2.2.2.2.2.2.2.1 (M (a + 5) v1))
              refine q_iald C dX0_replaces_136 (n := 137) rfl h0.2.2.2.2.2.2.2.2.2.2.1 (by omega) (v := M65 (a + 5) (M (a + 5) v1)) rfl ?_
              refine q_iload C dX0_replaces_137 (n := 139) rfl rfl ?_
              have J_77 : ∀ (u74 : Int), (-2147483648 ≤ u74 ∧ u74 ≤ 2147483647) → (u74 = 0 ∨ u74 = 1) → zK w p e 3 0 0 s m args below meth c 10 T Po 147 [.ref (w.2.1 + a), .ref (w.2.1 + fp), zi v1, zi v2, zi (M (a + 1 + 3) v1), .null, .null, zi x69, .null, .null] [zi u74] (T, M65, J66, R) := by
                intro u74 h75 h76
                refine q_istore C [.ref (w.2.1 + a), .ref (w.2.1 + fp), zi v1, zi v2, zi (M (a + 1 + 3) v1), .null, .null, zi x69, zi u74, .null] dX0_replaces_147 (n := 149) rfl rfl rfl ?_
                refine q_aload_n C dX0_replaces_149 (n := 150) rfl rfl ?_
                refine q_getR C dX0_replaces_150 (n := 153) rfl f_X0_42 h0.1 (hF _ _ _ h0.2.2.2.1) ?_
                refine q_getR C dX0_replaces_153 (n := 156) rfl f_X0_134 h0.2.2.2.2.1.1 (hF _ _ _ h0.2.2.2.2.1.2.2.2.2.2.2.2.2.2.2.2.1) ?_
                refine q_iload_n C dX0_replaces_156 (n := 157) rfl rfl ?_
                have g78 := zI.at hI67 (h0.2.2.2.2.1.2.2.2.2.2.2.2.2.2.2.2.2.2.1 v2)
                refine q_iald C dX0_replaces_157 (n := 158) rfl h0.2.2.2.2.1.2.2.2.2.2.2.2.2.2.2.2.2.1 (by omega) (v := M65 (mc + 4) v2) rfl ?_
                have J_81 : ∀ (u79 : Int), (-2147483648 ≤ u79 ∧ u79 ≤ 2147483647) → zK w p e 3 0 0 s m args below meth c 10 T Po 174 [.ref (w.2.1 + a), .ref (w.2.1 + fp), zi v1, zi v2, zi (M (a + 1 + 3) v1), .null, .null, zi x69, .null, .null] [zi u79] (T, M65, J66, R) := by
                  intro u79 h80
                  refine q_istore C [.ref (w.2.1 + a), .ref (w.2.1 + fp), zi v1, zi v2, zi (M (a + 1 + 3) v1), .null, .null, zi x69, .null, zi u79] dX0_replaces_174 (n := 176) rfl rfl rfl ?_
                  refine q_iload C dX0_replaces_176 (n := 178) rfl rfl ?_
                  refine q_aload_n C dX0_replaces_178 (n := 179) rfl rfl ?_
                  refine q_getR C dX0_replaces_179 (n := 182) rfl f_X0_42 h0.1 (hF _ _ _ h0.2.2.2.1) ?_
                  refine q_getR C dX0_replaces_182 (n := 185) rfl f_X0_134 h0.2.2.2.2.1.1 (hF _ _ _ h0.2.2.2.2.1.2.2.2.2.2.2.2.2.2.2.2.1) ?_
                  refine q_iload_n C dX0_replaces_185 (n := 186) rfl rfl ?_
                  refine q_iald C dX0_replaces_186 (n := 187) rfl h0.2.2.2.2.1.2.2.2.2.2.2.2.2.2.2.2.2.1 (by omega) (v := M65 (mc + 4) v2) rfl ?_
                  refine q_icmp_eq C 209 dX0_replaces_187 (n := 190) rfl rfl (by omega) (fun h82 => ?_) (fun h82 => ?_)
                  · refine q_iload C dX0_replaces_209 (n := 211) rfl rfl ?_
                    refine q_aload_n C dX0_replaces_211 (n := 212) rfl rfl ?_
                    refine q_getR C dX0_replaces_212 (n := 215) rfl f_X0_14 h0.1 (hF _ _ _ h0.2.2.2.2.2.2.2.1) ?_
                    refine q_getR C dX0_replaces_215 (n := 218) rfl f_X0_103 h0.2.2.2.2.2.2.2.2.1.1 (hF _ _ _ h0.2.2.2.2.2.2.2.2.1.2.2.2.2.2.2.2.1) ?_
                    refine q_iload C dX0_replaces_218 (n := 220) rfl rfl ?_
                    have g83 := zI.at hI67 (h0.2.2.2.2.2.2.2.2.1.2.2.2.2.2.2.2.2.2.1 x69)
                    refine q_iald C dX0_replaces_220 (n := 221) rfl h0.2.2.2.2.2.2.2.2.1.2.2.2.2.2.2.2.2.1 (by omega) (v := M65 (a + 1 + 3) x69) rfl ?_
                    refine q_iand C dX0_replaces_221 (n := 222) rfl (v := zand (M (a + 1 + 3) v1) (M65 (a + 1 + 3) x69)) rfl ?_
                    have g84 := zr_and (M (a + 1 + 3) v1) (M65 (a + 1 + 3) x69)
                    refine q_istore C [.ref (w.2.1 + a), .ref (w.2.1 + fp), zi v1, zi v2, zi (zand (M (a + 1 + 3) v1) (M65 (a + 1 + 3) x69)), .null, .null, zi x69, .null, zi u79] dX0_replaces_222 (n := 224) rfl rfl rfl ?_
                    refine q_aload_n C dX0_replaces_224 (n := 225) rfl rfl ?_
                    refine q_getR C dX0_replaces_225 (n := 228) rfl f_X0_20 h0.1 (hF _ _ _ h0.2.2.2.2.2.2.2.2.2.1) ?_
                    refine q_iload C dX0_replaces_228 (n := 230) rfl rfl ?_
                    have g85 := zI.at hI67 (h0.2.2.2.2.2.2.2.2.2.2.2.1 x69)
                    refine q_iald C dX0_replaces_230 (n := 231) rfl h0.2.2.2.2.2.2.2.2.2.2.1 (by omega) (v := M65 (a + 5) x69) rfl ?_
                    refine q_istore C [.ref (w.2.1 + a), .ref (w.2.1 + fp), zi v1, zi v2, zi (zand (M (a + 1 + 3) v1) (M65 (a + 1 + 3) x69)), zi (M65 (a + 5) x69), .null, zi x69, .null, zi u79] dX0_replaces_231 (n := 233) rfl rfl rfl ?_
                    exact zK.weak (J_13 (zand (M (a + 1 + 3) v1) (M65 (a + 1 + 3) x69)) (M65 (a + 5) x69) M65 J66 hI67 hK71 (by omega) (by omega) (by omega)) (zwk_c (zwk_c (zwk_c (zwk_c (zwk_c (zwk_c (zwk_n (zwk_n (zwk_n (zwk_n zwk_e))))))))))
                  · refine q_aload_n C dX0_replaces_190 (n := 191) rfl rfl ?_
                    refine q_getR C dX0_replaces_191 (n := 194) rfl f_X0_46 h0.1 (hF _ _ _ h0.2.2.2.2.2.1) ?_
                    refine q_iconst C dX0_replaces_194 (n := 195) rfl ?_
                    refine q_aload_n C dX0_replaces_195 (n := 196) rfl rfl ?_
                    refine q_getR C dX0_replaces_196 (n := 199) rfl f_X0_14 h0.1 (hF _ _ _ h0.2.2.2.2.2.2.2.1) ?_
                    refine q_getR C dX0_replaces_199 (n := 202) rfl f_X0_100 h0.2.2.2.2.2.2.2.2.1.1 (hF _ _ _ h0.2.2.2.2.2.2.2.2.1.2.2.2.2.1) ?_
                    refine q_iload_n C dX0_replaces_202 (n := 203) rfl rfl ?_
                    have g86 := zI.at hI (h0.2.2.2.2.2.2.2.2.1.2.2.2.2.2.2.1 v1)
                    refine q_iald C dX0_replaces_203 (n := 204) rfl h0.2.2.2.2.2.2.2.2.1.2.2.2.2.2.1 (by omega) (v := M (a + 1 + 2) v1) (hk70 _ _ (zle_t (h0.2.2.2.2.2.2.2.2.1.2.2.2.2.2.2.1 v1) (by decide))) ?_
                    refine q_callVv C dX0_replaces_204 (n := 207) rfl m_X0_146 v_yX1_meet h0.2.2.2.2.2.2.1.1 ⟨by decide, rfl⟩ (c_X1_meet (w := w) (J := J66) hI67 hF h0.2.2.2.2.2.2.1 4 (M (a + 1 + 2) v1) (by omega) (by omega)) (Nat.le_of_ble_eq_true rfl) rfl rfl (Nat.le_of_ble_eq_true rfl) ⟨Nat.le_refl _, Nat.le_refl _⟩ (fun M87 J88  hI89 h90 => ?_)
                    have hK92 := hK71.tr h90 (by decide)
                    refine q_iconst C dX0_replaces_207 (n := 208) rfl ?_
                    exact q_zret C dX0_replaces_208 ⟨rfl, rfl⟩ (by omega) (by rw [hPo]; exact ⟨1, M87, J88, rfl, rfl, hI89, hK92, by omega⟩)
                have J_93 : zK w p e 3 0 0 s m args below meth c 10 T Po 170 [.ref (w.2.1 + a), .ref (w.2.1 + fp), zi v1, zi v2, zi (M (a + 1 + 3) v1), .null, .null, zi x69, .null, .null] [] (T, M65, J66, R) := by
                  refine q_aload_n C dX0_replaces_170 (n := 171) rfl rfl ?_
                  have g94 := zI.at hI67 h_frame.2.2.2.2.2.2.2.2.2.1
                  refine q_getI C dX0_replaces_171 (n := 174) rfl f_X0_149 h_frame.1 (v := M65 fp 8) rfl ?_
                  exact zK.weak (J_81 (M65 fp 8) (by omega)) (zwk_c (zwk_c (zwk_c (zwk_c (zwk_c (zwk_n (zwk_n (zwk_c (zwk_n (zwk_n zwk_e))))))))))
                refine q_if_ne C 170 dX0_replaces_158 (n := 161) rfl rfl (by omega) (fun h95 => ?_) (fun h95 => ?_)
                · exact zK.weak (J_93) (zwk_c (zwk_c (zwk_c (zwk_c (zwk_c (zwk_n (zwk_n (zwk_c (zwk_n (zwk_n zwk_e))))))))))
                · refine q_iload C dX0_replaces_161 (n := 163) rfl rfl ?_
                  refine q_if_eq C 170 dX0_replaces_163 (n := 166) rfl rfl (by omega) (fun h96 => ?_) (fun h96 => ?_)
                  · exact zK.weak (J_93) (zwk_c (zwk_c (zwk_c (zwk_c (zwk_c (zwk_n (zwk_n (zwk_c (zwk_n (zwk_n zwk_e))))))))))
                  · refine q_iconst C dX0_replaces_166 (n := 167) rfl ?_
                    refine q_goto C 174 dX0_replaces_167 rfl ?_
                    exact zK.weak (J_81 0 (by omega)) (zwk_c (zwk_c (zwk_c (zwk_c (zwk_c (zwk_n (zwk_n (zwk_c (zwk_n (zwk_n zwk_e))))))))))
              refine q_icmp_ne C 146 dX0_replaces_139 (n := 142) rfl rfl (by omega) (fun h97 => ?_) (fun h97 => ?_)
              · refine q_iconst C dX0_replaces_146 (n := 147) rfl ?_
                exact zK.weak (J_77 0 (by omega) (by omega)) (zwk_c (zwk_c (zwk_c (zwk_c (zwk_c (zwk_n (zwk_n (zwk_c (zwk_n (zwk_n zwk_e))))))))))
              · refine q_iconst C dX0_replaces_142 (n := 143) rfl ?_
                refine q_goto C 147 dX0_replaces_143 rfl ?_
                exact zK.weak (J_77 1 (by omega) (by omega)) (zwk_c (zwk_c (zwk_c (zwk_c (zwk_c (zwk_n (zwk_n (zwk_c (zwk_n (zwk_n zwk_e))))))))))
            · refine q_aload_n C dX0_replaces_111 (n := 112) rfl rfl ?_
              refine q_getR C dX0_replaces_112 (n := 115) rfl f_X0_46 h0.1 (hF _ _ _ h0.2.2.2.2.2.1) ?_
              refine q_iconst C dX0_replaces_115 (n := 116) rfl ?_
              refine q_aload_n C dX0_replaces_116 (n := 117) rfl rfl ?_
              refine q_getR C dX0_replaces_117 (n := 120) rfl f_X0_14 h0.1 (hF _ _ _ h0.2.2.2.2.2.2.2.1) ?_
              refine q_getR C dX0_replaces_120 (n := 123) rfl f_X0_100 h0.2.2.2.2.2.2.2.2.1.1 (hF _ _ _ h0.2.2.2.2.2.2.2.2.1.2.2.2.2.1) ?_
              refine q_iload_n C dX0_replaces_123 (n := 124) rfl rfl ?_
              have g98 := zI.at hI (h0.2.2.2.2.2.2.2.2.1.2.2.2.2.2.2.1 v1)
              refine q_iald C dX0_replaces_124 (n := 125) rfl h0.2.2.2.2.2.2.2.2.1.2.2.2.2.2.1 (by omega) (v := M (a + 1 + 2) v1) (hk70 _ _ (zle_t (h0.2.2.2.2.2.2.2.2.1.2.2.2.2.2.2.1 v1) (by decide))) ?_
              refine q_callVv C dX0_replaces_125 (n := 128) rfl m_X0_146 v_yX1_meet h0.2.2.2.2.2.2.1.1 ⟨by decide, rfl⟩ (c_X1_meet (w := w) (J := J66) hI67 hF h0.2.2.2.2.2.2.1 3 (M (a + 1 + 2) v1) (by omega) (by omega)) (Nat.le_of_ble_eq_true rfl) rfl rfl (Nat.le_of_ble_eq_true rfl) ⟨Nat.le_refl _, Nat.le_refl _⟩ (fun M99 J100  hI101 h102 => ?_)
              have hK104 := hK71.tr h102 (by decide)
              refine q_iconst C dX0_replaces_128 (n := 129) rfl ?_
              exact q_zret C dX0_replaces_129 ⟨rfl, rfl⟩ (by omega) (by rw [hPo]; exact ⟨1, M99, J100, rfl, rfl, hI101, hK104, by omega⟩)
          · refine q_iconst C dX0_replaces_94 (n := 95) rfl ?_
            exact q_zret C dX0_replaces_95 ⟨rfl, rfl⟩ (by omega) (by rw [hPo]; exact ⟨0, M, J, rfl, rfl, hI, hK0, by omega⟩)
theorem c_X0_isReplaced {w : zWp} {T : zTl} {M : zMm} {J : zJm} {R : zRm'} {G : zGt} {F : zRm'} {a t mc q L fp tl : Nat} (hI : zI G M) (hF : zF F R) (h0 : zExpander T F G a t mc q L) (h_frame : zFrame T F G fp L) (v1 : Int) (htal : R a 7 = some tl) (t_tl : T[tl]? = some (50, 10)) (g_tl : ∀ k, G tl k = (0, (-2147483648), 2147483647)) (p1 : L ≤ 1000000) (p2 : 0 ≤ v1 ∧ v1 ≤ 3439) : zCt w 4 0 0 yX0_isReplaced cX0_isReplaced 5 (some .boolean) [.ref (w.2.1 + a), .ref (w.2.1 + fp), zi v1] (T, M, J, R) (zPi T R G (fun x M2 => (zKp G 1 M M2) ∧ (x = 0 ∨ x = 1))) := by
  refine zCt.of rfl (Nat.le_of_ble_eq_true rfl) ?_
  intro p e s m args below meth c C
  obtain ⟨Po, hPo⟩ : ∃ Po, Po = zPi T R G (fun x M2 => (zKp G 1 M M2) ∧ (x = 0 ∨ x = 1)) := ⟨_, rfl⟩
  rw [← hPo]
  have hK0 : zKp G 1 M M := zKp.rf
  show zK w p e 4 0 0 s m args below meth c 5 T Po 0 [.ref (w.2.1 + a), .ref (w.2.1 + fp), zi v1, .null, .null] [] (T, M, J, R)
  refine q_aload_n C dX0_isReplaced_0 (n := 1) rfl rfl ?_
  refine q_getR C dX0_isReplaced_1 (n := 4) rfl f_X0_14 h0.1 (hF _ _ _ h0.2.2.2.2.2.2.2.1) ?_
  refine q_getR C dX0_isReplaced_4 (n := 7) rfl f_X0_100 h0.2.2.2.2.2.2.2.2.1.1 (hF _ _ _ h0.2.2.2.2.2.2.2.2.1.2.2.2.2.1) ?_
  refine q_iload_n C dX0_isReplaced_7 (n := 8) rfl rfl ?_
  have g1 := zI.at hI (h0.2.2.2.2.2.2.2.2.1.2.2.2.2.2.2.1 v1)
  refine q_iald C dX0_isReplaced_8 (n := 9) rfl h0.2.2.2.2.2.2.2.2.1.2.2.2.2.2.1 (by omega) (v := M (a + 1 + 2) v1) rfl ?_
  refine q_istore_n C [.ref (w.2.1 + a), .ref (w.2.1 + fp), zi v1, zi (M (a + 1 + 2) v1), .null] dX0_isReplaced_9 (n := 10) rfl rfl rfl ?_
  refine q_iload_n C dX0_isReplaced_10 (n := 11) rfl rfl ?_
  refine q_callSp C dX0_isReplaced_11 (n := 14) rfl m_X0_117 s_yX5_kindOf (c_X5_kindOf (w := w) (J := J) hI hF (M (a + 1 + 2) v1)) (Nat.le_of_ble_eq_true rfl) rfl rfl (Nat.le_of_ble_eq_true rfl) ⟨Nat.le_refl _, Nat.le_refl _⟩ (fun x3 h4 => ?_)
  refine q_if_eq C 19 dX0_isReplaced_14 (n := 17) rfl rfl (by omega) (fun h5 => ?_) (fun h5 => ?_)
  · refine q_aload_n C dX0_isReplaced_19 (n := 20) rfl rfl ?_
    refine q_getR C dX0_isReplaced_20 (n := 23) rfl f_X0_42 h0.1 (hF _ _ _ h0.2.2.2.1) ?_
    refine q_aload_n C dX0_isReplaced_23 (n := 24) rfl rfl ?_
    refine q_getR C dX0_isReplaced_24 (n := 27) rfl f_X0_14 h0.1 (hF _ _ _ h0.2.2.2.2.2.2.2.1) ?_
    refine q_getR C dX0_isReplaced_27 (n := 30) rfl f_X0_97 h0.2.2.2.2.2.2.2.2.1.1 (hF _ _ _ h0.2.2.2.2.2.2.2.2.1.2.1) ?_
    refine q_iload_n C dX0_isReplaced_30 (n := 31) rfl rfl ?_
    have g6 := zI.at hI (h0.2.2.2.2.2.2.2.2.1.2.2.2.1 v1)
    have g7 : M (a + 1 + 1) v1 + zand (M (a + 1 + 2) v1) 31 ≤ (L : Int) ∧ zand (M (a + 1 + 2) v1) 31 ≤ 30 := zI.row hI (h0.2.2.2.2.2.2.2.2.1.2.2.2.1 v1)
    refine q_iald C dX0_isReplaced_31 (n := 32) rfl h0.2.2.2.2.2.2.2.2.1.2.2.1 (by omega) (v := M (a + 1 + 1) v1) rfl ?_
    refine q_iload_n C dX0_isReplaced_32 (n := 33) rfl rfl ?_
    refine q_callSp C dX0_isReplaced_33 (n := 36) rfl m_X0_121 s_yX5_lengthOf (c_X5_lengthOf (w := w) (J := J) hI hF (M (a + 1 + 2) v1)) (Nat.le_of_ble_eq_true rfl) rfl rfl (Nat.le_of_ble_eq_true rfl) ⟨Nat.le_refl _, Nat.le_refl _⟩ (fun x10 h11 => ?_)
    obtain ⟨h8, h9⟩ := h11
    refine q_callVp C dX0_isReplaced_36 (n := 39) rfl m_X0_124 v_yX3_standing h0.2.2.2.2.1.1 ⟨by decide, rfl⟩ (c_X3_standing (w := w) (J := J) hI hF h0.2.2.2.2.1 (M (a + 1 + 1) v1) x10 (by omega) (by omega) (by omega)) (Nat.le_of_ble_eq_true rfl) rfl rfl (Nat.le_of_ble_eq_true rfl) ⟨Nat.le_refl _, Nat.le_refl _⟩ (fun x13 h14 => ?_)
    refine q_istore C [.ref (w.2.1 + a), .ref (w.2.1 + fp), zi v1, zi (M (a + 1 + 2) v1), zi x13] dX0_isReplaced_39 (n := 41) rfl rfl rfl ?_
    refine q_iload C dX0_isReplaced_41 (n := 43) rfl rfl ?_
    refine q_iconst C dX0_isReplaced_43 (n := 44) rfl ?_
    refine q_icmp_eq C 64 dX0_isReplaced_44 (n := 47) rfl rfl (by omega) (fun h15 => ?_) (fun h15 => ?_)
    · refine q_iconst C dX0_isReplaced_64 (n := 65) rfl ?_
      exact q_zret C dX0_isReplaced_65 ⟨rfl, rfl⟩ (by omega) (by rw [hPo]; exact ⟨0, M, J, rfl, rfl, hI, hK0, by omega⟩)
    · refine q_aload_n C dX0_isReplaced_47 (n := 48) rfl rfl ?_
      refine q_getR C dX0_isReplaced_48 (n := 51) rfl f_X0_14 h0.1 (hF _ _ _ h0.2.2.2.2.2.2.2.1) ?_
      refine q_getR C dX0_isReplaced_51 (n := 54) rfl f_X0_103 h0.2.2.2.2.2.2.2.2.1.1 (hF _ _ _ h0.2.2.2.2.2.2.2.2.1.2.2.2.2.2.2.2.1) ?_
      refine q_iload_n C dX0_isReplaced_54 (n := 55) rfl rfl ?_
      have g16 := zI.at hI (h0.2.2.2.2.2.2.2.2.1.2.2.2.2.2.2.2.2.2.1 v1)
      refine q_iald C dX0_isReplaced_55 (n := 56) rfl h0.2.2.2.2.2.2.2.2.1.2.2.2.2.2.2.2.2.1 (by omega) (v := M (a + 1 + 3) v1) rfl ?_
      refine q_iload C dX0_isReplaced_56 (n := 58) rfl rfl ?_
      refine q_ishr C dX0_isReplaced_58 (n := 59) rfl (v := zshr (M (a + 1 + 3) v1) x13) rfl ?_
      have g17 := zr_shr (M (a + 1 + 3) v1) x13
      refine q_iconst C dX0_isReplaced_59 (n := 60) rfl ?_
      refine q_iand C dX0_isReplaced_60 (n := 61) rfl (v := zand (zshr (M (a + 1 + 3) v1) x13) 1) rfl ?_
      have g18 := zand_r (x := zshr (M (a + 1 + 3) v1) x13) (k := 1) (by omega)
      refine q_if_eq C 66 dX0_isReplaced_61 (n := 64) rfl rfl (by omega) (fun h19 => ?_) (fun h19 => ?_)
      · refine q_aload_n C dX0_isReplaced_66 (n := 67) rfl rfl ?_
        refine q_aload_n C dX0_isReplaced_67 (n := 68) rfl rfl ?_
        refine q_iload_n C dX0_isReplaced_68 (n := 69) rfl rfl ?_
        refine q_iload C dX0_isReplaced_69 (n := 71) rfl rfl ?_
        refine q_callVi C dX0_isReplaced_71 (n := 74) rfl m_X0_130 v_yX0_replaces h0.1 ⟨by decide, rfl⟩ (c_X0_replaces (w := w) (J := J) hI hF h0 h_frame v1 x13 (by assumption) (by assumption) (by assumption) (by omega) (by omega) (by omega)) (Nat.le_of_ble_eq_true rfl) rfl rfl (Nat.le_of_ble_eq_true rfl) ⟨Nat.le_refl _, Nat.le_refl _⟩ (fun x25 M21 J22  hI23 h24 => ?_)
        obtain ⟨hk26, h20⟩ := h24
        have hK27 := hK0.tr hk26 (by decide)
        exact q_zret C dX0_isReplaced_74 ⟨rfl, rfl⟩ (by omega) (by rw [hPo]; exact ⟨x25, M21, J22, rfl, rfl, hI23, hK27, by omega⟩)
      · refine q_iconst C dX0_isReplaced_64 (n := 65) rfl ?_
        exact q_zret C dX0_isReplaced_65 ⟨rfl, rfl⟩ (by omega) (by rw [hPo]; exact ⟨0, M, J, rfl, rfl, hI, hK0, by omega⟩)
  · refine q_iconst C dX0_isReplaced_17 (n := 18) rfl ?_
    exact q_zret C dX0_isReplaced_18 ⟨rfl, rfl⟩ (by omega) (by rw [hPo]; exact ⟨0, M, J, rfl, rfl, hI, hK0, by omega⟩)
theorem c_X0_putInPlace {w : zWp} {T : zTl} {M : zMm} {J : zJm} {R : zRm'} {G : zGt} {F : zRm'} {a t mc q L fp tl : Nat} (hI : zI G M) (hF : zF F R) (h0 : zExpander T F G a t mc q L) (h_frame : zFrame T F G fp L) (htal : R a 7 = some tl) (t_tl : T[tl]? = some (50, 10)) (g_tl : ∀ k, G tl k = (0, (-2147483648), 2147483647)) (p1 : L ≤ 1000000) : zCt w 2 0 0 yX0_putInPlace cX0_putInPlace 6 none [.ref (w.2.1 + a), .ref (w.2.1 + fp)] (T, M, J, R) (zPv T R G (fun M2 => (zKp G 4 M M2))) := by
  refine zCt.of rfl (Nat.le_of_ble_eq_true rfl) ?_
  intro p e s m args below meth c C
  obtain ⟨Po, hPo⟩ : ∃ Po, Po = zPv T R G (fun M2 => (zKp G 4 M M2)) := ⟨_, rfl⟩
  rw [← hPo]
  have hK0 : zKp G 4 M M := zKp.rf
  show zK w p e 2 0 0 s m args below meth c 6 T Po 0 [.ref (w.2.1 + a), .ref (w.2.1 + fp), .null, .null, .null, .null] [] (T, M, J, R)
  refine q_aload_n C dX0_putInPlace_0 (n := 1) rfl rfl ?_
  refine q_getR C dX0_putInPlace_1 (n := 4) rfl f_X0_50 h0.1 htal ?_
  refine q_bipush C dX0_putInPlace_4 (n := 6) rfl (x := 7) (by decide) ?_
  refine q_dup2 C dX0_putInPlace_6 (n := 7) rfl ⟨rfl, rfl⟩ ?_
  have g1 := zI.at hI (g_tl 7)
  refine q_iald C dX0_putInPlace_7 (n := 8) rfl t_tl (by omega) (v := M tl 7) rfl ?_
  refine q_aload_n C dX0_putInPlace_8 (n := 9) rfl rfl ?_
  have g2 := zI.at hI h_frame.2.2.2.2.2.2.2.2.2.2.2.2.2.2.2.2.2.2.2.2.2.2.2
  refine q_getI C dX0_putInPlace_9 (n := 12) rfl f_X0_236 h_frame.1 (v := M fp 17) rfl ?_
  refine q_iadd C dX0_putInPlace_12 (n := 13) rfl (v := (M tl 7) + (M fp 17)) rfl ?_
  refine q_wrap C ?_
  have g3 := zr_wr ((M tl 7) + (M fp 17))
  refine q_iast C dX0_putInPlace_13 (n := 14) rfl t_tl (by omega)  (fun M4 e5 => ?_)
  have hI6 : zI G M4 := hI.put e5 (g_tl 7) rfl (by omega)
  have hK7 := hK0.put e5 (g_tl 7) (by decide)
  refine q_aload_n C dX0_putInPlace_14 (n := 15) rfl rfl ?_
  have g8 := zI.at hI6 h_frame.2.2.2.2.2.2.2.2.2.2.2.2.2.2.2.2.2.2.2.2.2.2.1
  refine q_getI C dX0_putInPlace_15 (n := 18) rfl f_X0_217 h_frame.1 (v := M4 fp 16) rfl ?_
  refine q_if_eq C 35 dX0_putInPlace_18 (n := 21) rfl rfl (by omega) (fun h9 => ?_) (fun h9 => ?_)
  · refine q_aload_n C dX0_putInPlace_35 (n := 36) rfl rfl ?_
    refine q_getR C dX0_putInPlace_36 (n := 39) rfl f_X0_211 h_frame.1 (hF _ _ _ h_frame.2.2.2.2.2.2.2.2.2.2.2.2.2.2.2.2.1) ?_
    refine q_astore_n C [.ref (w.2.1 + a), .ref (w.2.1 + fp), .ref (w.2.1 + (fp + 3)), .null, .null, .null] dX0_putInPlace_39 (n := 40) rfl rfl rfl ?_
    refine q_aload_n C dX0_putInPlace_40 (n := 41) rfl rfl ?_
    have g10 := zI.at hI6 h_frame.2.2.2.2.2.2.2.2.2.2.2.2.2.2.2.2.2.1.2.2.2.2.2.2.2.2.2.2
    refine q_getI C dX0_putInPlace_41 (n := 44) rfl f_X0_60 h_frame.2.2.2.2.2.2.2.2.2.2.2.2.2.2.2.2.2.1.1 (v := M4 (fp + 3) 3) rfl ?_
    refine q_bipush C dX0_putInPlace_44 (n := 46) rfl (x := 30) (by decide) ?_
    have J_11 : zK w p e 2 0 0 s m args below meth c 6 T Po 67 [.ref (w.2.1 + a), .ref (w.2.1 + fp), .null, .null, .null, .null] [] (T, M4, J, R) := by
      refine q_aload_n C dX0_putInPlace_67 (n := 68) rfl rfl ?_
      refine q_getR C dX0_putInPlace_68 (n := 71) rfl f_X0_46 h0.1 (hF _ _ _ h0.2.2.2.2.2.1) ?_
      refine q_bipush C dX0_putInPlace_71 (n := 73) rfl (x := 7) (by decide) ?_
      refine q_aload_n C dX0_putInPlace_73 (n := 74) rfl rfl ?_
      have g12 := zI.at hI6 h_frame.2.2.2.2.2.2.2.1
      refine q_getI C dX0_putInPlace_74 (n := 77) rfl f_X0_199 h_frame.1 (v := M4 fp 6) rfl ?_
      refine q_callVv C dX0_putInPlace_77 (n := 80) rfl m_X0_146 v_yX1_meet h0.2.2.2.2.2.2.1.1 ⟨by decide, rfl⟩ (c_X1_meet (w := w) (J := J) hI6 hF h0.2.2.2.2.2.2.1 7 (M4 fp 6) (by omega) (by omega)) (Nat.le_of_ble_eq_true rfl) rfl rfl (Nat.le_of_ble_eq_true rfl) ⟨Nat.le_refl _, Nat.le_refl _⟩ (fun M13 J14  hI15 h16 => ?_)
      have hK18 := hK7.tr h16 (by decide)
      exact q_vret C dX0_putInPlace_80 ⟨rfl, rfl⟩ (by rw [hPo]; exact ⟨M13, J14, rfl, rfl, hI15, hK18⟩)
    refine q_icmp_gt C 67 dX0_putInPlace_46 (n := 49) rfl rfl (by omega) (fun h19 => ?_) (fun h19 => ?_)
    · exact zK.weak (J_11) (zwk_c (zwk_c (zwk_n (zwk_n (zwk_n (zwk_n zwk_e))))))
    · refine q_aload_n C dX0_putInPlace_49 (n := 50) rfl rfl ?_
      refine q_getR C dX0_putInPlace_50 (n := 53) rfl f_X0_14 h0.1 (hF _ _ _ h0.2.2.2.2.2.2.2.1) ?_
      have g20 := zI.at hI6 h0.2.2.2.2.2.2.2.2.1.2.2.2.2.2.2.2.2.2.2
      refine q_getI C dX0_putInPlace_53 (n := 56) rfl f_X0_60 h0.2.2.2.2.2.2.2.2.1.1 (v := M4 (a + 1) 3) rfl ?_
      refine q_aload_n C dX0_putInPlace_56 (n := 57) rfl rfl ?_
      refine q_getI C dX0_putInPlace_57 (n := 60) rfl f_X0_60 h_frame.2.2.2.2.2.2.2.2.2.2.2.2.2.2.2.2.2.1.1 (v := M4 (fp + 3) 3) rfl ?_
      refine q_iadd C dX0_putInPlace_60 (n := 61) rfl (v := (M4 (a + 1) 3) + (M4 (fp + 3) 3)) rfl ?_
      refine q_sipush C dX0_putInPlace_61 (n := 64) rfl (x := 3440) (by decide) ?_
      refine q_icmp_le C 81 dX0_putInPlace_64 (n := 67) rfl rfl (by omega) (fun h21 => ?_) (fun h21 => ?_)
      · refine q_aload_n C dX0_putInPlace_81 (n := 82) rfl rfl ?_
        have g22 := zI.at hI6 h_frame.2.2.2.2.2.2.2.2.1
        refine q_getI C dX0_putInPlace_82 (n := 85) rfl f_X0_242 h_frame.1 (v := M4 fp 7) rfl ?_
        refine q_istore_n C [.ref (w.2.1 + a), .ref (w.2.1 + fp), .ref (w.2.1 + (fp + 3)), zi (M4 fp 7), .null, .null] dX0_putInPlace_85 (n := 86) rfl rfl rfl ?_
        refine q_aload_n C dX0_putInPlace_86 (n := 87) rfl rfl ?_
        refine q_getI C dX0_putInPlace_87 (n := 90) rfl f_X0_60 h_frame.2.2.2.2.2.2.2.2.2.2.2.2.2.2.2.2.2.1.1 (v := M4 (fp + 3) 3) rfl ?_
        refine q_iconst C dX0_putInPlace_90 (n := 91) rfl ?_
        refine q_isub C dX0_putInPlace_91 (n := 92) rfl (v := (M4 (fp + 3) 3) - 1) rfl ?_
        refine q_istore C [.ref (w.2.1 + a), .ref (w.2.1 + fp), .ref (w.2.1 + (fp + 3)), zi (M4 fp 7), zi ((M4 (fp + 3) 3) - 1), .null] dX0_putInPlace_92 (n := 94) rfl rfl rfl ?_
        have L_34 : ∀ n35 : Nat, ∀ (u23 : Int) (u24 : Int) (M25 : zMm) (J26 : zJm), zI G M25 → zKp G 4 M M25 → (-2147483648 ≤ u23 ∧ u23 ≤ 2147483647) → (-2147483648 ≤ u24 ∧ u24 ≤ 2147483647) → (-1 ≤ u23 ∧ u23 ≤ 3439) → (-1 ≤ u24 ∧ u24 ≤ 29) → (M25 (a + 1) 3 + u24 + 1 ≤ 3440) → (u24 + 2 ≤ (n35 : Int)) → zK w p e 2 0 0 s m args below meth c 6 T Po 94 [.ref (w.2.1 + a), .ref (w.2.1 + fp), .ref (w.2.1 + (fp + 3)), zi u23, zi u24, .null] [] (T, M25, J26, R) := by
          intro n35
          induction n35 with
          | zero =>
            intro u23 u24 M25 J26 hI27 hK28 h29 h30 h31 h32 h33 hm37
            exfalso
            omega
          | succ n35 ih36 =>
            intro u23 u24 M25 J26 hI27 hK28 h29 h30 h31 h32 h33 hm37
            refine q_iload C dX0_putInPlace_94 (n := 96) rfl rfl ?_
            refine q_if_lt C 186 dX0_putInPlace_96 (n := 99) rfl rfl (by omega) (fun h38 => ?_) (fun h38 => ?_)
            · refine q_aload_n C dX0_putInPlace_186 (n := 187) rfl rfl ?_
              refine q_iload_n C dX0_putInPlace_187 (n := 188) rfl rfl ?_
              refine q_putI C dX0_putInPlace_188 (n := 191) rfl f_X0_77 h_frame.1 ⟨rfl, rfl⟩ (fun M39 (e40 : M39 = zup M25 fp 0 u23) => ?_)
              have hI41 : zI G M39 := hI27.put e40 h_frame.2.1 rfl (by omega)
              have hK42 := hK28.put e40 h_frame.2.1 (by decide)
              refine q_aload_n C dX0_putInPlace_191 (n := 192) rfl rfl ?_
              refine q_iconst C dX0_putInPlace_192 (n := 193) rfl ?_
              refine q_putI C dX0_putInPlace_193 (n := 196) rfl f_X0_80 h_frame.1 ⟨rfl, rfl⟩ (fun M43 (e44 : M43 = zup M39 fp 3 (-1)) => ?_)
              have hI45 : zI G M43 := hI41.put e44 h_frame.2.2.2.2.1 rfl (by omega)
              have hK46 := hK42.put e44 h_frame.2.2.2.2.1 (by decide)
              exact q_vret C dX0_putInPlace_196 ⟨rfl, rfl⟩ (by rw [hPo]; exact ⟨M43, J26, rfl, rfl, hI45, hK46⟩)
            · refine q_iload C dX0_putInPlace_99 (n := 101) rfl rfl ?_
              have J_50 : ∀ (u47 : Int), (-2147483648 ≤ u47 ∧ u47 ≤ 2147483647) → (zand u47 31 = zand (M25 (fp + 3 + 2) u24) 31) → zK w p e 2 0 0 s m args below meth c 6 T Po 128 [.ref (w.2.1 + a), .ref (w.2.1 + fp), .ref (w.2.1 + (fp + 3)), zi u23, zi u24, .null] [zi u47] (T, M25, J26, R) := by
                intro u47 h48 h49
                refine q_istore C [.ref (w.2.1 + a), .ref (w.2.1 + fp), .ref (w.2.1 + (fp + 3)), zi u23, zi u24, zi u47] dX0_putInPlace_128 (n := 130) rfl rfl rfl ?_
                refine q_aload_n C dX0_putInPlace_130 (n := 131) rfl rfl ?_
                refine q_getR C dX0_putInPlace_131 (n := 134) rfl f_X0_20 h0.1 (hF _ _ _ h0.2.2.2.2.2.2.2.2.2.1) ?_
                refine q_aload_n C dX0_putInPlace_134 (n := 135) rfl rfl ?_
                refine q_getR C dX0_putInPlace_135 (n := 138) rfl f_X0_14 h0.1 (hF _ _ _ h0.2.2.2.2.2.2.2.1) ?_
                have g51 := zI.at hI27 h0.2.2.2.2.2.2.2.2.1.2.2.2.2.2.2.2.2.2.2
                refine q_getI C dX0_putInPlace_138 (n := 141) rfl f_X0_60 h0.2.2.2.2.2.2.2.2.1.1 (v := M25 (a + 1) 3) rfl ?_
                refine q_iload_n C dX0_putInPlace_141 (n := 142) rfl rfl ?_
                refine q_iast C dX0_putInPlace_142 (n := 143) rfl h0.2.2.2.2.2.2.2.2.2.2.1 (by omega)  (fun M52 e53 => ?_)
                have hI54 : zI G M52 := hI27.put e53 (h0.2.2.2.2.2.2.2.2.2.2.2.1 (M25 (a + 1) 3)) rfl (by omega)
                have hK55 := hK28.put e53 (h0.2.2.2.2.2.2.2.2.2.2.2.1 (M25 (a + 1) 3)) (by decide)
                refine q_aload_n C dX0_putInPlace_143 (n := 144) rfl rfl ?_
                refine q_getR C dX0_putInPlace_144 (n := 147) rfl f_X0_14 h0.1 (hF _ _ _ h0.2.2.2.2.2.2.2.1) ?_
                refine q_getI C dX0_putInPlace_147 (n := 150) rfl f_X0_60 h0.2.2.2.2.2.2.2.2.1.1 (v := M25 (a + 1) 3) (zup_p e53 (by omega) _) ?_
                refine q_istore_n C [.ref (w.2.1 + a), .ref (w.2.1 + fp), .ref (w.2.1 + (fp + 3)), zi (M25 (a + 1) 3), zi u24, zi u47] dX0_putInPlace_150 (n := 151) rfl rfl rfl ?_
                refine q_aload_n C dX0_putInPlace_151 (n := 152) rfl rfl ?_
                refine q_getR C dX0_putInPlace_152 (n := 155) rfl f_X0_14 h0.1 (hF _ _ _ h0.2.2.2.2.2.2.2.1) ?_
                refine q_aload_n C dX0_putInPlace_155 (n := 156) rfl rfl ?_
                refine q_getR C dX0_putInPlace_156 (n := 159) rfl f_X0_97 h_frame.2.2.2.2.2.2.2.2.2.2.2.2.2.2.2.2.2.1.1 (hF _ _ _ h_frame.2.2.2.2.2.2.2.2.2.2.2.2.2.2.2.2.2.1.2.1) ?_
                refine q_iload C dX0_putInPlace_159 (n := 161) rfl rfl ?_
                have g56 := zI.at hI27 (h_frame.2.2.2.2.2.2.2.2.2.2.2.2.2.2.2.2.2.1.2.2.2.1 u24)
                have g57 : M25 (fp + 3 + 1) u24 + zand (M25 (fp + 3 + 2) u24) 31 ≤ (L : Int) ∧ zand (M25 (fp + 3 + 2) u24) 31 ≤ 30 := zI.row hI27 (h_frame.2.2.2.2.2.2.2.2.2.2.2.2.2.2.2.2.2.1.2.2.2.1 u24)
                refine q_iald C dX0_putInPlace_161 (n := 162) rfl h_frame.2.2.2.2.2.2.2.2.2.2.2.2.2.2.2.2.2.1.2.2.1 (by omega) (v := M25 (fp + 3 + 1) u24) (zup_n e53 (zne_t (h_frame.2.2.2.2.2.2.2.2.2.2.2.2.2.2.2.2.2.1.2.2.2.1 u24) (h0.2.2.2.2.2.2.2.2.2.2.2.1 (M25 (a + 1) 3)) (by decide))) ?_
                refine q_iload C dX0_putInPlace_162 (n := 164) rfl rfl ?_
                refine q_aload_n C dX0_putInPlace_164 (n := 165) rfl rfl ?_
                refine q_getR C dX0_putInPlace_165 (n := 168) rfl f_X0_103 h_frame.2.2.2.2.2.2.2.2.2.2.2.2.2.2.2.2.2.1.1 (hF _ _ _ h_frame.2.2.2.2.2.2.2.2.2.2.2.2.2.2.2.2.2.1.2.2.2.2.2.2.2.1) ?_
                refine q_iload C dX0_putInPlace_168 (n := 170) rfl rfl ?_
                have g58 := zI.at hI54 (h_frame.2.2.2.2.2.2.2.2.2.2.2.2.2.2.2.2.2.1.2.2.2.2.2.2.2.2.2.1 u24)
                refine q_iald C dX0_putInPlace_170 (n := 171) rfl h_frame.2.2.2.2.2.2.2.2.2.2.2.2.2.2.2.2.2.1.2.2.2.2.2.2.2.2.1 (by omega) (v := M52 (fp + 3 + 3) u24) rfl ?_
                refine q_aload_n C dX0_putInPlace_171 (n := 172) rfl rfl ?_
                have g59 := zI.at hI54 h_frame.2.2.2.2.2.2.1
                refine q_getI C dX0_putInPlace_172 (n := 175) rfl f_X0_245 h_frame.1 (v := M52 fp 5) rfl ?_
                refine q_ior C dX0_putInPlace_175 (n := 176) rfl (v := zor (M52 (fp + 3 + 3) u24) (M52 fp 5)) rfl ?_
                have g60 := zr_or (M52 (fp + 3 + 3) u24) (M52 fp 5)
                have g61 : zand (M52 (fp + 3 + 3) u24) 31 = 0 → zand (zor (M52 (fp + 3 + 3) u24) (M52 fp 5)) 31 = zand (M52 fp 5) 31 := fun h => zl_or h
                refine q_callVi C dX0_putInPlace_176 (n := 179) rfl m_X0_63 v_yX5_add h0.2.2.2.2.2.2.2.2.1.1 ⟨by decide, rfl⟩ (c_X5_add (w := w) (J := J26) hI54 hF h0.2.2.2.2.2.2.2.2.1 (M25 (fp + 3 + 1) u24) u47 (zor (M52 (fp + 3 + 3) u24) (M52 fp 5)) (by omega) (by omega) (by omega) (by omega)) (Nat.le_of_ble_eq_true rfl) rfl rfl (Nat.le_of_ble_eq_true rfl) ⟨Nat.le_refl _, Nat.le_refl _⟩ (fun x69 M65 J66  hI67 h68 => ?_)
                obtain ⟨hk70, h62, h63, h64⟩ := h68
                have hK71 := hK55.tr hk70 (by decide)
                have hz72 : M52 (a + 1) 3 = M25 (a + 1) 3 := (zup_p e53 (by omega) _)
                refine q_pop C dX0_putInPlace_179 (n := 180) rfl rfl ?_
                refine q_iinc C [.ref (w.2.1 + a), .ref (w.2.1 + fp), .ref (w.2.1 + (fp + 3)), zi (M25 (a + 1) 3), zi (u24 + (-1)), zi u47] dX0_putInPlace_180 (n := 183) rfl rfl rfl rfl ?_
                refine q_goto C 94 dX0_putInPlace_183 rfl ?_
                exact zK.weak (ih36 (M25 (a + 1) 3) (u24 + (-1)) M65 J66 hI67 hK71 (by omega) (by omega) (by omega) (by omega) (by omega) (by omega)) (zwk_c (zwk_c (zwk_c (zwk_c (zwk_c (zwk_n zwk_e))))))
              refine q_if_ne C 121 dX0_putInPlace_101 (n := 104) rfl rfl (by omega) (fun h73 => ?_) (fun h73 => ?_)
              · refine q_aload_n C dX0_putInPlace_121 (n := 122) rfl rfl ?_
                refine q_getR C dX0_putInPlace_122 (n := 125) rfl f_X0_100 h_frame.2.2.2.2.2.2.2.2.2.2.2.2.2.2.2.2.2.1.1 (hF _ _ _ h_frame.2.2.2.2.2.2.2.2.2.2.2.2.2.2.2.2.2.1.2.2.2.2.1) ?_
                refine q_iload C dX0_putInPlace_125 (n := 127) rfl rfl ?_
                have g74 := zI.at hI27 (h_frame.2.2.2.2.2.2.2.2.2.2.2.2.2.2.2.2.2.1.2.2.2.2.2.2.1 u24)
                refine q_iald C dX0_putInPlace_127 (n := 128) rfl h_frame.2.2.2.2.2.2.2.2.2.2.2.2.2.2.2.2.2.1.2.2.2.2.2.1 (by omega) (v := M25 (fp + 3 + 2) u24) rfl ?_
                exact zK.weak (J_50 (M25 (fp + 3 + 2) u24) (by omega) (by omega)) (zwk_c (zwk_c (zwk_c (zwk_c (zwk_c (zwk_n zwk_e))))))
              · refine q_aload_n C dX0_putInPlace_104 (n := 105) rfl rfl ?_
                refine q_getR C dX0_putInPlace_105 (n := 108) rfl f_X0_100 h_frame.2.2.2.2.2.2.2.2.2.2.2.2.2.2.2.2.2.1.1 (hF _ _ _ h_frame.2.2.2.2.2.2.2.2.2.2.2.2.2.2.2.2.2.1.2.2.2.2.1) ?_
                refine q_iload C dX0_putInPlace_108 (n := 110) rfl rfl ?_
                have g75 := zI.at hI27 (h_frame.2.2.2.2.2.2.2.2.2.2.2.2.2.2.2.2.2.1.2.2.2.2.2.2.1 u24)
                refine q_iald C dX0_putInPlace_110 (n := 111) rfl h_frame.2.2.2.2.2.2.2.2.2.2.2.2.2.2.2.2.2.1.2.2.2.2.2.1 (by omega) (v := M25 (fp + 3 + 2) u24) rfl ?_
                refine q_aload_n C dX0_putInPlace_111 (n := 112) rfl rfl ?_
                have g76 := zI.at hI27 h_frame.2.2.2.2.2.2.2.1
                refine q_getI C dX0_putInPlace_112 (n := 115) rfl f_X0_199 h_frame.1 (v := M25 fp 6) rfl ?_
                refine q_callSp C dX0_putInPlace_115 (n := 118) rfl m_X0_205 s_yX5_blankAs (c_X5_blankAs (w := w) (J := J26) hI27 hF (M25 (fp + 3 + 2) u24) (M25 fp 6)) (Nat.le_of_ble_eq_true rfl) rfl rfl (Nat.le_of_ble_eq_true rfl) ⟨Nat.le_refl _, Nat.le_refl _⟩ (fun x79 h80 => ?_)
                obtain ⟨h77, h78⟩ := h80
                refine q_goto C 128 dX0_putInPlace_118 rfl ?_
                exact zK.weak (J_50 x79 (by omega) (by omega)) (zwk_c (zwk_c (zwk_c (zwk_c (zwk_c (zwk_n zwk_e))))))
        exact zK.weak (L_34 _ (M4 fp 7) ((M4 (fp + 3) 3) - 1) M4 J hI6 hK7 (by omega) (by omega) (by omega) (by omega) (by omega) (Int.self_le_toNat _)) (zwk_c (zwk_c (zwk_c (zwk_c (zwk_c (zwk_n zwk_e))))))
      · exact zK.weak (J_11) (zwk_c (zwk_c (zwk_n (zwk_n (zwk_n (zwk_n zwk_e))))))
  · refine q_aload_n C dX0_putInPlace_21 (n := 22) rfl rfl ?_
    refine q_getR C dX0_putInPlace_22 (n := 25) rfl f_X0_46 h0.1 (hF _ _ _ h0.2.2.2.2.2.1) ?_
    refine q_bipush C dX0_putInPlace_25 (n := 27) rfl (x := 6) (by decide) ?_
    refine q_aload_n C dX0_putInPlace_27 (n := 28) rfl rfl ?_
    have g81 := zI.at hI6 h_frame.2.2.2.2.2.2.2.1
    refine q_getI C dX0_putInPlace_28 (n := 31) rfl f_X0_199 h_frame.1 (v := M4 fp 6) rfl ?_
    refine q_callVv C dX0_putInPlace_31 (n := 34) rfl m_X0_146 v_yX1_meet h0.2.2.2.2.2.2.1.1 ⟨by decide, rfl⟩ (c_X1_meet (w := w) (J := J) hI6 hF h0.2.2.2.2.2.2.1 6 (M4 fp 6) (by omega) (by omega)) (Nat.le_of_ble_eq_true rfl) rfl rfl (Nat.le_of_ble_eq_true rfl) ⟨Nat.le_refl _, Nat.le_refl _⟩ (fun M82 J83  hI84 h85 => ?_)
    have hK87 := hK7.tr h85 (by decide)
    exact q_vret C dX0_putInPlace_34 ⟨rfl, rfl⟩ (by rw [hPo]; exact ⟨M82, J83, rfl, rfl, hI84, hK87⟩)
theorem c_X0_makeString {w : zWp} {T : zTl} {M : zMm} {J : zJm} {R : zRm'} {G : zGt} {F : zRm'} {a t mc q L fp tl : Nat} (hI : zI G M) (hF : zF F R) (h0 : zExpander T F G a t mc q L) (h_frame : zFrame T F G fp L) (v1 : Int) (htal : R a 7 = some tl) (t_tl : T[tl]? = some (50, 10)) (g_tl : ∀ k, G tl k = (0, (-2147483648), 2147483647)) (p1 : L ≤ 1000000) (p2 : -2147483648 ≤ v1 ∧ v1 ≤ 2147483647) : zCt w 2 0 0 yX0_makeString cX0_makeString 13 (some .int) [.ref (w.2.1 + a), .ref (w.2.1 + fp), zi v1] (T, M, J, R) (zPi T R G (fun x M2 => (zKp G 1 M M2) ∧ (x = -1 ∨ 0 ≤ x ∧ x ≤ 30 ∧ M t 1 + x ≤ L))) := by
  refine zCt.of rfl (Nat.le_of_ble_eq_true rfl) ?_
  intro p e s m args below meth c C
  obtain ⟨Po, hPo⟩ : ∃ Po, Po = zPi T R G (fun x M2 => (zKp G 1 M M2) ∧ (x = -1 ∨ 0 ≤ x ∧ x ≤ 30 ∧ M t 1 + x ≤ L)) := ⟨_, rfl⟩
  rw [← hPo]
  have hK0 : zKp G 1 M M := zKp.rf
  show zK w p e 2 0 0 s m args below meth c 13 T Po 0 [.ref (w.2.1 + a), .ref (w.2.1 + fp), zi v1, .null, .null, .null, .null, .null, .null, .null, .null, .null, .null] [] (T, M, J, R)
  refine q_aload_n C dX0_makeString_0 (n := 1) rfl rfl ?_
  refine q_getR C dX0_makeString_1 (n := 4) rfl f_X0_38 h0.1 (hF _ _ _ h0.2.1) ?_
  have g1 := zI.at hI h0.2.2.1.2.2.2.2
  refine q_getI C dX0_makeString_4 (n := 7) rfl f_X0_193 h0.2.2.1.1 (v := M t 1) rfl ?_
  refine q_istore_n C [.ref (w.2.1 + a), .ref (w.2.1 + fp), zi v1, zi (M t 1), .null, .null, .null, .null, .null, .null, .null, .null, .null] dX0_makeString_7 (n := 8) rfl rfl rfl ?_
  refine q_iload_n C dX0_makeString_8 (n := 9) rfl rfl ?_
  refine q_if_lt C 32 dX0_makeString_9 (n := 12) rfl rfl (by omega) (fun h2 => ?_) (fun h2 => ?_)
  · refine q_iconst C dX0_makeString_32 (n := 33) rfl ?_
    exact q_iret C dX0_makeString_33 ⟨rfl, rfl⟩ (by rw [hPo]; exact ⟨(-1), M, J, rfl, rfl, hI, hK0, by omega⟩)
  · refine q_iload_n C dX0_makeString_12 (n := 13) rfl rfl ?_
    refine q_iconst C dX0_makeString_13 (n := 14) rfl ?_
    refine q_icmp_ge C 32 dX0_makeString_14 (n := 17) rfl rfl (by omega) (fun h3 => ?_) (fun h3 => ?_)
    · refine q_iconst C dX0_makeString_32 (n := 33) rfl ?_
      exact q_iret C dX0_makeString_33 ⟨rfl, rfl⟩ (by rw [hPo]; exact ⟨(-1), M, J, rfl, rfl, hI, hK0, by omega⟩)
    · refine q_iload_n C dX0_makeString_17 (n := 18) rfl rfl ?_
      refine q_bipush C dX0_makeString_18 (n := 20) rfl (x := 30) (by decide) ?_
      refine q_iadd C dX0_makeString_20 (n := 21) rfl (v := (M t 1) + 30) rfl ?_
      refine q_aload_n C dX0_makeString_21 (n := 22) rfl rfl ?_
      refine q_getR C dX0_makeString_22 (n := 25) rfl f_X0_38 h0.1 (hF _ _ _ h0.2.1) ?_
      refine q_getR C dX0_makeString_25 (n := 28) rfl f_X0_220 h0.2.2.1.1 (hF _ _ _ h0.2.2.1.2.1) ?_
      refine q_alen C dX0_makeString_28 (n := 29) rfl ⟨by decide, by decide⟩ h0.2.2.1.2.2.1 ?_
      refine q_icmp_le C 34 dX0_makeString_29 (n := 32) rfl rfl (by omega) (fun h4 => ?_) (fun h4 => ?_)
      · refine q_iconst C dX0_makeString_34 (n := 35) rfl ?_
        refine q_istore C [.ref (w.2.1 + a), .ref (w.2.1 + fp), zi v1, zi (M t 1), zi 1, .null, .null, .null, .null, .null, .null, .null, .null] dX0_makeString_35 (n := 37) rfl rfl rfl ?_
        refine q_aload_n C dX0_makeString_37 (n := 38) rfl rfl ?_
        refine q_getR C dX0_makeString_38 (n := 41) rfl f_X0_38 h0.1 (hF _ _ _ h0.2.1) ?_
        refine q_getR C dX0_makeString_41 (n := 44) rfl f_X0_220 h0.2.2.1.1 (hF _ _ _ h0.2.2.1.2.1) ?_
        refine q_iload_n C dX0_makeString_44 (n := 45) rfl rfl ?_
        refine q_bipush C dX0_makeString_45 (n := 47) rfl (x := 34) (by decide) ?_
        refine q_bast C dX0_makeString_47 (n := 48) rfl h0.2.2.1.2.2.1 (by omega) (by omega) (fun M5 e6 => ?_)
        have hI7 : zI G M5 := hI.put e6 (h0.2.2.1.2.2.2.1 (M t 1)) rfl (by omega)
        have hK8 := hK0.put e6 (h0.2.2.1.2.2.2.1 (M t 1)) (by decide)
        refine q_aload_n C dX0_makeString_48 (n := 49) rfl rfl ?_
        refine q_getR C dX0_makeString_49 (n := 52) rfl f_X0_159 h_frame.1 (hF _ _ _ h_frame.2.2.2.2.2.2.2.2.2.2.1) ?_
        refine q_iload_n C dX0_makeString_52 (n := 53) rfl rfl ?_
        have g9 := zI.at hI7 (h_frame.2.2.2.2.2.2.2.2.2.2.2.2.1 v1)
        refine q_iald C dX0_makeString_53 (n := 54) rfl h_frame.2.2.2.2.2.2.2.2.2.2.2.1 (by omega) (v := M5 (fp + 1) v1) rfl ?_
        refine q_istore C [.ref (w.2.1 + a), .ref (w.2.1 + fp), zi v1, zi (M t 1), zi 1, zi (M5 (fp + 1) v1), .null, .null, .null, .null, .null, .null, .null] dX0_makeString_54 (n := 56) rfl rfl rfl ?_
        refine q_aload_n C dX0_makeString_56 (n := 57) rfl rfl ?_
        refine q_getR C dX0_makeString_57 (n := 60) rfl f_X0_162 h_frame.1 (hF _ _ _ h_frame.2.2.2.2.2.2.2.2.2.2.2.2.2.1) ?_
        refine q_iload_n C dX0_makeString_60 (n := 61) rfl rfl ?_
        have g10 := zI.at hI7 (h_frame.2.2.2.2.2.2.2.2.2.2.2.2.2.2.2.1 v1)
        refine q_iald C dX0_makeString_61 (n := 62) rfl h_frame.2.2.2.2.2.2.2.2.2.2.2.2.2.2.1 (by omega) (v := M5 (fp + 2) v1) rfl ?_
        refine q_istore C [.ref (w.2.1 + a), .ref (w.2.1 + fp), zi v1, zi (M t 1), zi 1, zi (M5 (fp + 1) v1), zi (M5 (fp + 2) v1), .null, .null, .null, .null, .null, .null] dX0_makeString_62 (n := 64) rfl rfl rfl ?_
        refine q_iload C dX0_makeString_64 (n := 66) rfl rfl ?_
        refine q_istore C [.ref (w.2.1 + a), .ref (w.2.1 + fp), zi v1, zi (M t 1), zi 1, zi (M5 (fp + 1) v1), zi (M5 (fp + 2) v1), zi (M5 (fp + 1) v1), .null, .null, .null, .null, .null] dX0_makeString_66 (n := 68) rfl rfl rfl ?_
        refine q_iconst C dX0_makeString_68 (n := 69) rfl ?_
        refine q_istore C [.ref (w.2.1 + a), .ref (w.2.1 + fp), zi v1, zi (M t 1), zi 1, zi (M5 (fp + 1) v1), zi (M5 (fp + 2) v1), zi (M5 (fp + 1) v1), zi 0, .null, .null, .null, .null] dX0_makeString_69 (n := 71) rfl rfl rfl ?_
        have L_27 : ∀ n28 : Nat, ∀ (u11 : Int) (u12 : Int) (u13 : Int) (M15 : zMm) (J16 : zJm), zI G M15 → zKp G 1 M M15 → zKp G 1 M5 M15 → (-2147483648 ≤ u11 ∧ u11 ≤ 2147483647) → (-2147483648 ≤ u12 ∧ u12 ≤ 2147483647) → (-2147483648 ≤ u13 ∧ u13 ≤ 2147483647) → (1 ≤ u11 ∧ u11 ≤ 29) → (-1 ≤ u12 ∧ u12 ≤ 3439) → (0 ≤ u13 ∧ u13 ≤ 3440) → (M15 t 1 = M t 1) → (3440 - u13 + 1 ≤ (n28 : Int)) → zK w p e 2 0 0 s m args below meth c 13 T Po 71 [.ref (w.2.1 + a), .null, .null, zi (M t 1), zi u11, zi (M5 (fp + 1) v1), zi (M5 (fp + 2) v1), zi u12, zi u13, .null, .null, .null, .null] [] (T, M15, J16, R) := by
          intro n28
          induction n28 with
          | zero =>
            intro u11 u12 u13 M15 J16 hI17 hK18 hK19 h20 h21 h22 h23 h24 h25 h26 hm30
            exfalso
            omega
          | succ n28 ih29 =>
            intro u11 u12 u13 M15 J16 hI17 hK18 hK19 h20 h21 h22 h23 h24 h25 h26 hm30
            refine q_iload C dX0_makeString_71 (n := 73) rfl rfl ?_
            refine q_sipush C dX0_makeString_73 (n := 76) rfl (x := 3440) (by decide) ?_
            have J_31 : zK w p e 2 0 0 s m args below meth c 13 T Po 247 [.ref (w.2.1 + a), .null, .null, zi (M t 1), zi u11, .null, .null, .null, .null, .null, .null, .null, .null] [] (T, M15, J16, R) := by
              refine q_aload_n C dX0_makeString_247 (n := 248) rfl rfl ?_
              refine q_getR C dX0_makeString_248 (n := 251) rfl f_X0_38 h0.1 (hF _ _ _ h0.2.1) ?_
              refine q_getR C dX0_makeString_251 (n := 254) rfl f_X0_220 h0.2.2.1.1 (hF _ _ _ h0.2.2.1.2.1) ?_
              refine q_iload_n C dX0_makeString_254 (n := 255) rfl rfl ?_
              refine q_iload C dX0_makeString_255 (n := 257) rfl rfl ?_
              refine q_iadd C dX0_makeString_257 (n := 258) rfl (v := (M t 1) + u11) rfl ?_
              refine q_bipush C dX0_makeString_258 (n := 260) rfl (x := 34) (by decide) ?_
              refine q_bast C dX0_makeString_260 (n := 261) rfl h0.2.2.1.2.2.1 (by omega) (by omega) (fun M32 e33 => ?_)
              have hI34 : zI G M32 := hI17.put e33 (h0.2.2.1.2.2.2.1 ((M t 1) + u11)) rfl (by omega)
              have hK35 := hK18.put e33 (h0.2.2.1.2.2.2.1 ((M t 1) + u11)) (by decide)
              have hK36 := hK19.put e33 (h0.2.2.1.2.2.2.1 ((M t 1) + u11)) (by decide)
              refine q_aload_n C dX0_makeString_261 (n := 262) rfl rfl ?_
              refine q_getR C dX0_makeString_262 (n := 265) rfl f_X0_38 h0.1 (hF _ _ _ h0.2.1) ?_
              refine q_dup C dX0_makeString_265 (n := 266) rfl rfl ?_
              refine q_getI C dX0_makeString_266 (n := 269) rfl f_X0_193 h0.2.2.1.1 (v := M t 1) ((zup_p e33 (by omega) _).trans (h26)) ?_
              refine q_iload C dX0_makeString_269 (n := 271) rfl rfl ?_
              refine q_iconst C dX0_makeString_271 (n := 272) rfl ?_
              refine q_iadd C dX0_makeString_272 (n := 273) rfl (v := u11 + 1) rfl ?_
              refine q_iadd C dX0_makeString_273 (n := 274) rfl (v := (M t 1) + (u11 + 1)) rfl ?_
              refine q_putI C dX0_makeString_274 (n := 277) rfl f_X0_193 h0.2.2.1.1 ⟨rfl, rfl⟩ (fun M37 (e38 : M37 = zup M32 t 1 ((M t 1) + (u11 + 1))) => ?_)
              have hI39 : zI G M37 := hI34.put e38 h0.2.2.1.2.2.2.2 rfl (by omega)
              have hK40 := hK35.put e38 h0.2.2.1.2.2.2.2 (by decide)
              have hK41 := hK36.put e38 h0.2.2.1.2.2.2.2 (by decide)
              refine q_aload_n C dX0_makeString_277 (n := 278) rfl rfl ?_
              refine q_getR C dX0_makeString_278 (n := 281) rfl f_X0_50 h0.1 htal ?_
              refine q_bipush C dX0_makeString_281 (n := 283) rfl (x := 8) (by decide) ?_
              refine q_dup2 C dX0_makeString_283 (n := 284) rfl ⟨rfl, rfl⟩ ?_
              have g42 := zI.at hI39 (g_tl 8)
              refine q_iald C dX0_makeString_284 (n := 285) rfl t_tl (by omega) (v := M37 tl 8) rfl ?_
              refine q_iconst C dX0_makeString_285 (n := 286) rfl ?_
              refine q_iadd C dX0_makeString_286 (n := 287) rfl (v := (M37 tl 8) + 1) rfl ?_
              refine q_wrap C ?_
              have g43 := zr_wr ((M37 tl 8) + 1)
              refine q_iast C dX0_makeString_287 (n := 288) rfl t_tl (by omega)  (fun M44 e45 => ?_)
              have hI46 : zI G M44 := hI39.put e45 (g_tl 8) rfl (by omega)
              have hK47 := hK40.put e45 (g_tl 8) (by decide)
              have hK48 := hK41.put e45 (g_tl 8) (by decide)
              refine q_iload C dX0_makeString_288 (n := 290) rfl rfl ?_
              refine q_iconst C dX0_makeString_290 (n := 291) rfl ?_
              refine q_iadd C dX0_makeString_291 (n := 292) rfl (v := u11 + 1) rfl ?_
              exact q_iret C dX0_makeString_292 ⟨rfl, rfl⟩ (by rw [hPo]; exact ⟨u11 + 1, M44, J16, rfl, rfl, hI46, hK47, by omega⟩)
            refine q_icmp_ge C 247 dX0_makeString_76 (n := 79) rfl rfl (by omega) (fun h49 => ?_) (fun h49 => ?_)
            · exact zK.weak (J_31) (zwk_c (zwk_n (zwk_n (zwk_c (zwk_c (zwk_n (zwk_n (zwk_n (zwk_n (zwk_n (zwk_n (zwk_n (zwk_n zwk_e)))))))))))))
            · refine q_iload C dX0_makeString_79 (n := 81) rfl rfl ?_
              refine q_iload C dX0_makeString_81 (n := 83) rfl rfl ?_
              refine q_icmp_eq C 247 dX0_makeString_83 (n := 86) rfl rfl (by omega) (fun h50 => ?_) (fun h50 => ?_)
              · exact zK.weak (J_31) (zwk_c (zwk_n (zwk_n (zwk_c (zwk_c (zwk_n (zwk_n (zwk_n (zwk_n (zwk_n (zwk_n (zwk_n (zwk_n zwk_e)))))))))))))
              · refine q_iload C dX0_makeString_86 (n := 88) rfl rfl ?_
                refine q_if_lt C 247 dX0_makeString_88 (n := 91) rfl rfl (by omega) (fun h51 => ?_) (fun h51 => ?_)
                · exact zK.weak (J_31) (zwk_c (zwk_n (zwk_n (zwk_c (zwk_c (zwk_n (zwk_n (zwk_n (zwk_n (zwk_n (zwk_n (zwk_n (zwk_n zwk_e)))))))))))))
                · refine q_aload_n C dX0_makeString_91 (n := 92) rfl rfl ?_
                  refine q_getR C dX0_makeString_92 (n := 95) rfl f_X0_14 h0.1 (hF _ _ _ h0.2.2.2.2.2.2.2.1) ?_
                  refine q_getR C dX0_makeString_95 (n := 98) rfl f_X0_100 h0.2.2.2.2.2.2.2.2.1.1 (hF _ _ _ h0.2.2.2.2.2.2.2.2.1.2.2.2.2.1) ?_
                  refine q_iload C dX0_makeString_98 (n := 100) rfl rfl ?_
                  have g52 := zI.at hI (h0.2.2.2.2.2.2.2.2.1.2.2.2.2.2.2.1 u12)
                  refine q_iald C dX0_makeString_100 (n := 101) rfl h0.2.2.2.2.2.2.2.2.1.2.2.2.2.2.1 (by omega) (v := M (a + 1 + 2) u12) ((hK19 _ _ (zle_t (h0.2.2.2.2.2.2.2.2.1.2.2.2.2.2.2.1 u12) (by decide))).trans (zup_n e6 (zne_t (h0.2.2.2.2.2.2.2.2.1.2.2.2.2.2.2.1 u12) (h0.2.2.1.2.2.2.1 (M t 1)) (by decide)))) ?_
                  refine q_istore C [.ref (w.2.1 + a), .null, .null, zi (M t 1), zi u11, zi (M5 (fp + 1) v1), zi (M5 (fp + 2) v1), zi u12, zi u13, zi (M (a + 1 + 2) u12), .null, .null, .null] dX0_makeString_101 (n := 103) rfl rfl rfl ?_
                  refine q_iload C dX0_makeString_103 (n := 105) rfl rfl ?_
                  refine q_iload C dX0_makeString_105 (n := 107) rfl rfl ?_
                  have J_62 : ∀ (u53 : Int) (M54 : zMm) (J55 : zJm), zI G M54 → zKp G 1 M M54 → zKp G 1 M5 M54 → (-2147483648 ≤ u53 ∧ u53 ≤ 2147483647) → (u11 ≤ u53 ∧ u53 ≤ u11 + 1) → (M54 t 1 = M t 1) → zK w p e 2 0 0 s m args below meth c 13 T Po 136 [.ref (w.2.1 + a), .null, .null, zi (M t 1), zi u53, zi (M5 (fp + 1) v1), zi (M5 (fp + 2) v1), zi u12, zi u13, zi (M (a + 1 + 2) u12), .null, .null, .null] [] (T, M54, J55, R) := by
                    intro u53 M54 J55 hI56 hK57 hK58 h59 h60 h61
                    refine q_iload C dX0_makeString_136 (n := 138) rfl rfl ?_
                    refine q_callSp C dX0_makeString_138 (n := 141) rfl m_X0_121 s_yX5_lengthOf (c_X5_lengthOf (w := w) (J := J55) hI56 hF (M (a + 1 + 2) u12)) (Nat.le_of_ble_eq_true rfl) rfl rfl (Nat.le_of_ble_eq_true rfl) ⟨Nat.le_refl _, Nat.le_refl _⟩ (fun x65 h66 => ?_)
                    obtain ⟨h63, h64⟩ := h66
                    refine q_istore C [.ref (w.2.1 + a), .null, .null, zi (M t 1), zi u53, zi (M5 (fp + 1) v1), zi (M5 (fp + 2) v1), zi u12, zi u13, zi (M (a + 1 + 2) u12), zi x65, .null, .null] dX0_makeString_141 (n := 143) rfl rfl rfl ?_
                    refine q_iload C dX0_makeString_143 (n := 145) rfl rfl ?_
                    refine q_iload C dX0_makeString_145 (n := 147) rfl rfl ?_
                    refine q_iadd C dX0_makeString_147 (n := 148) rfl (v := u53 + x65) rfl ?_
                    refine q_iconst C dX0_makeString_148 (n := 149) rfl ?_
                    refine q_iadd C dX0_makeString_149 (n := 150) rfl (v := (u53 + x65) + 1) rfl ?_
                    refine q_bipush C dX0_makeString_150 (n := 152) rfl (x := 30) (by decide) ?_
                    refine q_icmp_le C 157 dX0_makeString_152 (n := 155) rfl rfl (by omega) (fun h67 => ?_) (fun h67 => ?_)
                    · refine q_iconst C dX0_makeString_157 (n := 158) rfl ?_
                      refine q_istore C [.ref (w.2.1 + a), .null, .null, zi (M t 1), zi u53, zi (M5 (fp + 1) v1), zi (M5 (fp + 2) v1), zi u12, zi u13, zi (M (a + 1 + 2) u12), zi x65, zi 0, .null] dX0_makeString_158 (n := 160) rfl rfl rfl ?_
                      have L_79 : ∀ n80 : Nat, ∀ (u68 : Int) (M70 : zMm) (J71 : zJm), zI G M70 → zKp G 1 M M70 → zKp G 1 M5 M70 → zKp G 1 M54 M70 → (-2147483648 ≤ u68 ∧ u68 ≤ 2147483647) → (0 ≤ u68 ∧ u68 ≤ x65) → (M70 t 1 = M t 1) → (x65 - u68 + 1 ≤ (n80 : Int)) → zK w p e 2 0 0 s m args below meth c 13 T Po 160 [.ref (w.2.1 + a), .null, .null, zi (M t 1), zi u53, zi (M5 (fp + 1) v1), zi (M5 (fp + 2) v1), zi u12, zi u13, .null, zi x65, zi u68, .null] [] (T, M70, J71, R) := by
                        intro n80
                        induction n80 with
                        | zero =>
                          intro u68 M70 J71 hI72 hK73 hK74 hK75 h76 h77 h78 hm82
                          exfalso
                          omega
                        | succ n80 ih81 =>
                          intro u68 M70 J71 hI72 hK73 hK74 hK75 h76 h77 h78 hm82
                          refine q_iload C dX0_makeString_160 (n := 162) rfl rfl ?_
                          refine q_iload C dX0_makeString_162 (n := 164) rfl rfl ?_
                          refine q_icmp_ge C 225 dX0_makeString_164 (n := 167) rfl rfl (by omega) (fun h83 => ?_) (fun h83 => ?_)
                          · refine q_iload C dX0_makeString_225 (n := 227) rfl rfl ?_
                            refine q_iload C dX0_makeString_227 (n := 229) rfl rfl ?_
                            refine q_iadd C dX0_makeString_229 (n := 230) rfl (v := u53 + x65) rfl ?_
                            refine q_istore C [.ref (w.2.1 + a), .null, .null, zi (M t 1), zi (u53 + x65), zi (M5 (fp + 1) v1), zi (M5 (fp + 2) v1), zi u12, zi u13, .null, zi x65, zi u68, .null] dX0_makeString_230 (n := 232) rfl rfl rfl ?_
                            refine q_aload_n C dX0_makeString_232 (n := 233) rfl rfl ?_
                            refine q_getR C dX0_makeString_233 (n := 236) rfl f_X0_20 h0.1 (hF _ _ _ h0.2.2.2.2.2.2.2.2.2.1) ?_
                            refine q_iload C dX0_makeString_236 (n := 238) rfl rfl ?_
                            have g84 := zI.at hI72 (h0.2.2.2.2.2.2.2.2.2.2.2.1 u12)
                            refine q_iald C dX0_makeString_238 (n := 239) rfl h0.2.2.2.2.2.2.2.2.2.2.1 (by omega) (v := M70 (a + 5) u12) rfl ?_
                            refine q_istore C [.ref (w.2.1 + a), .null, .null, zi (M t 1), zi (u53 + x65), zi (M5 (fp + 1) v1), zi (M5 (fp + 2) v1), zi (M70 (a + 5) u12), zi u13, .null, zi x65, zi u68, .null] dX0_makeString_239 (n := 241) rfl rfl rfl ?_
                            refine q_iinc C [.ref (w.2.1 + a), .null, .null, zi (M t 1), zi (u53 + x65), zi (M5 (fp + 1) v1), zi (M5 (fp + 2) v1), zi (M70 (a + 5) u12), zi (u13 + 1), .null, zi x65, zi u68, .null] dX0_makeString_241 (n := 244) rfl rfl rfl rfl ?_
                            refine q_goto C 71 dX0_makeString_244 rfl ?_
                            exact zK.weak (ih29 (u53 + x65) (M70 (a + 5) u12) (u13 + 1) M70 J71 hI72 hK73 hK74 (by omega) (by omega) (by omega) (by omega) (by omega) (by omega) (by have hz85 : M70 t 1 = M t 1 := (h78); omega) (by omega)) (zwk_c (zwk_n (zwk_n (zwk_c (zwk_c (zwk_c (zwk_c (zwk_c (zwk_c (zwk_n (zwk_n (zwk_n (zwk_n zwk_e)))))))))))))
                          · refine q_aload_n C dX0_makeString_167 (n := 168) rfl rfl ?_
                            refine q_getR C dX0_makeString_168 (n := 171) rfl f_X0_38 h0.1 (hF _ _ _ h0.2.1) ?_
                            refine q_getR C dX0_makeString_171 (n := 174) rfl f_X0_220 h0.2.2.1.1 (hF _ _ _ h0.2.2.1.2.1) ?_
                            refine q_aload_n C dX0_makeString_174 (n := 175) rfl rfl ?_
                            refine q_getR C dX0_makeString_175 (n := 178) rfl f_X0_14 h0.1 (hF _ _ _ h0.2.2.2.2.2.2.2.1) ?_
                            refine q_getR C dX0_makeString_178 (n := 181) rfl f_X0_97 h0.2.2.2.2.2.2.2.2.1.1 (hF _ _ _ h0.2.2.2.2.2.2.2.2.1.2.1) ?_
                            refine q_iload C dX0_makeString_181 (n := 183) rfl rfl ?_
                            have g86 := zI.at hI (h0.2.2.2.2.2.2.2.2.1.2.2.2.1 u12)
                            have g87 : M (a + 1 + 1) u12 + zand (M (a + 1 + 2) u12) 31 ≤ (L : Int) ∧ zand (M (a + 1 + 2) u12) 31 ≤ 30 := zI.row hI (h0.2.2.2.2.2.2.2.2.1.2.2.2.1 u12)
                            refine q_iald C dX0_makeString_183 (n := 184) rfl h0.2.2.2.2.2.2.2.2.1.2.2.1 (by omega) (v := M (a + 1 + 1) u12) ((hK75 _ _ (zle_t (h0.2.2.2.2.2.2.2.2.1.2.2.2.1 u12) (by decide))).trans ((hK58 _ _ (zle_t (h0.2.2.2.2.2.2.2.2.1.2.2.2.1 u12) (by decide))).trans (zup_n e6 (zne_t (h0.2.2.2.2.2.2.2.2.1.2.2.2.1 u12) (h0.2.2.1.2.2.2.1 (M t 1)) (by decide))))) ?_
                            refine q_iload C dX0_makeString_184 (n := 186) rfl rfl ?_
                            refine q_iadd C dX0_makeString_186 (n := 187) rfl (v := (M (a + 1 + 1) u12) + u68) rfl ?_
                            have g88 := zI.at hI72 (h0.2.2.1.2.2.2.1 ((M (a + 1 + 1) u12) + u68))
                            refine q_bald C dX0_makeString_187 (n := 188) rfl h0.2.2.1.2.2.1 (by omega) (v := M70 (t + 1) ((M (a + 1 + 1) u12) + u68)) rfl ?_
                            refine q_istore C [.ref (w.2.1 + a), .null, .null, zi (M t 1), zi u53, zi (M5 (fp + 1) v1), zi (M5 (fp + 2) v1), zi u12, zi u13, .null, zi x65, zi u68, zi (M70 (t + 1) ((M (a + 1 + 1) u12) + u68))] dX0_makeString_188 (n := 190) rfl rfl rfl ?_
                            refine q_aload_n C dX0_makeString_190 (n := 191) rfl rfl ?_
                            refine q_getR C dX0_makeString_191 (n := 194) rfl f_X0_38 h0.1 (hF _ _ _ h0.2.1) ?_
                            refine q_getR C dX0_makeString_194 (n := 197) rfl f_X0_220 h0.2.2.1.1 (hF _ _ _ h0.2.2.1.2.1) ?_
                            refine q_iload_n C dX0_makeString_197 (n := 198) rfl rfl ?_
                            refine q_iload C dX0_makeString_198 (n := 200) rfl rfl ?_
                            refine q_iadd C dX0_makeString_200 (n := 201) rfl (v := (M t 1) + u53) rfl ?_
                            refine q_iload C dX0_makeString_201 (n := 203) rfl rfl ?_
                            refine q_iadd C dX0_makeString_203 (n := 204) rfl (v := ((M t 1) + u53) + u68) rfl ?_
                            refine q_iload C dX0_makeString_204 (n := 206) rfl rfl ?_
                            refine q_bipush C dX0_makeString_206 (n := 208) rfl (x := 34) (by decide) ?_
                            have J_92 : ∀ (u89 : Int), (-2147483648 ≤ u89 ∧ u89 ≤ 2147483647) → (-128 ≤ u89 ∧ u89 ≤ 127) → zK w p e 2 0 0 s m args below meth c 13 T Po 218 [.ref (w.2.1 + a), .null, .null, zi (M t 1), zi u53, zi (M5 (fp + 1) v1), zi (M5 (fp + 2) v1), zi u12, zi u13, .null, zi x65, zi u68, .null] [zi u89, zi (((M t 1) + u53) + u68), .ref (w.2.1 + (t + 1))] (T, M70, J71, R) := by
                              intro u89 h90 h91
                              refine q_bast C dX0_makeString_218 (n := 219) rfl h0.2.2.1.2.2.1 (by omega) (by omega) (fun M93 e94 => ?_)
                              have hI95 : zI G M93 := hI72.put e94 (h0.2.2.1.2.2.2.1 (((M t 1) + u53) + u68)) rfl (by omega)
                              have hK96 := hK73.put e94 (h0.2.2.1.2.2.2.1 (((M t 1) + u53) + u68)) (by decide)
                              have hK97 := hK74.put e94 (h0.2.2.1.2.2.2.1 (((M t 1) + u53) + u68)) (by decide)
                              have hK98 := hK75.put e94 (h0.2.2.1.2.2.2.1 (((M t 1) + u53) + u68)) (by decide)
                              refine q_iinc C [.ref (w.2.1 + a), .null, .null, zi (M t 1), zi u53, zi (M5 (fp + 1) v1), zi (M5 (fp + 2) v1), zi u12, zi u13, .null, zi x65, zi (u68 + 1), .null] dX0_makeString_219 (n := 222) rfl rfl rfl rfl ?_
                              refine q_goto C 160 dX0_makeString_222 rfl ?_
                              exact zK.weak (ih81 (u68 + 1) M93 J71 hI95 hK96 hK97 hK98 (by omega) (by omega) (by have hz99 : M93 t 1 = M t 1 := ((zup_p e94 (by omega) _).trans (h78)); omega) (by omega)) (zwk_c (zwk_n (zwk_n (zwk_c (zwk_c (zwk_c (zwk_c (zwk_c (zwk_c (zwk_n (zwk_c (zwk_c (zwk_n zwk_e)))))))))))))
                            refine q_icmp_ne C 216 dX0_makeString_208 (n := 211) rfl rfl (by omega) (fun h100 => ?_) (fun h100 => ?_)
                            · refine q_iload C dX0_makeString_216 (n := 218) rfl rfl ?_
                              exact zK.weak (J_92 (M70 (t + 1) ((M (a + 1 + 1) u12) + u68)) (by omega) (by omega)) (zwk_c (zwk_n (zwk_n (zwk_c (zwk_c (zwk_c (zwk_c (zwk_c (zwk_c (zwk_n (zwk_c (zwk_c (zwk_n zwk_e)))))))))))))
                            · refine q_bipush C dX0_makeString_211 (n := 213) rfl (x := 39) (by decide) ?_
                              refine q_goto C 218 dX0_makeString_213 rfl ?_
                              exact zK.weak (J_92 39 (by omega) (by omega)) (zwk_c (zwk_n (zwk_n (zwk_c (zwk_c (zwk_c (zwk_c (zwk_c (zwk_c (zwk_n (zwk_c (zwk_c (zwk_n zwk_e)))))))))))))
                      exact zK.weak (L_79 _ 0 M54 J55 hI56 hK57 hK58 (zKp.rf (G := G) (n := 1) (M := M54)) (by omega) (by omega) (by have hz101 : M54 t 1 = M t 1 := (h61); omega) (Int.self_le_toNat _)) (zwk_c (zwk_n (zwk_n (zwk_c (zwk_c (zwk_c (zwk_c (zwk_c (zwk_c (zwk_n (zwk_c (zwk_c (zwk_n zwk_e)))))))))))))
                    · refine q_iconst C dX0_makeString_155 (n := 156) rfl ?_
                      exact q_iret C dX0_makeString_156 ⟨rfl, rfl⟩ (by rw [hPo]; exact ⟨(-1), M54, J55, rfl, rfl, hI56, hK57, by omega⟩)
                  refine q_icmp_eq C 136 dX0_makeString_107 (n := 110) rfl rfl (by omega) (fun h102 => ?_) (fun h102 => ?_)
                  · exact zK.weak (J_62 u11 M15 J16 hI17 hK18 hK19 (by omega) (by omega) (by have hz103 : M15 t 1 = M t 1 := (h26); omega)) (zwk_c (zwk_n (zwk_n (zwk_c (zwk_c (zwk_c (zwk_c (zwk_c (zwk_c (zwk_c (zwk_n (zwk_n (zwk_n zwk_e)))))))))))))
                  · refine q_iload C dX0_makeString_110 (n := 112) rfl rfl ?_
                    refine q_callSp C dX0_makeString_112 (n := 115) rfl m_X0_239 s_yX5_blankOf (c_X5_blankOf (w := w) (J := J16) hI17 hF (M (a + 1 + 2) u12)) (Nat.le_of_ble_eq_true rfl) rfl rfl (Nat.le_of_ble_eq_true rfl) ⟨Nat.le_refl _, Nat.le_refl _⟩ (fun x105 h106 => ?_)
                    refine q_iconst C dX0_makeString_115 (n := 116) rfl ?_
                    refine q_icmp_ne C 136 dX0_makeString_116 (n := 119) rfl rfl (by omega) (fun h107 => ?_) (fun h107 => ?_)
                    · exact zK.weak (J_62 u11 M15 J16 hI17 hK18 hK19 (by omega) (by omega) (by have hz108 : M15 t 1 = M t 1 := (h26); omega)) (zwk_c (zwk_n (zwk_n (zwk_c (zwk_c (zwk_c (zwk_c (zwk_c (zwk_c (zwk_c (zwk_n (zwk_n (zwk_n zwk_e)))))))))))))
                    · refine q_aload_n C dX0_makeString_119 (n := 120) rfl rfl ?_
                      refine q_getR C dX0_makeString_120 (n := 123) rfl f_X0_38 h0.1 (hF _ _ _ h0.2.1) ?_
                      refine q_getR C dX0_makeString_123 (n := 126) rfl f_X0_220 h0.2.2.1.1 (hF _ _ _ h0.2.2.1.2.1) ?_
                      refine q_iload_n C dX0_makeString_126 (n := 127) rfl rfl ?_
                      refine q_iload C dX0_makeString_127 (n := 129) rfl rfl ?_
                      refine q_iadd C dX0_makeString_129 (n := 130) rfl (v := (M t 1) + u11) rfl ?_
                      refine q_bipush C dX0_makeString_130 (n := 132) rfl (x := 32) (by decide) ?_
                      refine q_bast C dX0_makeString_132 (n := 133) rfl h0.2.2.1.2.2.1 (by omega) (by omega) (fun M109 e110 => ?_)
                      have hI111 : zI G M109 := hI17.put e110 (h0.2.2.1.2.2.2.1 ((M t 1) + u11)) rfl (by omega)
                      have hK112 := hK18.put e110 (h0.2.2.1.2.2.2.1 ((M t 1) + u11)) (by decide)
                      have hK113 := hK19.put e110 (h0.2.2.1.2.2.2.1 ((M t 1) + u11)) (by decide)
                      refine q_iinc C [.ref (w.2.1 + a), .null, .null, zi (M t 1), zi (u11 + 1), zi (M5 (fp + 1) v1), zi (M5 (fp + 2) v1), zi u12, zi u13, zi (M (a + 1 + 2) u12), .null, .null, .null] dX0_makeString_133 (n := 136) rfl rfl rfl rfl ?_
                      exact zK.weak (J_62 (u11 + 1) M109 J16 hI111 hK112 hK113 (by omega) (by omega) (by have hz114 : M109 t 1 = M t 1 := ((zup_p e110 (by omega) _).trans (h26)); omega)) (zwk_c (zwk_n (zwk_n (zwk_c (zwk_c (zwk_c (zwk_c (zwk_c (zwk_c (zwk_c (zwk_n (zwk_n (zwk_n zwk_e)))))))))))))
        exact zK.weak (L_27 _ 1 (M5 (fp + 1) v1) 0 M5 J hI7 hK8 (zKp.rf (G := G) (n := 1) (M := M5)) (by omega) (by omega) (by omega) (by omega) (by omega) (by omega) (by have hz115 : M5 t 1 = M t 1 := (zup_p e6 (by omega) _); omega) (Int.self_le_toNat _)) (zwk_c (zwk_n (zwk_n (zwk_c (zwk_c (zwk_c (zwk_c (zwk_c (zwk_c (zwk_n (zwk_n (zwk_n (zwk_n zwk_e)))))))))))))
      · refine q_iconst C dX0_makeString_32 (n := 33) rfl ?_
        exact q_iret C dX0_makeString_33 ⟨rfl, rfl⟩ (by rw [hPo]; exact ⟨(-1), M, J, rfl, rfl, hI, hK0, by omega⟩)
theorem c_X0_paste {w : zWp} {T : zTl} {M : zMm} {J : zJm} {R : zRm'} {G : zGt} {F : zRm'} {a t mc q L fp : Nat} (hI : zI G M) (hF : zF F R) (h0 : zExpander T F G a t mc q L) (h_frame : zFrame T F G fp L) (v1 : Int) (v2 : Int) (v3 : Int) (p1 : L ≤ 1000000) (p2 : 0 ≤ v1 ∧ v1 + zand v2 31 ≤ L ∧ zand v2 31 ≤ 30) (p3 : -2147483648 ≤ v2 ∧ v2 ≤ 2147483647) (p4 : -2147483648 ≤ v3 ∧ v3 ≤ 2147483647) : zCt w 3 0 0 yX0_paste cX0_paste 10 none [.ref (w.2.1 + a), .ref (w.2.1 + fp), zi v1, zi v2, zi v3] (T, M, J, R) (zPv T R G (fun M2 => (zKp G 4 M M2))) := by
  refine zCt.of rfl (Nat.le_of_ble_eq_true rfl) ?_
  intro p e s m args below meth c C
  obtain ⟨Po, hPo⟩ : ∃ Po, Po = zPv T R G (fun M2 => (zKp G 4 M M2)) := ⟨_, rfl⟩
  rw [← hPo]
  have hK0 : zKp G 4 M M := zKp.rf
  show zK w p e 3 0 0 s m args below meth c 10 T Po 0 [.ref (w.2.1 + a), .ref (w.2.1 + fp), zi v1, zi v2, zi v3, .null, .null, .null, .null, .null] [] (T, M, J, R)
  refine q_aload_n C dX0_paste_0 (n := 1) rfl rfl ?_
  refine q_getR C dX0_paste_1 (n := 4) rfl f_X0_211 h_frame.1 (hF _ _ _ h_frame.2.2.2.2.2.2.2.2.2.2.2.2.2.2.2.2.1) ?_
  refine q_astore C [.ref (w.2.1 + a), .ref (w.2.1 + fp), zi v1, zi v2, zi v3, .ref (w.2.1 + (fp + 3)), .null, .null, .null, .null] dX0_paste_4 (n := 6) rfl rfl rfl ?_
  refine q_aload C dX0_paste_6 (n := 8) rfl rfl ?_
  have g1 := zI.at hI h_frame.2.2.2.2.2.2.2.2.2.2.2.2.2.2.2.2.2.1.2.2.2.2.2.2.2.2.2.2
  refine q_getI C dX0_paste_8 (n := 11) rfl f_X0_60 h_frame.2.2.2.2.2.2.2.2.2.2.2.2.2.2.2.2.2.1.1 (v := M (fp + 3) 3) rfl ?_
  refine q_iconst C dX0_paste_11 (n := 12) rfl ?_
  refine q_isub C dX0_paste_12 (n := 13) rfl (v := (M (fp + 3) 3) - 1) rfl ?_
  refine q_istore C [.ref (w.2.1 + a), .ref (w.2.1 + fp), zi v1, zi v2, zi v3, .ref (w.2.1 + (fp + 3)), zi ((M (fp + 3) 3) - 1), .null, .null, .null] dX0_paste_13 (n := 15) rfl rfl rfl ?_
  refine q_aload_n C dX0_paste_15 (n := 16) rfl rfl ?_
  refine q_iconst C dX0_paste_16 (n := 17) rfl ?_
  refine q_putZ C dX0_paste_17 (n := 20) rfl f_X0_106 h_frame.1 ⟨rfl, rfl⟩ (by omega) (fun M2 (e3 : M2 = zup M fp 13 0) => ?_)
  have hI4 : zI G M2 := hI.put e3 h_frame.2.2.2.2.2.2.2.2.2.2.2.2.2.2.2.2.2.2.2.1 rfl (by omega)
  have hK5 := hK0.put e3 h_frame.2.2.2.2.2.2.2.2.2.2.2.2.2.2.2.2.2.2.2.1 (by decide)
  refine q_aload_n C dX0_paste_20 (n := 21) rfl rfl ?_
  refine q_iconst C dX0_paste_21 (n := 22) rfl ?_
  refine q_putZ C dX0_paste_22 (n := 25) rfl f_X0_214 h_frame.1 ⟨rfl, rfl⟩ (by omega) (fun M6 (e7 : M6 = zup M2 fp 14 0) => ?_)
  have hI8 : zI G M6 := hI4.put e7 h_frame.2.2.2.2.2.2.2.2.2.2.2.2.2.2.2.2.2.2.2.2.1 rfl (by omega)
  have hK9 := hK5.put e7 h_frame.2.2.2.2.2.2.2.2.2.2.2.2.2.2.2.2.2.2.2.2.1 (by decide)
  refine q_iload C dX0_paste_25 (n := 27) rfl rfl ?_
  refine q_if_lt C 37 dX0_paste_27 (n := 30) rfl rfl (by omega) (fun h10 => ?_) (fun h10 => ?_)
  · exact q_vret C dX0_paste_37 ⟨rfl, rfl⟩ (by rw [hPo]; exact ⟨M6, J, rfl, rfl, hI8, hK9⟩)
  · refine q_aload_n C dX0_paste_30 (n := 31) rfl rfl ?_
    have g11 := zI.at hI h_frame.2.2.2.2.2.2.2.2.2.2.2.2.2.2.2.2.2.2.2.2.2.2.1
    refine q_getI C dX0_paste_31 (n := 34) rfl f_X0_217 h_frame.1 (v := M fp 16) ((zup_n e7 (by omega)).trans (zup_n e3 (by omega))) ?_
    refine q_if_eq C 38 dX0_paste_34 (n := 37) rfl rfl (by omega) (fun h12 => ?_) (fun h12 => ?_)
    · refine q_aload C dX0_paste_38 (n := 40) rfl rfl ?_
      refine q_getR C dX0_paste_40 (n := 43) rfl f_X0_100 h_frame.2.2.2.2.2.2.2.2.2.2.2.2.2.2.2.2.2.1.1 (hF _ _ _ h_frame.2.2.2.2.2.2.2.2.2.2.2.2.2.2.2.2.2.1.2.2.2.2.1) ?_
      refine q_iload C dX0_paste_43 (n := 45) rfl rfl ?_
      have g13 := zI.at hI (h_frame.2.2.2.2.2.2.2.2.2.2.2.2.2.2.2.2.2.1.2.2.2.2.2.2.1 ((M (fp + 3) 3) - 1))
      refine q_iald C dX0_paste_45 (n := 46) rfl h_frame.2.2.2.2.2.2.2.2.2.2.2.2.2.2.2.2.2.1.2.2.2.2.2.1 (by omega) (v := M (fp + 3 + 2) ((M (fp + 3) 3) - 1)) ((zup_p e7 (by omega) _).trans (zup_p e3 (by omega) _)) ?_
      refine q_callSp C dX0_paste_46 (n := 49) rfl m_X0_121 s_yX5_lengthOf (c_X5_lengthOf (w := w) (J := J) hI8 hF (M (fp + 3 + 2) ((M (fp + 3) 3) - 1))) (Nat.le_of_ble_eq_true rfl) rfl rfl (Nat.le_of_ble_eq_true rfl) ⟨Nat.le_refl _, Nat.le_refl _⟩ (fun x16 h17 => ?_)
      obtain ⟨h14, h15⟩ := h17
      refine q_istore C [.ref (w.2.1 + a), .ref (w.2.1 + fp), zi v1, zi v2, zi v3, .ref (w.2.1 + (fp + 3)), zi ((M (fp + 3) 3) - 1), zi x16, .null, .null] dX0_paste_49 (n := 51) rfl rfl rfl ?_
      refine q_iload C dX0_paste_51 (n := 53) rfl rfl ?_
      refine q_iload_n C dX0_paste_53 (n := 54) rfl rfl ?_
      refine q_callSp C dX0_paste_54 (n := 57) rfl m_X0_121 s_yX5_lengthOf (c_X5_lengthOf (w := w) (J := J) hI8 hF v2) (Nat.le_of_ble_eq_true rfl) rfl rfl (Nat.le_of_ble_eq_true rfl) ⟨Nat.le_refl _, Nat.le_refl _⟩ (fun x20 h21 => ?_)
      obtain ⟨h18, h19⟩ := h21
      refine q_iadd C dX0_paste_57 (n := 58) rfl (v := x16 + x20) rfl ?_
      refine q_istore C [.ref (w.2.1 + a), .ref (w.2.1 + fp), zi v1, zi v2, zi v3, .ref (w.2.1 + (fp + 3)), zi ((M (fp + 3) 3) - 1), zi x16, zi (x16 + x20), .null] dX0_paste_58 (n := 60) rfl rfl rfl ?_
      refine q_aload_n C dX0_paste_60 (n := 61) rfl rfl ?_
      refine q_getR C dX0_paste_61 (n := 64) rfl f_X0_38 h0.1 (hF _ _ _ h0.2.1) ?_
      have g22 := zI.at hI8 h0.2.2.1.2.2.2.2
      refine q_getI C dX0_paste_64 (n := 67) rfl f_X0_193 h0.2.2.1.1 (v := M6 t 1) rfl ?_
      refine q_istore C [.ref (w.2.1 + a), .ref (w.2.1 + fp), zi v1, zi v2, zi v3, .ref (w.2.1 + (fp + 3)), zi ((M (fp + 3) 3) - 1), zi x16, zi (x16 + x20), zi (M6 t 1)] dX0_paste_67 (n := 69) rfl rfl rfl ?_
      refine q_iload C dX0_paste_69 (n := 71) rfl rfl ?_
      refine q_bipush C dX0_paste_71 (n := 73) rfl (x := 30) (by decide) ?_
      refine q_icmp_gt C 92 dX0_paste_73 (n := 76) rfl rfl (by omega) (fun h23 => ?_) (fun h23 => ?_)
      · refine q_aload_n C dX0_paste_92 (n := 93) rfl rfl ?_
        refine q_iconst C dX0_paste_93 (n := 94) rfl ?_
        refine q_putZ C dX0_paste_94 (n := 97) rfl f_X0_217 h_frame.1 ⟨rfl, rfl⟩ (by omega) (fun M24 (e25 : M24 = zup M6 fp 16 1) => ?_)
        have hI26 : zI G M24 := hI8.put e25 h_frame.2.2.2.2.2.2.2.2.2.2.2.2.2.2.2.2.2.2.2.2.2.2.1 rfl (by omega)
        have hK27 := hK9.put e25 h_frame.2.2.2.2.2.2.2.2.2.2.2.2.2.2.2.2.2.2.2.2.2.2.1 (by decide)
        exact q_vret C dX0_paste_97 ⟨rfl, rfl⟩ (by rw [hPo]; exact ⟨M24, J, rfl, rfl, hI26, hK27⟩)
      · refine q_iload C dX0_paste_76 (n := 78) rfl rfl ?_
        refine q_iload C dX0_paste_78 (n := 80) rfl rfl ?_
        refine q_iadd C dX0_paste_80 (n := 81) rfl (v := (M6 t 1) + (x16 + x20)) rfl ?_
        refine q_aload_n C dX0_paste_81 (n := 82) rfl rfl ?_
        refine q_getR C dX0_paste_82 (n := 85) rfl f_X0_38 h0.1 (hF _ _ _ h0.2.1) ?_
        refine q_getR C dX0_paste_85 (n := 88) rfl f_X0_220 h0.2.2.1.1 (hF _ _ _ h0.2.2.1.2.1) ?_
        refine q_alen C dX0_paste_88 (n := 89) rfl ⟨by decide, by decide⟩ h0.2.2.1.2.2.1 ?_
        refine q_icmp_le C 98 dX0_paste_89 (n := 92) rfl rfl (by omega) (fun h28 => ?_) (fun h28 => ?_)
        · refine q_aload_n C dX0_paste_98 (n := 99) rfl rfl ?_
          refine q_getR C dX0_paste_99 (n := 102) rfl f_X0_38 h0.1 (hF _ _ _ h0.2.1) ?_
          refine q_getR C dX0_paste_102 (n := 105) rfl f_X0_220 h0.2.2.1.1 (hF _ _ _ h0.2.2.1.2.1) ?_
          refine q_aload C dX0_paste_105 (n := 107) rfl rfl ?_
          refine q_getR C dX0_paste_107 (n := 110) rfl f_X0_97 h_frame.2.2.2.2.2.2.2.2.2.2.2.2.2.2.2.2.2.1.1 (hF _ _ _ h_frame.2.2.2.2.2.2.2.2.2.2.2.2.2.2.2.2.2.1.2.1) ?_
          refine q_iload C dX0_paste_110 (n := 112) rfl rfl ?_
          have g29 := zI.at hI (h_frame.2.2.2.2.2.2.2.2.2.2.2.2.2.2.2.2.2.1.2.2.2.1 ((M (fp + 3) 3) - 1))
          have g30 : M (fp + 3 + 1) ((M (fp + 3) 3) - 1) + zand (M (fp + 3 + 2) ((M (fp + 3) 3) - 1)) 31 ≤ (L : Int) ∧ zand (M (fp + 3 + 2) ((M (fp + 3) 3) - 1)) 31 ≤ 30 := zI.row hI (h_frame.2.2.2.2.2.2.2.2.2.2.2.2.2.2.2.2.2.1.2.2.2.1 ((M (fp + 3) 3) - 1))
          refine q_iald C dX0_paste_112 (n := 113) rfl h_frame.2.2.2.2.2.2.2.2.2.2.2.2.2.2.2.2.2.1.2.2.1 (by omega) (v := M (fp + 3 + 1) ((M (fp + 3) 3) - 1)) ((zup_p e7 (by omega) _).trans (zup_p e3 (by omega) _)) ?_
          refine q_aload_n C dX0_paste_113 (n := 114) rfl rfl ?_
          refine q_getR C dX0_paste_114 (n := 117) rfl f_X0_38 h0.1 (hF _ _ _ h0.2.1) ?_
          refine q_getR C dX0_paste_117 (n := 120) rfl f_X0_220 h0.2.2.1.1 (hF _ _ _ h0.2.2.1.2.1) ?_
          refine q_iload C dX0_paste_120 (n := 122) rfl rfl ?_
          refine q_iload C dX0_paste_122 (n := 124) rfl rfl ?_
          refine q_copyB C dX0_paste_124 (n := 127) rfl x_X0_224 h0.2.2.1.2.2.1 h0.2.2.1.2.2.1 (by omega) (fun j => by have := zI.at hI8 (h0.2.2.1.2.2.2.1 j); omega) (Nat.le_of_ble_eq_true rfl) (Nat.le_of_ble_eq_true rfl) (fun M31 e32 => ?_)
          have hI33 : zI G M31 := hI8.cp e32 h0.2.2.1.2.2.2.1 h0.2.2.1.2.2.2.1 rfl (by omega)
          have hK34 := hK9.cp e32 h0.2.2.1.2.2.2.1 (by decide)
          refine q_aload_n C dX0_paste_127 (n := 128) rfl rfl ?_
          refine q_getR C dX0_paste_128 (n := 131) rfl f_X0_38 h0.1 (hF _ _ _ h0.2.1) ?_
          refine q_getR C dX0_paste_131 (n := 134) rfl f_X0_220 h0.2.2.1.1 (hF _ _ _ h0.2.2.1.2.1) ?_
          refine q_iload_n C dX0_paste_134 (n := 135) rfl rfl ?_
          refine q_aload_n C dX0_paste_135 (n := 136) rfl rfl ?_
          refine q_getR C dX0_paste_136 (n := 139) rfl f_X0_38 h0.1 (hF _ _ _ h0.2.1) ?_
          refine q_getR C dX0_paste_139 (n := 142) rfl f_X0_220 h0.2.2.1.1 (hF _ _ _ h0.2.2.1.2.1) ?_
          refine q_iload C dX0_paste_142 (n := 144) rfl rfl ?_
          refine q_iload C dX0_paste_144 (n := 146) rfl rfl ?_
          refine q_iadd C dX0_paste_146 (n := 147) rfl (v := (M6 t 1) + x16) rfl ?_
          refine q_iload C dX0_paste_147 (n := 149) rfl rfl ?_
          refine q_iload C dX0_paste_149 (n := 151) rfl rfl ?_
          refine q_isub C dX0_paste_151 (n := 152) rfl (v := (x16 + x20) - x16) rfl ?_
          refine q_copyB C dX0_paste_152 (n := 155) rfl x_X0_224 h0.2.2.1.2.2.1 h0.2.2.1.2.2.1 (by omega) (fun j => by have := zI.at hI33 (h0.2.2.1.2.2.2.1 j); omega) (Nat.le_of_ble_eq_true rfl) (Nat.le_of_ble_eq_true rfl) (fun M35 e36 => ?_)
          have hI37 : zI G M35 := hI33.cp e36 h0.2.2.1.2.2.2.1 h0.2.2.1.2.2.2.1 rfl (by omega)
          have hK38 := hK34.cp e36 h0.2.2.1.2.2.2.1 (by decide)
          refine q_aload_n C dX0_paste_155 (n := 156) rfl rfl ?_
          refine q_getR C dX0_paste_156 (n := 159) rfl f_X0_38 h0.1 (hF _ _ _ h0.2.1) ?_
          refine q_iload C dX0_paste_159 (n := 161) rfl rfl ?_
          refine q_iload C dX0_paste_161 (n := 163) rfl rfl ?_
          refine q_iload C dX0_paste_163 (n := 165) rfl rfl ?_
          refine q_iadd C dX0_paste_165 (n := 166) rfl (v := (M6 t 1) + (x16 + x20)) rfl ?_
          refine q_callVp C dX0_paste_166 (n := 169) rfl m_X0_230 v_yX10_endOf h0.2.2.1.1 ⟨by decide, rfl⟩ (c_X10_endOf (w := w) (J := J) hI37 hF h0.2.2.1 (M6 t 1) ((M6 t 1) + (x16 + x20)) (by omega) (by omega) (by omega)) (Nat.le_of_ble_eq_true rfl) rfl rfl (Nat.le_of_ble_eq_true rfl) ⟨Nat.le_refl _, Nat.le_refl _⟩ (fun x40 h41 => ?_)
          refine q_iload C dX0_paste_169 (n := 171) rfl rfl ?_
          refine q_iload C dX0_paste_171 (n := 173) rfl rfl ?_
          refine q_iadd C dX0_paste_173 (n := 174) rfl (v := (M6 t 1) + (x16 + x20)) rfl ?_
          refine q_icmp_eq C 183 dX0_paste_174 (n := 177) rfl rfl (by omega) (fun h42 => ?_) (fun h42 => ?_)
          · refine q_aload_n C dX0_paste_183 (n := 184) rfl rfl ?_
            refine q_getR C dX0_paste_184 (n := 187) rfl f_X0_38 h0.1 (hF _ _ _ h0.2.1) ?_
            refine q_dup C dX0_paste_187 (n := 188) rfl rfl ?_
            refine q_getI C dX0_paste_188 (n := 191) rfl f_X0_193 h0.2.2.1.1 (v := M6 t 1) ((zcp_p e36 (by omega) _).trans (zcp_p e32 (by omega) _)) ?_
            refine q_iload C dX0_paste_191 (n := 193) rfl rfl ?_
            refine q_iadd C dX0_paste_193 (n := 194) rfl (v := (M6 t 1) + (x16 + x20)) rfl ?_
            refine q_putI C dX0_paste_194 (n := 197) rfl f_X0_193 h0.2.2.1.1 ⟨rfl, rfl⟩ (fun M43 (e44 : M43 = zup M35 t 1 ((M6 t 1) + (x16 + x20))) => ?_)
            have hI45 : zI G M43 := hI37.put e44 h0.2.2.1.2.2.2.2 rfl (by omega)
            have hK46 := hK38.put e44 h0.2.2.1.2.2.2.2 (by decide)
            refine q_aload C dX0_paste_197 (n := 199) rfl rfl ?_
            refine q_getR C dX0_paste_199 (n := 202) rfl f_X0_97 h_frame.2.2.2.2.2.2.2.2.2.2.2.2.2.2.2.2.2.1.1 (hF _ _ _ h_frame.2.2.2.2.2.2.2.2.2.2.2.2.2.2.2.2.2.1.2.1) ?_
            refine q_iload C dX0_paste_202 (n := 204) rfl rfl ?_
            refine q_iload C dX0_paste_204 (n := 206) rfl rfl ?_
            refine q_iast C dX0_paste_206 (n := 207) rfl h_frame.2.2.2.2.2.2.2.2.2.2.2.2.2.2.2.2.2.1.2.2.1 (by omega)  (fun M47 e48 => ?_)
            have hI49 : zI G M47 := zI.putA hI45 e48 (h_frame.2.2.2.2.2.2.2.2.2.2.2.2.2.2.2.2.2.1.2.2.2.1 ((M (fp + 3) 3) - 1)) (by have hz : M43 (fp + 3 + 1 + 1) ((M (fp + 3) 3) - 1) = M (fp + 3 + 2) ((M (fp + 3) 3) - 1) := ((zup_n e44 (zne_t (h_frame.2.2.2.2.2.2.2.2.2.2.2.2.2.2.2.2.2.1.2.2.2.2.2.2.1 ((M (fp + 3) 3) - 1)) h0.2.2.1.2.2.2.2 (by decide))).trans ((zcp_t e36 (h_frame.2.2.2.2.2.2.2.2.2.2.2.2.2.2.2.2.2.1.2.2.2.2.2.2.1 ((M (fp + 3) 3) - 1)) h0.2.2.1.2.2.2.1 (by decide)).trans ((zcp_t e32 (h_frame.2.2.2.2.2.2.2.2.2.2.2.2.2.2.2.2.2.1.2.2.2.2.2.2.1 ((M (fp + 3) 3) - 1)) h0.2.2.1.2.2.2.1 (by decide)).trans ((zup_p e7 (by omega) _).trans (zup_p e3 (by omega) _))))); rw [hz]; omega)
            have hK50 := hK46.put e48 (h_frame.2.2.2.2.2.2.2.2.2.2.2.2.2.2.2.2.2.1.2.2.2.1 ((M (fp + 3) 3) - 1)) (by decide)
            refine q_aload C dX0_paste_207 (n := 209) rfl rfl ?_
            refine q_getR C dX0_paste_209 (n := 212) rfl f_X0_100 h_frame.2.2.2.2.2.2.2.2.2.2.2.2.2.2.2.2.2.1.1 (hF _ _ _ h_frame.2.2.2.2.2.2.2.2.2.2.2.2.2.2.2.2.2.1.2.2.2.2.1) ?_
            refine q_iload C dX0_paste_212 (n := 214) rfl rfl ?_
            refine q_aload C dX0_paste_214 (n := 216) rfl rfl ?_
            refine q_getR C dX0_paste_216 (n := 219) rfl f_X0_100 h_frame.2.2.2.2.2.2.2.2.2.2.2.2.2.2.2.2.2.1.1 (hF _ _ _ h_frame.2.2.2.2.2.2.2.2.2.2.2.2.2.2.2.2.2.1.2.2.2.2.1) ?_
            refine q_iload C dX0_paste_219 (n := 221) rfl rfl ?_
            refine q_iald C dX0_paste_221 (n := 222) rfl h_frame.2.2.2.2.2.2.2.2.2.2.2.2.2.2.2.2.2.1.2.2.2.2.2.1 (by omega) (v := M (fp + 3 + 2) ((M (fp + 3) 3) - 1)) ((zup_p e48 (by omega) _).trans ((zup_n e44 (zne_t (h_frame.2.2.2.2.2.2.2.2.2.2.2.2.2.2.2.2.2.1.2.2.2.2.2.2.1 ((M (fp + 3) 3) - 1)) h0.2.2.1.2.2.2.2 (by decide))).trans ((zcp_t e36 (h_frame.2.2.2.2.2.2.2.2.2.2.2.2.2.2.2.2.2.1.2.2.2.2.2.2.1 ((M (fp + 3) 3) - 1)) h0.2.2.1.2.2.2.1 (by decide)).trans ((zcp_t e32 (h_frame.2.2.2.2.2.2.2.2.2.2.2.2.2.2.2.2.2.1.2.2.2.2.2.2.1 ((M (fp + 3) 3) - 1)) h0.2.2.1.2.2.2.1 (by decide)).trans ((zup_p e7 (by omega) _).trans (zup_p e3 (by omega) _)))))) ?_
            refine q_bipush C dX0_paste_222 (n := 224) rfl (x := (-128)) (by decide) ?_
            refine q_iand C dX0_paste_224 (n := 225) rfl (v := zand (M (fp + 3 + 2) ((M (fp + 3) 3) - 1)) (-128)) rfl ?_
            have g51 := zr_and (M (fp + 3 + 2) ((M (fp + 3) 3) - 1)) (-128)
            refine q_aload_n C dX0_paste_225 (n := 226) rfl rfl ?_
            refine q_getR C dX0_paste_226 (n := 229) rfl f_X0_38 h0.1 (hF _ _ _ h0.2.1) ?_
            refine q_iload C dX0_paste_229 (n := 231) rfl rfl ?_
            refine q_callVp C dX0_paste_231 (n := 234) rfl m_X0_233 v_yX10_kindAt h0.2.2.1.1 ⟨by decide, rfl⟩ (c_X10_kindAt (w := w) (J := J) hI49 hF h0.2.2.1 (M6 t 1) (by omega) (by omega)) (Nat.le_of_ble_eq_true rfl) rfl rfl (Nat.le_of_ble_eq_true rfl) ⟨Nat.le_refl _, Nat.le_refl _⟩ (fun x53 h54 => ?_)
            refine q_iload C dX0_paste_234 (n := 236) rfl rfl ?_
            refine q_callSp C dX0_paste_236 (n := 239) rfl m_X0_202 s_yX5_shape (c_X5_shape (w := w) (J := J) hI49 hF x53 (x16 + x20)) (Nat.le_of_ble_eq_true rfl) rfl rfl (Nat.le_of_ble_eq_true rfl) ⟨Nat.le_refl _, Nat.le_refl _⟩ (fun x57 h58 => ?_)
            obtain ⟨h55, h56⟩ := h58
            refine q_ior C dX0_paste_239 (n := 240) rfl (v := zor (zand (M (fp + 3 + 2) ((M (fp + 3) 3) - 1)) (-128)) x57) rfl ?_
            have g59 := zr_or (zand (M (fp + 3 + 2) ((M (fp + 3) 3) - 1)) (-128)) x57
            have g60 : zand (zand (M (fp + 3 + 2) ((M (fp + 3) 3) - 1)) (-128)) 31 = 0 → zand (zor (zand (M (fp + 3 + 2) ((M (fp + 3) 3) - 1)) (-128)) x57) 31 = zand x57 31 := fun h => zl_or h
            refine q_iast C dX0_paste_240 (n := 241) rfl h_frame.2.2.2.2.2.2.2.2.2.2.2.2.2.2.2.2.2.1.2.2.2.2.2.1 (by omega)  (fun M61 e62 => ?_)
            have hI63 : zI G M61 := zI.putB (a := fp + 3 + 1) hI49 e62 (h_frame.2.2.2.2.2.2.2.2.2.2.2.2.2.2.2.2.2.1.2.2.2.2.2.2.1 ((M (fp + 3) 3) - 1)) (h_frame.2.2.2.2.2.2.2.2.2.2.2.2.2.2.2.2.2.1.2.2.2.1 ((M (fp + 3) 3) - 1)) (by have hz : M47 (fp + 3 + 1) ((M (fp + 3) 3) - 1) = M6 t 1 := (zup_s e48); have hy : zand (zor (zand (M (fp + 3 + 2) ((M (fp + 3) 3) - 1)) (-128)) x57) 31 = zand x57 31 := zl_paste _ _; omega)
            have hK64 := hK50.put e62 (h_frame.2.2.2.2.2.2.2.2.2.2.2.2.2.2.2.2.2.1.2.2.2.2.2.2.1 ((M (fp + 3) 3) - 1)) (by decide)
            refine q_aload C dX0_paste_241 (n := 243) rfl rfl ?_
            refine q_getR C dX0_paste_243 (n := 246) rfl f_X0_103 h_frame.2.2.2.2.2.2.2.2.2.2.2.2.2.2.2.2.2.1.1 (hF _ _ _ h_frame.2.2.2.2.2.2.2.2.2.2.2.2.2.2.2.2.2.1.2.2.2.2.2.2.2.1) ?_
            refine q_iload C dX0_paste_246 (n := 248) rfl rfl ?_
            refine q_dup2 C dX0_paste_248 (n := 249) rfl ⟨rfl, rfl⟩ ?_
            have g65 := zI.at hI45 (h_frame.2.2.2.2.2.2.2.2.2.2.2.2.2.2.2.2.2.1.2.2.2.2.2.2.2.2.2.1 ((M (fp + 3) 3) - 1))
            refine q_iald C dX0_paste_249 (n := 250) rfl h_frame.2.2.2.2.2.2.2.2.2.2.2.2.2.2.2.2.2.1.2.2.2.2.2.2.2.2.1 (by omega) (v := M43 (fp + 3 + 3) ((M (fp + 3) 3) - 1)) ((zup_p e62 (by omega) _).trans (zup_p e48 (by omega) _)) ?_
            refine q_iload C dX0_paste_250 (n := 252) rfl rfl ?_
            refine q_iand C dX0_paste_252 (n := 253) rfl (v := zand (M43 (fp + 3 + 3) ((M (fp + 3) 3) - 1)) v3) rfl ?_
            have g66 := zr_and (M43 (fp + 3 + 3) ((M (fp + 3) 3) - 1)) v3
            refine q_iast C dX0_paste_253 (n := 254) rfl h_frame.2.2.2.2.2.2.2.2.2.2.2.2.2.2.2.2.2.1.2.2.2.2.2.2.2.2.1 (by omega)  (fun M67 e68 => ?_)
            have hI69 : zI G M67 := hI63.put e68 (h_frame.2.2.2.2.2.2.2.2.2.2.2.2.2.2.2.2.2.1.2.2.2.2.2.2.2.2.2.1 ((M (fp + 3) 3) - 1)) rfl (by omega)
            have hK70 := hK64.put e68 (h_frame.2.2.2.2.2.2.2.2.2.2.2.2.2.2.2.2.2.1.2.2.2.2.2.2.2.2.2.1 ((M (fp + 3) 3) - 1)) (by decide)
            refine q_aload_n C dX0_paste_254 (n := 255) rfl rfl ?_
            refine q_dup C dX0_paste_255 (n := 256) rfl rfl ?_
            have g71 := zI.at hI45 h_frame.2.2.2.2.2.2.2.2.2.2.2.2.2.2.2.2.2.2.2.2.2.2.2
            refine q_getI C dX0_paste_256 (n := 259) rfl f_X0_236 h_frame.1 (v := M43 fp 17) ((zup_p e68 (by omega) _).trans ((zup_p e62 (by omega) _).trans (zup_p e48 (by omega) _))) ?_
            refine q_iconst C dX0_paste_259 (n := 260) rfl ?_
            refine q_iadd C dX0_paste_260 (n := 261) rfl (v := (M43 fp 17) + 1) rfl ?_
            refine q_wrap C ?_
            have g72 := zr_wr ((M43 fp 17) + 1)
            refine q_putI C dX0_paste_261 (n := 264) rfl f_X0_236 h_frame.1 ⟨rfl, rfl⟩ (fun M73 (e74 : M73 = zup M67 fp 17 (zwr ((M43 fp 17) + 1))) => ?_)
            have hI75 : zI G M73 := hI69.put e74 h_frame.2.2.2.2.2.2.2.2.2.2.2.2.2.2.2.2.2.2.2.2.2.2.2 rfl (by omega)
            have hK76 := hK70.put e74 h_frame.2.2.2.2.2.2.2.2.2.2.2.2.2.2.2.2.2.2.2.2.2.2.2 (by decide)
            exact q_vret C dX0_paste_264 ⟨rfl, rfl⟩ (by rw [hPo]; exact ⟨M73, J, rfl, rfl, hI75, hK76⟩)
          · refine q_aload_n C dX0_paste_177 (n := 178) rfl rfl ?_
            refine q_iconst C dX0_paste_178 (n := 179) rfl ?_
            refine q_putZ C dX0_paste_179 (n := 182) rfl f_X0_217 h_frame.1 ⟨rfl, rfl⟩ (by omega) (fun M77 (e78 : M77 = zup M35 fp 16 1) => ?_)
            have hI79 : zI G M77 := hI37.put e78 h_frame.2.2.2.2.2.2.2.2.2.2.2.2.2.2.2.2.2.2.2.2.2.2.1 rfl (by omega)
            have hK80 := hK38.put e78 h_frame.2.2.2.2.2.2.2.2.2.2.2.2.2.2.2.2.2.2.2.2.2.2.1 (by decide)
            exact q_vret C dX0_paste_182 ⟨rfl, rfl⟩ (by rw [hPo]; exact ⟨M77, J, rfl, rfl, hI79, hK80⟩)
        · refine q_aload_n C dX0_paste_92 (n := 93) rfl rfl ?_
          refine q_iconst C dX0_paste_93 (n := 94) rfl ?_
          refine q_putZ C dX0_paste_94 (n := 97) rfl f_X0_217 h_frame.1 ⟨rfl, rfl⟩ (by omega) (fun M81 (e82 : M81 = zup M6 fp 16 1) => ?_)
          have hI83 : zI G M81 := hI8.put e82 h_frame.2.2.2.2.2.2.2.2.2.2.2.2.2.2.2.2.2.2.2.2.2.2.1 rfl (by omega)
          have hK84 := hK9.put e82 h_frame.2.2.2.2.2.2.2.2.2.2.2.2.2.2.2.2.2.2.2.2.2.2.1 (by decide)
          exact q_vret C dX0_paste_97 ⟨rfl, rfl⟩ (by rw [hPo]; exact ⟨M81, J, rfl, rfl, hI83, hK84⟩)
    · exact q_vret C dX0_paste_37 ⟨rfl, rfl⟩ (by rw [hPo]; exact ⟨M6, J, rfl, rfl, hI8, hK9⟩)
