theorem c_X11_file {w : zWp} {T : zTl} {M : zMm} {J : zJm} {R : zRm'} {G : zGt} {F : zRm'} {a : Nat} (hI : zI G M) (hF : zF F R) (h0 : zHideSets T F G a) (v1 : Int) (hst : R a 8 = none ∨ ∃ sy, R a 8 = some sy ∧ zStudy T F G sy) (hg30 : ∀ (c : Nat) (k : Int), a ≤ c → c < a + 836 → (G c k).1 < 30) (p1 : -2147483648 ≤ v1 ∧ v1 ≤ 2147483647) (p2 : zCI M a) : zCt w 14 0 0 yX11_file cX11_file 4 (some .int) [.ref (w.2.1 + a), zi v1] (T, M, J, R) (zPi T R G (fun x M2 => (zKp G 30 M M2) ∧ (M2 a 1 = 0) ∧ (∀ j : Int, M2 (a + 28) j = M (a + 28) j) ∧ (zFA (M (a + 1)) (M a 1) v1 x) ∧ (zCI M2 a))) := by
  refine zCt.of rfl (Nat.le_of_ble_eq_true rfl) ?_
  intro p e s m args below meth c C
  obtain ⟨Po, hPo⟩ : ∃ Po, Po = zPi T R G (fun x M2 => (zKp G 30 M M2) ∧ (M2 a 1 = 0) ∧ (∀ j : Int, M2 (a + 28) j = M (a + 28) j) ∧ (zFA (M (a + 1)) (M a 1) v1 x) ∧ (zCI M2 a)) := ⟨_, rfl⟩
  rw [← hPo]
  have hK0 : zKp G 30 M M := zKp.rf
  show zK w p e 14 0 0 s m args below meth c 4 T Po 0 [.ref (w.2.1 + a), zi v1, .null, .null] [] (T, M, J, R)
  refine q_aload_n C dX11_file_0 (n := 1) rfl rfl ?_
  refine q_callVi C dX11_file_1 (n := 4) rfl m_X11_54 v_yX11_takeTape h0.1 ⟨by decide, rfl⟩ (c_X11_takeTape (w := w) (J := J) hI hF h0) (Nat.le_of_ble_eq_true rfl) rfl rfl (Nat.le_of_ble_eq_true rfl) ⟨Nat.le_refl _, Nat.le_refl _⟩ (fun x9 M5 J6  hI7 h8 => ?_)
  obtain ⟨hk10, h1, h2, h3, h4⟩ := h8
  have hK11 := hK0.tr hk10 (by decide)
  refine q_istore_n C [.ref (w.2.1 + a), zi v1, zi x9, .null] dX11_file_4 (n := 5) rfl rfl rfl ?_
  refine q_iload_n C dX11_file_5 (n := 6) rfl rfl ?_
  refine q_if_lt C 14 dX11_file_6 (n := 9) rfl rfl (by omega) (fun h12 => ?_) (fun h12 => ?_)
  · refine q_bipush C dX11_file_14 (n := 16) rfl (x := (-2)) (by decide) ?_
    have hci13 : zCI M5 a := (zCI.kp p2 h0 hk10 (by decide))
    exact q_iret C dX11_file_16 ⟨rfl, rfl⟩ (by rw [hPo]; exact ⟨(-2), M5, J6, rfl, rfl, hI7, hK11, (by have hz : M5 a 1 = M5 a 1 := rfl; omega), (fun j => (hk10 _ _ (zle_t (h0.2.2.2.2.2.2.2.2.2.2.2.2.1 j) (by decide)))), (Or.inl ⟨by omega, rfl⟩), hci13⟩)
  · refine q_iload_n C dX11_file_9 (n := 10) rfl rfl ?_
    refine q_iconst C dX11_file_10 (n := 11) rfl ?_
    refine q_icmp_lt C 17 dX11_file_11 (n := 14) rfl rfl (by omega) (fun h14 => ?_) (fun h14 => ?_)
    · refine q_iload_n C dX11_file_17 (n := 18) rfl rfl ?_
      refine q_sipush C dX11_file_18 (n := 21) rfl (x := 400) (by decide) ?_
      refine q_icmp_le C 27 dX11_file_21 (n := 24) rfl rfl (by omega) (fun h15 => ?_) (fun h15 => ?_)
      · refine q_aload_n C dX11_file_27 (n := 28) rfl rfl ?_
        refine q_iload_n C dX11_file_28 (n := 29) rfl rfl ?_
        refine q_bipush C dX11_file_29 (n := 31) rfl (x := 10) (by decide) ?_
        refine q_callVp C dX11_file_31 (n := 34) rfl m_X11_58 v_yX11_wrongByte h0.1 ⟨by decide, rfl⟩ (c_X11_wrongByte (w := w) (J := J6) hI7 hF h0 x9 10 (by omega) (by omega)) (Nat.le_of_ble_eq_true rfl) rfl rfl (Nat.le_of_ble_eq_true rfl) ⟨Nat.le_refl _, Nat.le_refl _⟩ (fun x18 h19 => ?_)
        obtain ⟨h16, h17⟩ := h19
        refine q_istore_n C [.ref (w.2.1 + a), zi v1, zi x9, zi x18] dX11_file_34 (n := 35) rfl rfl rfl ?_
        refine q_iload_n C dX11_file_35 (n := 36) rfl rfl ?_
        refine q_iconst C dX11_file_36 (n := 37) rfl ?_
        refine q_icmp_eq C 46 dX11_file_37 (n := 40) rfl rfl (by omega) (fun h20 => ?_) (fun h20 => ?_)
        · refine q_aload_n C dX11_file_46 (n := 47) rfl rfl ?_
          refine q_iload_n C dX11_file_47 (n := 48) rfl rfl ?_
          refine q_callVp C dX11_file_48 (n := 51) rfl m_X11_62 v_yX11_linesOnTape h0.1 ⟨by decide, rfl⟩ (c_X11_linesOnTape (w := w) (J := J6) hI7 hF h0 x9 (by omega)) (Nat.le_of_ble_eq_true rfl) rfl rfl (Nat.le_of_ble_eq_true rfl) ⟨Nat.le_refl _, Nat.le_refl _⟩ (fun x23 h24 => ?_)
          obtain ⟨h21, h22⟩ := h24
          refine q_bipush C dX11_file_51 (n := 53) rfl (x := 40) (by decide) ?_
          refine q_icmp_le C 59 dX11_file_53 (n := 56) rfl rfl (by omega) (fun h25 => ?_) (fun h25 => ?_)
          · refine q_aload_n C dX11_file_59 (n := 60) rfl rfl ?_
            refine q_getR C dX11_file_60 (n := 63) rfl f_X11_20 h0.1 (hF _ _ _ h0.2.2.2.2.2.1) ?_
            refine q_getR C dX11_file_63 (n := 66) rfl f_X11_66 h0.2.2.2.2.2.2.1.1 (hF _ _ _ h0.2.2.2.2.2.2.1.2.1) ?_
            refine q_iload_n C dX11_file_66 (n := 67) rfl rfl ?_
            refine q_aald C dX11_file_67 (n := 68) rfl ⟨by decide, by decide⟩ h0.2.2.2.2.2.2.1.2.2.1 (by omega) (hF _ _ _ (h0.2.2.2.2.2.2.1.2.2.2.1 v1 (by omega) (by omega)).1) ?_
            refine q_aload_n C dX11_file_68 (n := 69) rfl rfl ?_
            refine q_getR C dX11_file_69 (n := 72) rfl f_X11_9 h0.1 (hF _ _ _ h0.2.1) ?_
            refine q_iload_n C dX11_file_72 (n := 73) rfl rfl ?_
            have hci26 : zCI M5 a := (zCI.kp p2 h0 hk10 (by decide))
            refine q_callVv C dX11_file_73 (n := 76) rfl m_X11_70 v_yX4_read (h0.2.2.2.2.2.2.1.2.2.2.1 v1 (by omega) (by omega)).2.1 ⟨by decide, rfl⟩ (c_X4_read (w := w) (J := J6) hI7 hF (h0.2.2.2.2.2.2.1.2.2.2.1 v1 (by omega) (by omega)).2 h0.2.2.1 h0.2.2.2.1 x9 (by omega) (by omega) ((hci26).1 v1 (by omega) (by omega)).1 (by omega)) (Nat.le_of_ble_eq_true rfl) rfl rfl (Nat.le_of_ble_eq_true rfl) ⟨Nat.le_refl _, Nat.le_refl _⟩ (fun M29 J30  hI31 h32 => ?_)
            obtain ⟨hk33, h27, h28⟩ := h32
            have hK34 := hK11.tr (zKp.ofr hk33 (fun c k h1 h2 => hg30 c k (by omega) (by omega))) (by decide)
            refine q_aload_n C dX11_file_76 (n := 77) rfl rfl ?_
            refine q_callVv C dX11_file_77 (n := 80) rfl m_X11_76 v_yX11_forgetStudy h0.1 ⟨by decide, rfl⟩ (c_X11_forgetStudy (w := w) (J := J30) hI31 hF h0 (by assumption)) (Nat.le_of_ble_eq_true rfl) rfl rfl (Nat.le_of_ble_eq_true rfl) ⟨Nat.le_refl _, Nat.le_refl _⟩ (fun M35 J36  hI37 h38 => ?_)
            have hK40 := hK34.tr h38 (by decide)
            refine q_aload_n C dX11_file_80 (n := 81) rfl rfl ?_
            refine q_getR C dX11_file_81 (n := 84) rfl f_X11_20 h0.1 (hF _ _ _ h0.2.2.2.2.2.1) ?_
            refine q_getR C dX11_file_84 (n := 87) rfl f_X11_66 h0.2.2.2.2.2.2.1.1 (hF _ _ _ h0.2.2.2.2.2.2.1.2.1) ?_
            refine q_iload_n C dX11_file_87 (n := 88) rfl rfl ?_
            refine q_aald C dX11_file_88 (n := 89) rfl ⟨by decide, by decide⟩ h0.2.2.2.2.2.2.1.2.2.1 (by omega) (hF _ _ _ (h0.2.2.2.2.2.2.1.2.2.2.1 v1 (by omega) (by omega)).1) ?_
            have g41 := zI.at hI31 (h0.2.2.2.2.2.2.1.2.2.2.1 v1 (by omega) (by omega)).2.2.2.2.2.2.2.2.2.2.2.1
            refine q_getI C dX11_file_89 (n := 92) rfl f_X11_79 (h0.2.2.2.2.2.2.1.2.2.2.1 v1 (by omega) (by omega)).2.1 (v := M29 (a + 2 + 9 + 4 * (v1 : Int).toNat) 3) (h38 _ _ (zle_t (h0.2.2.2.2.2.2.1.2.2.2.1 v1 (by omega) (by omega)).2.2.2.2.2.2.2.2.2.2.2.1 (by decide))) ?_
            have hci42 : zCI M35 a := (zCI.kp (zCI.pg (k := v1) hci26 hk33 (by omega) h27) h0 h38 (by decide))
            exact q_iret C dX11_file_92 ⟨rfl, rfl⟩ (by rw [hPo]; exact ⟨M29 (a + 2 + 9 + 4 * (v1 : Int).toNat) 3, M35, J36, rfl, rfl, hI37, hK40, (by have hz : M35 a 1 = M5 a 1 := ((h38 _ _ (zle_t h0.2.2.2.2.1 (by decide))).trans (hk33 _ _ (by omega))); omega), (fun j => ((h38 _ _ (zle_t (h0.2.2.2.2.2.2.2.2.2.2.2.2.1 j) (by decide))).trans ((hk33 _ _ (by omega)).trans (hk10 _ _ (zle_t (h0.2.2.2.2.2.2.2.2.2.2.2.2.1 j) (by decide)))))), (zFA.d (by omega) (by omega) (zWb.cg h17 (fun j => (h4 j)) (by omega) rfl) (by omega) (zLi.cg (g := M5 (a + 1)) (l := M29 (a + 2 + 9 + 4 * (v1 : Int).toNat) 3) h28 (fun j => (h4 j)) (by omega)) (Or.inr ⟨by omega, rfl⟩)), hci42⟩)
          · refine q_bipush C dX11_file_56 (n := 58) rfl (x := (-3)) (by decide) ?_
            have hci43 : zCI M5 a := (zCI.kp p2 h0 hk10 (by decide))
            exact q_iret C dX11_file_58 ⟨rfl, rfl⟩ (by rw [hPo]; exact ⟨(-3), M5, J6, rfl, rfl, hI7, hK11, (by have hz : M5 a 1 = M5 a 1 := rfl; omega), (fun j => (hk10 _ _ (zle_t (h0.2.2.2.2.2.2.2.2.2.2.2.2.1 j) (by decide)))), (zFA.d (by omega) (by omega) (zWb.cg h17 (fun j => (h4 j)) (by omega) rfl) (by omega) (zLi.cg (g := M5 (a + 1)) (l := x23) h22 (fun j => (h4 j)) (by omega)) (Or.inl ⟨by omega, rfl⟩)), hci43⟩)
        · refine q_sipush C dX11_file_40 (n := 43) rfl (x := (-1000)) (by decide) ?_
          refine q_iload_n C dX11_file_43 (n := 44) rfl rfl ?_
          refine q_isub C dX11_file_44 (n := 45) rfl (v := (-1000) - x18) rfl ?_
          have hci44 : zCI M5 a := (zCI.kp p2 h0 hk10 (by decide))
          exact q_iret C dX11_file_45 ⟨rfl, rfl⟩ (by rw [hPo]; exact ⟨(-1000) - x18, M5, J6, rfl, rfl, hI7, hK11, (by have hz : M5 a 1 = M5 a 1 := rfl; omega), (fun j => (hk10 _ _ (zle_t (h0.2.2.2.2.2.2.2.2.2.2.2.2.1 j) (by decide)))), (zFA.c (by omega) (by omega) (zWb.cg h17 (fun j => (h4 j)) (by omega) rfl) ⟨by omega, by omega⟩), hci44⟩)
      · refine q_bipush C dX11_file_24 (n := 26) rfl (x := (-3)) (by decide) ?_
        have hci45 : zCI M5 a := (zCI.kp p2 h0 hk10 (by decide))
        exact q_iret C dX11_file_26 ⟨rfl, rfl⟩ (by rw [hPo]; exact ⟨(-3), M5, J6, rfl, rfl, hI7, hK11, (by have hz : M5 a 1 = M5 a 1 := rfl; omega), (fun j => (hk10 _ _ (zle_t (h0.2.2.2.2.2.2.2.2.2.2.2.2.1 j) (by decide)))), (Or.inr ⟨by omega, Or.inl ⟨by omega, rfl⟩⟩), hci45⟩)
    · refine q_bipush C dX11_file_14 (n := 16) rfl (x := (-2)) (by decide) ?_
      have hci46 : zCI M5 a := (zCI.kp p2 h0 hk10 (by decide))
      exact q_iret C dX11_file_16 ⟨rfl, rfl⟩ (by rw [hPo]; exact ⟨(-2), M5, J6, rfl, rfl, hI7, hK11, (by have hz : M5 a 1 = M5 a 1 := rfl; omega), (fun j => (hk10 _ _ (zle_t (h0.2.2.2.2.2.2.2.2.2.2.2.2.1 j) (by decide)))), (Or.inl ⟨by omega, rfl⟩), hci46⟩)
theorem c_X11_edit {w : zWp} {T : zTl} {M : zMm} {J : zJm} {R : zRm'} {G : zGt} {F : zRm'} {a : Nat} (hI : zI G M) (hF : zF F R) (h0 : zHideSets T F G a) (v1 : Int) (v2 : Int) (hst : R a 8 = none ∨ ∃ sy, R a 8 = some sy ∧ zStudy T F G sy) (hg30 : ∀ (c : Nat) (k : Int), a ≤ c → c < a + 836 → (G c k).1 < 30) (p1 : -2147483648 ≤ v1 ∧ v1 ≤ 2147483647) (p2 : -2147483648 ≤ v2 ∧ v2 ≤ 2147483647) (p3 : zCI M a) : zCt w 14 0 0 yX11_edit cX11_edit 5 (some .int) [.ref (w.2.1 + a), zi v1, zi v2] (T, M, J, R) (zPi T R G (fun x M2 => (zKp G 30 M M2) ∧ (M2 a 1 = 0) ∧ (∀ j : Int, M2 (a + 28) j = M (a + 28) j) ∧ (zCI M2 a))) := by
  refine zCt.of rfl (Nat.le_of_ble_eq_true rfl) ?_
  intro p e s m args below meth c C
  obtain ⟨Po, hPo⟩ : ∃ Po, Po = zPi T R G (fun x M2 => (zKp G 30 M M2) ∧ (M2 a 1 = 0) ∧ (∀ j : Int, M2 (a + 28) j = M (a + 28) j) ∧ (zCI M2 a)) := ⟨_, rfl⟩
  rw [← hPo]
  have hK0 : zKp G 30 M M := zKp.rf
  show zK w p e 14 0 0 s m args below meth c 5 T Po 0 [.ref (w.2.1 + a), zi v1, zi v2, .null, .null] [] (T, M, J, R)
  refine q_aload_n C dX11_edit_0 (n := 1) rfl rfl ?_
  refine q_callVi C dX11_edit_1 (n := 4) rfl m_X11_54 v_yX11_takeTape h0.1 ⟨by decide, rfl⟩ (c_X11_takeTape (w := w) (J := J) hI hF h0) (Nat.le_of_ble_eq_true rfl) rfl rfl (Nat.le_of_ble_eq_true rfl) ⟨Nat.le_refl _, Nat.le_refl _⟩ (fun x9 M5 J6  hI7 h8 => ?_)
  obtain ⟨hk10, h1, h2, h3, h4⟩ := h8
  have hK11 := hK0.tr hk10 (by decide)
  refine q_istore_n C [.ref (w.2.1 + a), zi v1, zi v2, zi x9, .null] dX11_edit_4 (n := 5) rfl rfl rfl ?_
  refine q_aload_n C dX11_edit_5 (n := 6) rfl rfl ?_
  refine q_getR C dX11_edit_6 (n := 9) rfl f_X11_20 h0.1 (hF _ _ _ h0.2.2.2.2.2.1) ?_
  refine q_iload_n C dX11_edit_9 (n := 10) rfl rfl ?_
  refine q_callVp C dX11_edit_10 (n := 13) rfl m_X11_99 v_yX7_hasFile h0.2.2.2.2.2.2.1.1 ⟨by decide, rfl⟩ (c_X7_hasFile (w := w) (J := J6) hI7 hF h0.2.2.2.2.2.2.1 v1 (by omega)) (Nat.le_of_ble_eq_true rfl) rfl rfl (Nat.le_of_ble_eq_true rfl) ⟨Nat.le_refl _, Nat.le_refl _⟩ (fun x14 h15 => ?_)
  obtain ⟨h12, h13⟩ := h15
  refine q_if_eq C 36 dX11_edit_13 (n := 16) rfl rfl (by omega) (fun h16 => ?_) (fun h16 => ?_)
  · refine q_bipush C dX11_edit_36 (n := 38) rfl (x := (-2)) (by decide) ?_
    have hci17 : zCI M5 a := (zCI.kp p3 h0 hk10 (by decide))
    exact q_iret C dX11_edit_38 ⟨rfl, rfl⟩ (by rw [hPo]; exact ⟨(-2), M5, J6, rfl, rfl, hI7, hK11, (by have hz : M5 a 1 = M5 a 1 := rfl; omega), (fun j => (hk10 _ _ (zle_t (h0.2.2.2.2.2.2.2.2.2.2.2.2.1 j) (by decide)))), hci17⟩)
  · refine q_iload_n C dX11_edit_16 (n := 17) rfl rfl ?_
    refine q_if_lt C 36 dX11_edit_17 (n := 20) rfl rfl (by omega) (fun h18 => ?_) (fun h18 => ?_)
    · refine q_bipush C dX11_edit_36 (n := 38) rfl (x := (-2)) (by decide) ?_
      have hci19 : zCI M5 a := (zCI.kp p3 h0 hk10 (by decide))
      exact q_iret C dX11_edit_38 ⟨rfl, rfl⟩ (by rw [hPo]; exact ⟨(-2), M5, J6, rfl, rfl, hI7, hK11, (by have hz : M5 a 1 = M5 a 1 := rfl; omega), (fun j => (hk10 _ _ (zle_t (h0.2.2.2.2.2.2.2.2.2.2.2.2.1 j) (by decide)))), hci19⟩)
    · refine q_iload_n C dX11_edit_20 (n := 21) rfl rfl ?_
      refine q_aload_n C dX11_edit_21 (n := 22) rfl rfl ?_
      refine q_getR C dX11_edit_22 (n := 25) rfl f_X11_20 h0.1 (hF _ _ _ h0.2.2.2.2.2.1) ?_
      refine q_getR C dX11_edit_25 (n := 28) rfl f_X11_66 h0.2.2.2.2.2.2.1.1 (hF _ _ _ h0.2.2.2.2.2.2.1.2.1) ?_
      refine q_iload_n C dX11_edit_28 (n := 29) rfl rfl ?_
      refine q_aald C dX11_edit_29 (n := 30) rfl ⟨by decide, by decide⟩ h0.2.2.2.2.2.2.1.2.2.1 (by omega) (hF _ _ _ (h0.2.2.2.2.2.2.1.2.2.2.1 v1 (by omega) (by omega)).1) ?_
      have g20 := zI.at hI (h0.2.2.2.2.2.2.1.2.2.2.1 v1 (by omega) (by omega)).2.2.2.2.2.2.2.2.2.2.2.1
      refine q_getI C dX11_edit_30 (n := 33) rfl f_X11_79 (h0.2.2.2.2.2.2.1.2.2.2.1 v1 (by omega) (by omega)).2.1 (v := M (a + 2 + 9 + 4 * (v1 : Int).toNat) 3) (hk10 _ _ (zle_t (h0.2.2.2.2.2.2.1.2.2.2.1 v1 (by omega) (by omega)).2.2.2.2.2.2.2.2.2.2.2.1 (by decide))) ?_
      refine q_icmp_le C 39 dX11_edit_33 (n := 36) rfl rfl (by omega) (fun h21 => ?_) (fun h21 => ?_)
      · refine q_aload_n C dX11_edit_39 (n := 40) rfl rfl ?_
        refine q_iload_n C dX11_edit_40 (n := 41) rfl rfl ?_
        refine q_bipush C dX11_edit_41 (n := 43) rfl (x := 32) (by decide) ?_
        refine q_callVp C dX11_edit_43 (n := 46) rfl m_X11_58 v_yX11_wrongByte h0.1 ⟨by decide, rfl⟩ (c_X11_wrongByte (w := w) (J := J6) hI7 hF h0 x9 32 (by omega) (by omega)) (Nat.le_of_ble_eq_true rfl) rfl rfl (Nat.le_of_ble_eq_true rfl) ⟨Nat.le_refl _, Nat.le_refl _⟩ (fun x24 h25 => ?_)
        obtain ⟨h22, h23⟩ := h25
        refine q_istore C [.ref (w.2.1 + a), zi v1, zi v2, zi x9, zi x24] dX11_edit_46 (n := 48) rfl rfl rfl ?_
        refine q_iload C dX11_edit_48 (n := 50) rfl rfl ?_
        refine q_iconst C dX11_edit_50 (n := 51) rfl ?_
        refine q_icmp_eq C 61 dX11_edit_51 (n := 54) rfl rfl (by omega) (fun h26 => ?_) (fun h26 => ?_)
        · refine q_aload_n C dX11_edit_61 (n := 62) rfl rfl ?_
          refine q_getR C dX11_edit_62 (n := 65) rfl f_X11_20 h0.1 (hF _ _ _ h0.2.2.2.2.2.1) ?_
          refine q_getR C dX11_edit_65 (n := 68) rfl f_X11_66 h0.2.2.2.2.2.2.1.1 (hF _ _ _ h0.2.2.2.2.2.2.1.2.1) ?_
          refine q_iload_n C dX11_edit_68 (n := 69) rfl rfl ?_
          refine q_aald C dX11_edit_69 (n := 70) rfl ⟨by decide, by decide⟩ h0.2.2.2.2.2.2.1.2.2.1 (by omega) (hF _ _ _ (h0.2.2.2.2.2.2.1.2.2.2.1 v1 (by omega) (by omega)).1) ?_
          refine q_iload_n C dX11_edit_70 (n := 71) rfl rfl ?_
          refine q_aload_n C dX11_edit_71 (n := 72) rfl rfl ?_
          refine q_getR C dX11_edit_72 (n := 75) rfl f_X11_9 h0.1 (hF _ _ _ h0.2.1) ?_
          refine q_iload_n C dX11_edit_75 (n := 76) rfl rfl ?_
          have hci27 : zCI M5 a := (zCI.kp p3 h0 hk10 (by decide))
          refine q_callVi C dX11_edit_76 (n := 79) rfl m_X11_255 v_yX4_change (h0.2.2.2.2.2.2.1.2.2.2.1 v1 (by omega) (by omega)).2.1 ⟨by decide, rfl⟩ (c_X4_change (w := w) (J := J6) hI7 hF (h0.2.2.2.2.2.2.1.2.2.2.1 v1 (by omega) (by omega)).2 v2 h0.2.2.1 h0.2.2.2.1 x9 (by have hz : M5 (a + 2 + 9 + 4 * v1.toNat) 3 = M (a + 2 + 9 + 4 * v1.toNat) 3 := (hk10 _ _ (zle_t (h0.2.2.2.2.2.2.1.2.2.2.1 v1 (by omega) (by omega)).2.2.2.2.2.2.2.2.2.2.2.1 (by decide))); omega) (by omega) (by omega) ((hci27).1 v1 (by omega) (by omega))) (Nat.le_of_ble_eq_true rfl) rfl rfl (Nat.le_of_ble_eq_true rfl) ⟨Nat.le_refl _, Nat.le_refl _⟩ (fun x34 M30 J31  hI32 h33 => ?_)
          obtain ⟨hk35, h28, h29⟩ := h33
          have hK36 := hK11.tr (zKp.ofr hk35 (fun c k h1 h2 => hg30 c k (by omega) (by omega))) (by decide)
          refine q_if_ne C 85 dX11_edit_79 (n := 82) rfl rfl (by omega) (fun h37 => ?_) (fun h37 => ?_)
          · refine q_aload_n C dX11_edit_85 (n := 86) rfl rfl ?_
            refine q_callVv C dX11_edit_86 (n := 89) rfl m_X11_76 v_yX11_forgetStudy h0.1 ⟨by decide, rfl⟩ (c_X11_forgetStudy (w := w) (J := J31) hI32 hF h0 (by assumption)) (Nat.le_of_ble_eq_true rfl) rfl rfl (Nat.le_of_ble_eq_true rfl) ⟨Nat.le_refl _, Nat.le_refl _⟩ (fun M38 J39  hI40 h41 => ?_)
            have hK43 := hK36.tr h41 (by decide)
            refine q_aload_n C dX11_edit_89 (n := 90) rfl rfl ?_
            refine q_getR C dX11_edit_90 (n := 93) rfl f_X11_20 h0.1 (hF _ _ _ h0.2.2.2.2.2.1) ?_
            refine q_getR C dX11_edit_93 (n := 96) rfl f_X11_66 h0.2.2.2.2.2.2.1.1 (hF _ _ _ h0.2.2.2.2.2.2.1.2.1) ?_
            refine q_iload_n C dX11_edit_96 (n := 97) rfl rfl ?_
            refine q_aald C dX11_edit_97 (n := 98) rfl ⟨by decide, by decide⟩ h0.2.2.2.2.2.2.1.2.2.1 (by omega) (hF _ _ _ (h0.2.2.2.2.2.2.1.2.2.2.1 v1 (by omega) (by omega)).1) ?_
            have g44 := zI.at hI32 (h0.2.2.2.2.2.2.1.2.2.2.1 v1 (by omega) (by omega)).2.2.2.2.2.2.2.2.2.2.2.1
            refine q_getI C dX11_edit_98 (n := 101) rfl f_X11_79 (h0.2.2.2.2.2.2.1.2.2.2.1 v1 (by omega) (by omega)).2.1 (v := M30 (a + 2 + 9 + 4 * (v1 : Int).toNat) 3) (h41 _ _ (zle_t (h0.2.2.2.2.2.2.1.2.2.2.1 v1 (by omega) (by omega)).2.2.2.2.2.2.2.2.2.2.2.1 (by decide))) ?_
            have hci45 : zCI M38 a := (zCI.kp (zCI.pg (k := v1) hci27 hk35 (by omega) h29) h0 h41 (by decide))
            exact q_iret C dX11_edit_101 ⟨rfl, rfl⟩ (by rw [hPo]; exact ⟨M30 (a + 2 + 9 + 4 * (v1 : Int).toNat) 3, M38, J39, rfl, rfl, hI40, hK43, (by have hz : M38 a 1 = M5 a 1 := ((h41 _ _ (zle_t h0.2.2.2.2.1 (by decide))).trans (hk35 _ _ (by omega))); omega), (fun j => ((h41 _ _ (zle_t (h0.2.2.2.2.2.2.2.2.2.2.2.2.1 j) (by decide))).trans ((hk35 _ _ (by omega)).trans (hk10 _ _ (zle_t (h0.2.2.2.2.2.2.2.2.2.2.2.2.1 j) (by decide)))))), hci45⟩)
          · refine q_bipush C dX11_edit_82 (n := 84) rfl (x := (-3)) (by decide) ?_
            have hci46 : zCI M30 a := (zCI.pg (k := v1) hci27 hk35 (by omega) h29)
            exact q_iret C dX11_edit_84 ⟨rfl, rfl⟩ (by rw [hPo]; exact ⟨(-3), M30, J31, rfl, rfl, hI32, hK36, (by have hz : M30 a 1 = M5 a 1 := (hk35 _ _ (by omega)); omega), (fun j => ((hk35 _ _ (by omega)).trans (hk10 _ _ (zle_t (h0.2.2.2.2.2.2.2.2.2.2.2.2.1 j) (by decide))))), hci46⟩)
        · refine q_sipush C dX11_edit_54 (n := 57) rfl (x := (-1000)) (by decide) ?_
          refine q_iload C dX11_edit_57 (n := 59) rfl rfl ?_
          refine q_isub C dX11_edit_59 (n := 60) rfl (v := (-1000) - x24) rfl ?_
          have hci47 : zCI M5 a := (zCI.kp p3 h0 hk10 (by decide))
          exact q_iret C dX11_edit_60 ⟨rfl, rfl⟩ (by rw [hPo]; exact ⟨(-1000) - x24, M5, J6, rfl, rfl, hI7, hK11, (by have hz : M5 a 1 = M5 a 1 := rfl; omega), (fun j => (hk10 _ _ (zle_t (h0.2.2.2.2.2.2.2.2.2.2.2.2.1 j) (by decide)))), hci47⟩)
      · refine q_bipush C dX11_edit_36 (n := 38) rfl (x := (-2)) (by decide) ?_
        have hci48 : zCI M5 a := (zCI.kp p3 h0 hk10 (by decide))
        exact q_iret C dX11_edit_38 ⟨rfl, rfl⟩ (by rw [hPo]; exact ⟨(-2), M5, J6, rfl, rfl, hI7, hK11, (by have hz : M5 a 1 = M5 a 1 := rfl; omega), (fun j => (hk10 _ _ (zle_t (h0.2.2.2.2.2.2.2.2.2.2.2.2.1 j) (by decide)))), hci48⟩)
theorem c_X11_drop {w : zWp} {T : zTl} {M : zMm} {J : zJm} {R : zRm'} {G : zGt} {F : zRm'} {a : Nat} (hI : zI G M) (hF : zF F R) (h0 : zHideSets T F G a) (v1 : Int) (v2 : Int) (hst : R a 8 = none ∨ ∃ sy, R a 8 = some sy ∧ zStudy T F G sy) (hg30 : ∀ (c : Nat) (k : Int), a ≤ c → c < a + 836 → (G c k).1 < 30) (p1 : -2147483648 ≤ v1 ∧ v1 ≤ 2147483647) (p2 : -2147483648 ≤ v2 ∧ v2 ≤ 2147483647) (p3 : zCI M a) : zCt w 14 0 0 yX11_drop cX11_drop 3 (some .int) [.ref (w.2.1 + a), zi v1, zi v2] (T, M, J, R) (zPi T R G (fun x M2 => (zKp G 30 M M2) ∧ (M2 a 1 = M a 1) ∧ (∀ j : Int, M2 (a + 1) j = M (a + 1) j) ∧ (∀ j : Int, M2 (a + 28) j = M (a + 28) j) ∧ (zCI M2 a))) := by
  refine zCt.of rfl (Nat.le_of_ble_eq_true rfl) ?_
  intro p e s m args below meth c C
  obtain ⟨Po, hPo⟩ : ∃ Po, Po = zPi T R G (fun x M2 => (zKp G 30 M M2) ∧ (M2 a 1 = M a 1) ∧ (∀ j : Int, M2 (a + 1) j = M (a + 1) j) ∧ (∀ j : Int, M2 (a + 28) j = M (a + 28) j) ∧ (zCI M2 a)) := ⟨_, rfl⟩
  rw [← hPo]
  have hK0 : zKp G 30 M M := zKp.rf
  show zK w p e 14 0 0 s m args below meth c 3 T Po 0 [.ref (w.2.1 + a), zi v1, zi v2] [] (T, M, J, R)
  refine q_aload_n C dX11_drop_0 (n := 1) rfl rfl ?_
  refine q_getR C dX11_drop_1 (n := 4) rfl f_X11_20 h0.1 (hF _ _ _ h0.2.2.2.2.2.1) ?_
  refine q_iload_n C dX11_drop_4 (n := 5) rfl rfl ?_
  refine q_iload_n C dX11_drop_5 (n := 6) rfl rfl ?_
  refine q_callVp C dX11_drop_6 (n := 9) rfl m_X11_209 v_yX7_hasLine h0.2.2.2.2.2.2.1.1 ⟨by decide, rfl⟩ (c_X7_hasLine (w := w) (J := J) hI hF h0.2.2.2.2.2.2.1 v1 v2 (by omega) (by omega)) (Nat.le_of_ble_eq_true rfl) rfl rfl (Nat.le_of_ble_eq_true rfl) ⟨Nat.le_refl _, Nat.le_refl _⟩ (fun x3 h4 => ?_)
  obtain ⟨h1, h2⟩ := h4
  refine q_if_ne C 14 dX11_drop_9 (n := 12) rfl rfl (by omega) (fun h5 => ?_) (fun h5 => ?_)
  · refine q_aload_n C dX11_drop_14 (n := 15) rfl rfl ?_
    refine q_getR C dX11_drop_15 (n := 18) rfl f_X11_20 h0.1 (hF _ _ _ h0.2.2.2.2.2.1) ?_
    refine q_getR C dX11_drop_18 (n := 21) rfl f_X11_66 h0.2.2.2.2.2.2.1.1 (hF _ _ _ h0.2.2.2.2.2.2.1.2.1) ?_
    refine q_iload_n C dX11_drop_21 (n := 22) rfl rfl ?_
    refine q_aald C dX11_drop_22 (n := 23) rfl ⟨by decide, by decide⟩ h0.2.2.2.2.2.2.1.2.2.1 (by omega) (hF _ _ _ (h0.2.2.2.2.2.2.1.2.2.2.1 v1 (by omega) (by omega)).1) ?_
    refine q_iload_n C dX11_drop_23 (n := 24) rfl rfl ?_
    refine q_callVv C dX11_drop_24 (n := 27) rfl m_X11_259 v_yX4_takeOut (h0.2.2.2.2.2.2.1.2.2.2.1 v1 (by omega) (by omega)).2.1 ⟨by decide, rfl⟩ (c_X4_takeOut (w := w) (J := J) hI hF (h0.2.2.2.2.2.2.1.2.2.2.1 v1 (by omega) (by omega)).2 v2 (by omega) ((p3).1 v1 (by omega) (by omega))) (Nat.le_of_ble_eq_true rfl) rfl rfl (Nat.le_of_ble_eq_true rfl) ⟨Nat.le_refl _, Nat.le_refl _⟩ (fun M7 J8  hI9 h10 => ?_)
    obtain ⟨hk11, h6⟩ := h10
    have hK12 := hK0.tr (zKp.ofr hk11 (fun c k h1 h2 => hg30 c k (by omega) (by omega))) (by decide)
    refine q_aload_n C dX11_drop_27 (n := 28) rfl rfl ?_
    refine q_callVv C dX11_drop_28 (n := 31) rfl m_X11_76 v_yX11_forgetStudy h0.1 ⟨by decide, rfl⟩ (c_X11_forgetStudy (w := w) (J := J8) hI9 hF h0 (by assumption)) (Nat.le_of_ble_eq_true rfl) rfl rfl (Nat.le_of_ble_eq_true rfl) ⟨Nat.le_refl _, Nat.le_refl _⟩ (fun M13 J14  hI15 h16 => ?_)
    have hK18 := hK12.tr h16 (by decide)
    refine q_aload_n C dX11_drop_31 (n := 32) rfl rfl ?_
    refine q_getR C dX11_drop_32 (n := 35) rfl f_X11_20 h0.1 (hF _ _ _ h0.2.2.2.2.2.1) ?_
    refine q_getR C dX11_drop_35 (n := 38) rfl f_X11_66 h0.2.2.2.2.2.2.1.1 (hF _ _ _ h0.2.2.2.2.2.2.1.2.1) ?_
    refine q_iload_n C dX11_drop_38 (n := 39) rfl rfl ?_
    refine q_aald C dX11_drop_39 (n := 40) rfl ⟨by decide, by decide⟩ h0.2.2.2.2.2.2.1.2.2.1 (by omega) (hF _ _ _ (h0.2.2.2.2.2.2.1.2.2.2.1 v1 (by omega) (by omega)).1) ?_
    have g19 := zI.at hI9 (h0.2.2.2.2.2.2.1.2.2.2.1 v1 (by omega) (by omega)).2.2.2.2.2.2.2.2.2.2.2.1
    refine q_getI C dX11_drop_40 (n := 43) rfl f_X11_79 (h0.2.2.2.2.2.2.1.2.2.2.1 v1 (by omega) (by omega)).2.1 (v := M7 (a + 2 + 9 + 4 * (v1 : Int).toNat) 3) (h16 _ _ (zle_t (h0.2.2.2.2.2.2.1.2.2.2.1 v1 (by omega) (by omega)).2.2.2.2.2.2.2.2.2.2.2.1 (by decide))) ?_
    have hci20 : zCI M13 a := (zCI.kp (zCI.pg (k := v1) p3 hk11 (by omega) h6) h0 h16 (by decide))
    exact q_iret C dX11_drop_43 ⟨rfl, rfl⟩ (by rw [hPo]; exact ⟨M7 (a + 2 + 9 + 4 * (v1 : Int).toNat) 3, M13, J14, rfl, rfl, hI15, hK18, (by have hz : M13 a 1 = M a 1 := ((h16 _ _ (zle_t h0.2.2.2.2.1 (by decide))).trans (hk11 _ _ (by omega))); omega), (fun j => ((h16 _ _ (zle_t (h0.2.2.2.1 j) (by decide))).trans (hk11 _ _ (by omega)))), (fun j => ((h16 _ _ (zle_t (h0.2.2.2.2.2.2.2.2.2.2.2.2.1 j) (by decide))).trans (hk11 _ _ (by omega)))), hci20⟩)
  · refine q_iconst C dX11_drop_12 (n := 13) rfl ?_
    exact q_iret C dX11_drop_13 ⟨rfl, rfl⟩ (by rw [hPo]; exact ⟨(-1), M, J, rfl, rfl, hI, hK0, (by have hz : M a 1 = M a 1 := rfl; omega), (fun j => rfl), (fun j => rfl), p3⟩)
theorem c_X11_image {w : zWp} {T : zTl} {M : zMm} {J : zJm} {R : zRm'} {G : zGt} {F : zRm'} {a : Nat} (hI : zI G M) (hF : zF F R) (h0 : zHideSets T F G a) (v1 : Int) (hg30 : ∀ (c : Nat) (k : Int), a ≤ c → c < a + 836 → (G c k).1 < 30) (p1 : -2147483648 ≤ v1 ∧ v1 ≤ 2147483647) (p2 : zCI M a) : zCt w 3 0 0 yX11_image cX11_image 2 (some .boolean) [.ref (w.2.1 + a), zi v1] (T, M, J, R) (zPi T R G (fun x M2 => (zKp G 30 M M2) ∧ (x = 0 ∨ x = 1) ∧ (x = 0 ∧ (v1 < 0 ∨ 2 ≤ v1) ∨ x = 1 ∧ 0 ≤ v1 ∧ v1 < 2) ∧ (M2 a 1 = M a 1) ∧ (∀ j : Int, M2 (a + 1) j = M (a + 1) j) ∧ (∀ j : Int, M2 (a + 28) j = M (a + 28) j ∨ j = v1 ∧ x = 1 ∧ M2 (a + 28) j = 1) ∧ (x = 1 → M2 (a + 28) v1 = 1) ∧ (zCI M2 a))) := by
  refine zCt.of rfl (Nat.le_of_ble_eq_true rfl) ?_
  intro p e s m args below meth c C
  obtain ⟨Po, hPo⟩ : ∃ Po, Po = zPi T R G (fun x M2 => (zKp G 30 M M2) ∧ (x = 0 ∨ x = 1) ∧ (x = 0 ∧ (v1 < 0 ∨ 2 ≤ v1) ∨ x = 1 ∧ 0 ≤ v1 ∧ v1 < 2) ∧ (M2 a 1 = M a 1) ∧ (∀ j : Int, M2 (a + 1) j = M (a + 1) j) ∧ (∀ j : Int, M2 (a + 28) j = M (a + 28) j ∨ j = v1 ∧ x = 1 ∧ M2 (a + 28) j = 1) ∧ (x = 1 → M2 (a + 28) v1 = 1) ∧ (zCI M2 a)) := ⟨_, rfl⟩
  rw [← hPo]
  have hK0 : zKp G 30 M M := zKp.rf
  show zK w p e 3 0 0 s m args below meth c 2 T Po 0 [.ref (w.2.1 + a), zi v1] [] (T, M, J, R)
  refine q_iload_n C dX11_image_0 (n := 1) rfl rfl ?_
  refine q_if_lt C 13 dX11_image_1 (n := 4) rfl rfl (by omega) (fun h1 => ?_) (fun h1 => ?_)
  · refine q_iconst C dX11_image_13 (n := 14) rfl ?_
    exact q_zret C dX11_image_14 ⟨rfl, rfl⟩ (by omega) (by rw [hPo]; exact ⟨0, M, J, rfl, rfl, hI, hK0, by omega, by omega, (by have hz : M a 1 = M a 1 := rfl; omega), (fun j => rfl), (fun j => Or.inl rfl), (fun h => absurd h (by omega)), p2⟩)
  · refine q_iload_n C dX11_image_4 (n := 5) rfl rfl ?_
    refine q_aload_n C dX11_image_5 (n := 6) rfl rfl ?_
    refine q_getR C dX11_image_6 (n := 9) rfl f_X11_24 h0.1 (hF _ _ _ h0.2.2.2.2.2.2.2.1) ?_
    refine q_alen C dX11_image_9 (n := 10) rfl ⟨by decide, by decide⟩ h0.2.2.2.2.2.2.2.2.1 ?_
    show zK w p e 3 0 0 s m args below meth c 2 T Po 10 [.ref (w.2.1 + a), zi v1] [zi 2, zi v1] (T, M, J, R)
    refine q_icmp_lt C 15 dX11_image_10 (n := 13) rfl rfl (by omega) (fun h2 => ?_) (fun h2 => ?_)
    · refine q_aload_n C dX11_image_15 (n := 16) rfl rfl ?_
      refine q_getR C dX11_image_16 (n := 19) rfl f_X11_24 h0.1 (hF _ _ _ h0.2.2.2.2.2.2.2.1) ?_
      refine q_iload_n C dX11_image_19 (n := 20) rfl rfl ?_
      refine q_aald C dX11_image_20 (n := 21) rfl ⟨by decide, by decide⟩ h0.2.2.2.2.2.2.2.2.1 (by omega) (hF _ _ _ (h0.2.2.2.2.2.2.2.2.2.1 v1 (by omega) (by omega)).1) ?_
      refine q_aload_n C dX11_image_21 (n := 22) rfl rfl ?_
      refine q_getR C dX11_image_22 (n := 25) rfl f_X11_20 h0.1 (hF _ _ _ h0.2.2.2.2.2.1) ?_
      refine q_callVv C dX11_image_25 (n := 28) rfl m_X11_262 v_yX7_copy (h0.2.2.2.2.2.2.2.2.2.1 v1 (by omega) (by omega)).2.1 ⟨by decide, rfl⟩ (c_X7_copy (w := w) (J := J) hI hF (h0.2.2.2.2.2.2.2.2.2.1 v1 (by omega) (by omega)).2 h0.2.2.2.2.2.2.1 (p2).1 (by omega)) (Nat.le_of_ble_eq_true rfl) rfl rfl (Nat.le_of_ble_eq_true rfl) ⟨Nat.le_refl _, Nat.le_refl _⟩ (fun M4 J5  hI6 h7 => ?_)
      obtain ⟨hk8, h3⟩ := h7
      have hK9 := hK0.tr (zKp.ofr hk8 (fun c k h1 h2 => hg30 c k (by omega) (by omega))) (by decide)
      refine q_aload_n C dX11_image_28 (n := 29) rfl rfl ?_
      refine q_getR C dX11_image_29 (n := 32) rfl f_X11_28 h0.1 (hF _ _ _ h0.2.2.2.2.2.2.2.2.2.2.1) ?_
      refine q_iload_n C dX11_image_32 (n := 33) rfl rfl ?_
      refine q_iconst C dX11_image_33 (n := 34) rfl ?_
      refine q_zast C dX11_image_34 (n := 35) rfl h0.2.2.2.2.2.2.2.2.2.2.2.1 (by omega) (by omega) (fun M10 e11 => ?_)
      have hI12 : zI G M10 := hI6.put e11 (h0.2.2.2.2.2.2.2.2.2.2.2.2.1 v1) rfl (by omega)
      have hK13 := hK9.put e11 (h0.2.2.2.2.2.2.2.2.2.2.2.2.1 v1) (by decide)
      refine q_iconst C dX11_image_35 (n := 36) rfl ?_
      have hci14 : zCI M10 a := (zCI.up (zCI.img (k := v1) p2 hk8 (by omega) h3) e11 (by decide))
      exact q_zret C dX11_image_36 ⟨rfl, rfl⟩ (by omega) (by rw [hPo]; exact ⟨1, M10, J5, rfl, rfl, hI12, hK13, by omega, by omega, (by have hz : M10 a 1 = M a 1 := ((zup_p e11 (by omega) _).trans (hk8 _ _ (by omega))); omega), (fun j => ((zup_p e11 (by omega) _).trans (hk8 _ _ (by omega)))), (fun j => (Decidable.em (j = v1)).elim (fun hj => Or.inr ⟨hj, by omega, by rw [hj]; exact zup_s e11⟩) (fun hj => Or.inl ((zup_n e11 (fun z => hj z.2)).trans (hk8 _ _ (by omega))))), (fun _ => zup_s e11), hci14⟩)
    · refine q_iconst C dX11_image_13 (n := 14) rfl ?_
      exact q_zret C dX11_image_14 ⟨rfl, rfl⟩ (by omega) (by rw [hPo]; exact ⟨0, M, J, rfl, rfl, hI, hK0, by omega, by omega, (by have hz : M a 1 = M a 1 := rfl; omega), (fun j => rfl), (fun j => Or.inl rfl), (fun h => absurd h (by omega)), p2⟩)
theorem c_X11_restore {w : zWp} {T : zTl} {M : zMm} {J : zJm} {R : zRm'} {G : zGt} {F : zRm'} {a : Nat} (hI : zI G M) (hF : zF F R) (h0 : zHideSets T F G a) (v1 : Int) (hst : R a 8 = none ∨ ∃ sy, R a 8 = some sy ∧ zStudy T F G sy) (hg30 : ∀ (c : Nat) (k : Int), a ≤ c → c < a + 836 → (G c k).1 < 30) (p1 : -2147483648 ≤ v1 ∧ v1 ≤ 2147483647) (p2 : zCI M a) : zCt w 3 0 0 yX11_restore cX11_restore 2 (some .boolean) [.ref (w.2.1 + a), zi v1] (T, M, J, R) (zPi T R G (fun x M2 => (zKp G 30 M M2) ∧ (x = 0 ∨ x = 1) ∧ (x = 1 ∧ 0 ≤ v1 ∧ v1 < 2 ∧ M (a + 28) v1 = 1 ∨ x = 0 ∧ (v1 < 0 ∨ 2 ≤ v1 ∨ M (a + 28) v1 = 0)) ∧ (M2 a 1 = M a 1) ∧ (∀ j : Int, M2 (a + 1) j = M (a + 1) j) ∧ (∀ j : Int, M2 (a + 28) j = M (a + 28) j) ∧ (zCI M2 a))) := by
  refine zCt.of rfl (Nat.le_of_ble_eq_true rfl) ?_
  intro p e s m args below meth c C
  obtain ⟨Po, hPo⟩ : ∃ Po, Po = zPi T R G (fun x M2 => (zKp G 30 M M2) ∧ (x = 0 ∨ x = 1) ∧ (x = 1 ∧ 0 ≤ v1 ∧ v1 < 2 ∧ M (a + 28) v1 = 1 ∨ x = 0 ∧ (v1 < 0 ∨ 2 ≤ v1 ∨ M (a + 28) v1 = 0)) ∧ (M2 a 1 = M a 1) ∧ (∀ j : Int, M2 (a + 1) j = M (a + 1) j) ∧ (∀ j : Int, M2 (a + 28) j = M (a + 28) j) ∧ (zCI M2 a)) := ⟨_, rfl⟩
  rw [← hPo]
  have hK0 : zKp G 30 M M := zKp.rf
  show zK w p e 3 0 0 s m args below meth c 2 T Po 0 [.ref (w.2.1 + a), zi v1] [] (T, M, J, R)
  refine q_iload_n C dX11_restore_0 (n := 1) rfl rfl ?_
  have J_2 : (v1 < 0 ∨ 2 ≤ v1 ∨ M (a + 28) v1 = 0) → zK w p e 3 0 0 s m args below meth c 2 T Po 22 [.null, .null] [] (T, M, J, R) := by
    intro h1
    refine q_iconst C dX11_restore_22 (n := 23) rfl ?_
    exact q_zret C dX11_restore_23 ⟨rfl, rfl⟩ (by omega) (by rw [hPo]; exact ⟨0, M, J, rfl, rfl, hI, hK0, by omega, by omega, (by have hz : M a 1 = M a 1 := rfl; omega), (fun j => rfl), (fun j => rfl), p2⟩)
  refine q_if_lt C 22 dX11_restore_1 (n := 4) rfl rfl (by omega) (fun h3 => ?_) (fun h3 => ?_)
  · exact zK.weak (J_2 (by omega)) (zwk_n (zwk_n zwk_e))
  · refine q_iload_n C dX11_restore_4 (n := 5) rfl rfl ?_
    refine q_aload_n C dX11_restore_5 (n := 6) rfl rfl ?_
    refine q_getR C dX11_restore_6 (n := 9) rfl f_X11_24 h0.1 (hF _ _ _ h0.2.2.2.2.2.2.2.1) ?_
    refine q_alen C dX11_restore_9 (n := 10) rfl ⟨by decide, by decide⟩ h0.2.2.2.2.2.2.2.2.1 ?_
    show zK w p e 3 0 0 s m args below meth c 2 T Po 10 [.ref (w.2.1 + a), zi v1] [zi 2, zi v1] (T, M, J, R)
    refine q_icmp_ge C 22 dX11_restore_10 (n := 13) rfl rfl (by omega) (fun h4 => ?_) (fun h4 => ?_)
    · exact zK.weak (J_2 (by omega)) (zwk_n (zwk_n zwk_e))
    · refine q_aload_n C dX11_restore_13 (n := 14) rfl rfl ?_
      refine q_getR C dX11_restore_14 (n := 17) rfl f_X11_28 h0.1 (hF _ _ _ h0.2.2.2.2.2.2.2.2.2.2.1) ?_
      refine q_iload_n C dX11_restore_17 (n := 18) rfl rfl ?_
      have g5 := zI.at hI (h0.2.2.2.2.2.2.2.2.2.2.2.2.1 v1)
      refine q_zald C dX11_restore_18 (n := 19) rfl h0.2.2.2.2.2.2.2.2.2.2.2.1 (by omega) (v := M (a + 28) v1) rfl ?_
      refine q_if_ne C 24 dX11_restore_19 (n := 22) rfl rfl (by omega) (fun h6 => ?_) (fun h6 => ?_)
      · refine q_aload_n C dX11_restore_24 (n := 25) rfl rfl ?_
        refine q_getR C dX11_restore_25 (n := 28) rfl f_X11_20 h0.1 (hF _ _ _ h0.2.2.2.2.2.1) ?_
        refine q_aload_n C dX11_restore_28 (n := 29) rfl rfl ?_
        refine q_getR C dX11_restore_29 (n := 32) rfl f_X11_24 h0.1 (hF _ _ _ h0.2.2.2.2.2.2.2.1) ?_
        refine q_iload_n C dX11_restore_32 (n := 33) rfl rfl ?_
        refine q_aald C dX11_restore_33 (n := 34) rfl ⟨by decide, by decide⟩ h0.2.2.2.2.2.2.2.2.1 (by omega) (hF _ _ _ (h0.2.2.2.2.2.2.2.2.2.1 v1 (by omega) (by omega)).1) ?_
        refine q_callVv C dX11_restore_34 (n := 37) rfl m_X11_262 v_yX7_copy h0.2.2.2.2.2.2.1.1 ⟨by decide, rfl⟩ (c_X7_copy (w := w) (J := J) hI hF h0.2.2.2.2.2.2.1 (h0.2.2.2.2.2.2.2.2.2.1 v1 (by omega) (by omega)).2 ((p2).2 v1 (by omega) (by omega)) (by omega)) (Nat.le_of_ble_eq_true rfl) rfl rfl (Nat.le_of_ble_eq_true rfl) ⟨Nat.le_refl _, Nat.le_refl _⟩ (fun M8 J9  hI10 h11 => ?_)
        obtain ⟨hk12, h7⟩ := h11
        have hK13 := hK0.tr (zKp.ofr hk12 (fun c k h1 h2 => hg30 c k (by omega) (by omega))) (by decide)
        refine q_aload_n C dX11_restore_37 (n := 38) rfl rfl ?_
        refine q_callVv C dX11_restore_38 (n := 41) rfl m_X11_76 v_yX11_forgetStudy h0.1 ⟨by decide, rfl⟩ (c_X11_forgetStudy (w := w) (J := J9) hI10 hF h0 (by assumption)) (Nat.le_of_ble_eq_true rfl) rfl rfl (Nat.le_of_ble_eq_true rfl) ⟨Nat.le_refl _, Nat.le_refl _⟩ (fun M14 J15  hI16 h17 => ?_)
        have hK19 := hK13.tr h17 (by decide)
        refine q_iconst C dX11_restore_41 (n := 42) rfl ?_
        have hci20 : zCI M14 a := (zCI.kp (zCI.res p2 hk12 h7) h0 h17 (by decide))
        exact q_zret C dX11_restore_42 ⟨rfl, rfl⟩ (by omega) (by rw [hPo]; exact ⟨1, M14, J15, rfl, rfl, hI16, hK19, by omega, by omega, (by have hz : M14 a 1 = M a 1 := ((h17 _ _ (zle_t h0.2.2.2.2.1 (by decide))).trans (hk12 _ _ (by omega))); omega), (fun j => ((h17 _ _ (zle_t (h0.2.2.2.1 j) (by decide))).trans (hk12 _ _ (by omega)))), (fun j => ((h17 _ _ (zle_t (h0.2.2.2.2.2.2.2.2.2.2.2.2.1 j) (by decide))).trans (hk12 _ _ (by omega)))), hci20⟩)
      · exact zK.weak (J_2 (by omega)) (zwk_n (zwk_n zwk_e))
