theorem c_X11_putNumber {w : zWp} {T : zTl} {M : zMm} {J : zJm} {R : zRm'} {G : zGt} {F : zRm'} {a : Nat} (hI : zI G M) (hF : zF F R) (h0 : zHideSets T F G a) (v1 : Int) (p1 : M a 1 ≤ 436) : zCt w 1 0 0 yX11_putNumber cX11_putNumber 3 none [.ref (w.2.1 + a), zi v1] (T, M, J, R) (zPv T R G (fun M2 => (zKp G 20 M M2) ∧ (M2 a 1 = M a 1 + 4))) := by
  refine zCt.of rfl (Nat.le_of_ble_eq_true rfl) ?_
  intro p e s m args below meth c C
  obtain ⟨Po, hPo⟩ : ∃ Po, Po = zPv T R G (fun M2 => (zKp G 20 M M2) ∧ (M2 a 1 = M a 1 + 4)) := ⟨_, rfl⟩
  rw [← hPo]
  have hK0 : zKp G 20 M M := zKp.rf
  show zK w p e 1 0 0 s m args below meth c 3 T Po 0 [.ref (w.2.1 + a), zi v1, .null] [] (T, M, J, R)
  refine q_bipush C dX11_putNumber_0 (n := 2) rfl (x := 24) (by decide) ?_
  refine q_istore_n C [.ref (w.2.1 + a), zi v1, zi 24] dX11_putNumber_2 (n := 3) rfl rfl rfl ?_
  have L_9 : ∀ n10 : Nat, ∀ (u1 : Int) (M2 : zMm) (J3 : zJm), zI G M2 → zKp G 20 M M2 → (-2147483648 ≤ u1 ∧ u1 ≤ 2147483647) → (-8 ≤ u1 ∧ u1 ≤ 24) → (8 * (M2 a 1) + u1 = 8 * (M a 1) + 24) → (u1 + 9 ≤ (n10 : Int)) → zK w p e 1 0 0 s m args below meth c 3 T Po 3 [.ref (w.2.1 + a), zi v1, zi u1] [] (T, M2, J3, R) := by
    intro n10
    induction n10 with
    | zero =>
      intro u1 M2 J3 hI4 hK5 h6 h7 h8 hm12
      exfalso
      omega
    | succ n10 ih11 =>
      intro u1 M2 J3 hI4 hK5 h6 h7 h8 hm12
      refine q_iload_n C dX11_putNumber_3 (n := 4) rfl rfl ?_
      have J_14 : (8 * (M2 a 1) = 8 * (M a 1) + 32) → zK w p e 1 0 0 s m args below meth c 3 T Po 46 [.null, .null, .null] [] (T, M2, J3, R) := by
        intro h13
        exact q_vret C dX11_putNumber_46 ⟨rfl, rfl⟩ (by rw [hPo]; exact ⟨M2, J3, rfl, rfl, hI4, hK5, (by have hz : M2 a 1 = M2 a 1 := rfl; omega)⟩)
      refine q_if_lt C 46 dX11_putNumber_4 (n := 7) rfl rfl (by omega) (fun h15 => ?_) (fun h15 => ?_)
      · exact zK.weak (J_14 (by have hz : M2 a 1 = M2 a 1 := rfl; omega)) (zwk_n (zwk_n (zwk_n zwk_e)))
      · refine q_aload_n C dX11_putNumber_7 (n := 8) rfl rfl ?_
        have g16 := zI.at hI4 h0.2.2.2.2.1
        refine q_getI C dX11_putNumber_8 (n := 11) rfl f_X11_13 h0.1 (v := M2 a 1) rfl ?_
        refine q_sipush C dX11_putNumber_11 (n := 14) rfl (x := 440) (by decide) ?_
        refine q_icmp_ge C 46 dX11_putNumber_14 (n := 17) rfl rfl (by omega) (fun h17 => ?_) (fun h17 => ?_)
        · exact zK.weak (J_14 (by have hz : M2 a 1 = M2 a 1 := rfl; omega)) (zwk_n (zwk_n (zwk_n zwk_e)))
        · refine q_aload_n C dX11_putNumber_17 (n := 18) rfl rfl ?_
          refine q_getR C dX11_putNumber_18 (n := 21) rfl f_X11_9 h0.1 (hF _ _ _ h0.2.1) ?_
          refine q_aload_n C dX11_putNumber_21 (n := 22) rfl rfl ?_
          refine q_getI C dX11_putNumber_22 (n := 25) rfl f_X11_13 h0.1 (v := M2 a 1) rfl ?_
          refine q_iload_n C dX11_putNumber_25 (n := 26) rfl rfl ?_
          refine q_iload_n C dX11_putNumber_26 (n := 27) rfl rfl ?_
          refine q_ishr C dX11_putNumber_27 (n := 28) rfl (v := zshr v1 u1) rfl ?_
          have g18 := zr_shr v1 u1
          refine q_i2b C dX11_putNumber_28 (n := 29) rfl (v := zi2b (zshr v1 u1)) rfl ?_
          have g19 := z8_r (zshr v1 u1)
          refine q_bast C dX11_putNumber_29 (n := 30) rfl h0.2.2.1 (by omega) (by omega) (fun M20 e21 => ?_)
          have hI22 : zI G M20 := hI4.put e21 (h0.2.2.2.1 (M2 a 1)) rfl (by omega)
          have hK23 := hK5.put e21 (h0.2.2.2.1 (M2 a 1)) (by decide)
          refine q_aload_n C dX11_putNumber_30 (n := 31) rfl rfl ?_
          refine q_dup C dX11_putNumber_31 (n := 32) rfl rfl ?_
          refine q_getI C dX11_putNumber_32 (n := 35) rfl f_X11_13 h0.1 (v := M2 a 1) (zup_p e21 (by omega) _) ?_
          refine q_iconst C dX11_putNumber_35 (n := 36) rfl ?_
          refine q_iadd C dX11_putNumber_36 (n := 37) rfl (v := (M2 a 1) + 1) rfl ?_
          refine q_putI C dX11_putNumber_37 (n := 40) rfl f_X11_13 h0.1 ⟨rfl, rfl⟩ (fun M24 (e25 : M24 = zup M20 a 1 ((M2 a 1) + 1)) => ?_)
          have hI26 : zI G M24 := hI22.put e25 h0.2.2.2.2.1 rfl (by omega)
          have hK27 := hK23.put e25 h0.2.2.2.2.1 (by decide)
          refine q_iinc C [.ref (w.2.1 + a), zi v1, zi (u1 + (-8))] dX11_putNumber_40 (n := 43) rfl rfl rfl rfl ?_
          refine q_goto C 3 dX11_putNumber_43 rfl ?_
          exact zK.weak (ih11 (u1 + (-8)) M24 J3 hI26 hK27 (by omega) (by omega) (by have hz : M24 a 1 = (M2 a 1) + 1 := (zup_s e25); omega) (by omega)) (zwk_c (zwk_c (zwk_c zwk_e)))
  exact zK.weak (L_9 _ 24 M J hI hK0 (by omega) (by omega) (by have hz : M a 1 = M a 1 := rfl; omega) (Int.self_le_toNat _)) (zwk_c (zwk_c (zwk_c zwk_e)))
theorem c_X11_feed {w : zWp} {T : zTl} {M : zMm} {J : zJm} {R : zRm'} {G : zGt} {F : zRm'} {a : Nat} (hI : zI G M) (hF : zF F R) (h0 : zHideSets T F G a) (v1 : Int) (v2 : Int) (v3 : Int) (v4 : Int) (v5 : Int) : zCt w 2 0 0 yX11_feed cX11_feed 6 (some .int) [.ref (w.2.1 + a), zi v1, zi v2, zi v3, zi v4, zi v5] (T, M, J, R) (zPi T R G (fun x M2 => (zKp G 20 M M2) ∧ (440 < M a 1 + 20 ∧ x = -1 ∧ M2 a 1 = M a 1 ∨ M a 1 + 20 ≤ 440 ∧ x = M a 1 + 20 ∧ M2 a 1 = M a 1 + 20))) := by
  refine zCt.of rfl (Nat.le_of_ble_eq_true rfl) ?_
  intro p e s m args below meth c C
  obtain ⟨Po, hPo⟩ : ∃ Po, Po = zPi T R G (fun x M2 => (zKp G 20 M M2) ∧ (440 < M a 1 + 20 ∧ x = -1 ∧ M2 a 1 = M a 1 ∨ M a 1 + 20 ≤ 440 ∧ x = M a 1 + 20 ∧ M2 a 1 = M a 1 + 20)) := ⟨_, rfl⟩
  rw [← hPo]
  have hK0 : zKp G 20 M M := zKp.rf
  show zK w p e 2 0 0 s m args below meth c 6 T Po 0 [.ref (w.2.1 + a), zi v1, zi v2, zi v3, zi v4, zi v5] [] (T, M, J, R)
  refine q_aload_n C dX11_feed_0 (n := 1) rfl rfl ?_
  have g1 := zI.at hI h0.2.2.2.2.1
  refine q_getI C dX11_feed_1 (n := 4) rfl f_X11_13 h0.1 (v := M a 1) rfl ?_
  refine q_bipush C dX11_feed_4 (n := 6) rfl (x := 20) (by decide) ?_
  refine q_iadd C dX11_feed_6 (n := 7) rfl (v := (M a 1) + 20) rfl ?_
  refine q_sipush C dX11_feed_7 (n := 10) rfl (x := 440) (by decide) ?_
  refine q_icmp_le C 15 dX11_feed_10 (n := 13) rfl rfl (by omega) (fun h2 => ?_) (fun h2 => ?_)
  · refine q_aload_n C dX11_feed_15 (n := 16) rfl rfl ?_
    refine q_iload_n C dX11_feed_16 (n := 17) rfl rfl ?_
    refine q_callVv C dX11_feed_17 (n := 20) rfl m_X11_51 v_yX11_putNumber h0.1 ⟨by decide, rfl⟩ (c_X11_putNumber (w := w) (J := J) hI hF h0 v1 (by omega)) (Nat.le_of_ble_eq_true rfl) rfl rfl (Nat.le_of_ble_eq_true rfl) ⟨Nat.le_refl _, Nat.le_refl _⟩ (fun M4 J5  hI6 h7 => ?_)
    obtain ⟨hk8, h3⟩ := h7
    have hK9 := hK0.tr hk8 (by decide)
    refine q_aload_n C dX11_feed_20 (n := 21) rfl rfl ?_
    refine q_iload_n C dX11_feed_21 (n := 22) rfl rfl ?_
    refine q_callVv C dX11_feed_22 (n := 25) rfl m_X11_51 v_yX11_putNumber h0.1 ⟨by decide, rfl⟩ (c_X11_putNumber (w := w) (J := J5) hI6 hF h0 v2 (by omega)) (Nat.le_of_ble_eq_true rfl) rfl rfl (Nat.le_of_ble_eq_true rfl) ⟨Nat.le_refl _, Nat.le_refl _⟩ (fun M11 J12  hI13 h14 => ?_)
    obtain ⟨hk15, h10⟩ := h14
    have hK16 := hK9.tr hk15 (by decide)
    refine q_aload_n C dX11_feed_25 (n := 26) rfl rfl ?_
    refine q_iload_n C dX11_feed_26 (n := 27) rfl rfl ?_
    refine q_callVv C dX11_feed_27 (n := 30) rfl m_X11_51 v_yX11_putNumber h0.1 ⟨by decide, rfl⟩ (c_X11_putNumber (w := w) (J := J12) hI13 hF h0 v3 (by omega)) (Nat.le_of_ble_eq_true rfl) rfl rfl (Nat.le_of_ble_eq_true rfl) ⟨Nat.le_refl _, Nat.le_refl _⟩ (fun M18 J19  hI20 h21 => ?_)
    obtain ⟨hk22, h17⟩ := h21
    have hK23 := hK16.tr hk22 (by decide)
    refine q_aload_n C dX11_feed_30 (n := 31) rfl rfl ?_
    refine q_iload C dX11_feed_31 (n := 33) rfl rfl ?_
    refine q_callVv C dX11_feed_33 (n := 36) rfl m_X11_51 v_yX11_putNumber h0.1 ⟨by decide, rfl⟩ (c_X11_putNumber (w := w) (J := J19) hI20 hF h0 v4 (by omega)) (Nat.le_of_ble_eq_true rfl) rfl rfl (Nat.le_of_ble_eq_true rfl) ⟨Nat.le_refl _, Nat.le_refl _⟩ (fun M25 J26  hI27 h28 => ?_)
    obtain ⟨hk29, h24⟩ := h28
    have hK30 := hK23.tr hk29 (by decide)
    refine q_aload_n C dX11_feed_36 (n := 37) rfl rfl ?_
    refine q_iload C dX11_feed_37 (n := 39) rfl rfl ?_
    refine q_callVv C dX11_feed_39 (n := 42) rfl m_X11_51 v_yX11_putNumber h0.1 ⟨by decide, rfl⟩ (c_X11_putNumber (w := w) (J := J26) hI27 hF h0 v5 (by omega)) (Nat.le_of_ble_eq_true rfl) rfl rfl (Nat.le_of_ble_eq_true rfl) ⟨Nat.le_refl _, Nat.le_refl _⟩ (fun M32 J33  hI34 h35 => ?_)
    obtain ⟨hk36, h31⟩ := h35
    have hK37 := hK30.tr hk36 (by decide)
    refine q_aload_n C dX11_feed_42 (n := 43) rfl rfl ?_
    have g38 := zI.at hI34 h0.2.2.2.2.1
    refine q_getI C dX11_feed_43 (n := 46) rfl f_X11_13 h0.1 (v := M32 a 1) rfl ?_
    exact q_iret C dX11_feed_46 ⟨rfl, rfl⟩ (by rw [hPo]; exact ⟨M32 a 1, M32, J33, rfl, rfl, hI34, hK37, (by have hz : M32 a 1 = M32 a 1 := rfl; omega)⟩)
  · refine q_iconst C dX11_feed_13 (n := 14) rfl ?_
    exact q_iret C dX11_feed_14 ⟨rfl, rfl⟩ (by rw [hPo]; exact ⟨(-1), M, J, rfl, rfl, hI, hK0, (by have hz : M a 1 = M a 1 := rfl; omega)⟩)
theorem c_X11_end {w : zWp} {T : zTl} {M : zMm} {J : zJm} {R : zRm'} {G : zGt} {F : zRm'} {a : Nat} (hI : zI G M) (hF : zF F R) (h0 : zHideSets T F G a) (v1 : Int) (p1 : -2147483648 ≤ v1 ∧ v1 ≤ 2147483647) : zCt w 1 0 0 yX11_end cX11_end 2 (some .boolean) [.ref (w.2.1 + a), zi v1] (T, M, J, R) (zPi T R G (fun x M2 => (zKp G 20 M M2) ∧ (x = 0 ∨ x = 1) ∧ ((v1 < 0 ∨ M a 1 < v1) ∧ x = 0 ∧ M2 a 1 = M a 1 ∨ 0 ≤ v1 ∧ v1 ≤ M a 1 ∧ x = 1 ∧ M2 a 1 = v1))) := by
  refine zCt.of rfl (Nat.le_of_ble_eq_true rfl) ?_
  intro p e s m args below meth c C
  obtain ⟨Po, hPo⟩ : ∃ Po, Po = zPi T R G (fun x M2 => (zKp G 20 M M2) ∧ (x = 0 ∨ x = 1) ∧ ((v1 < 0 ∨ M a 1 < v1) ∧ x = 0 ∧ M2 a 1 = M a 1 ∨ 0 ≤ v1 ∧ v1 ≤ M a 1 ∧ x = 1 ∧ M2 a 1 = v1)) := ⟨_, rfl⟩
  rw [← hPo]
  have hK0 : zKp G 20 M M := zKp.rf
  show zK w p e 1 0 0 s m args below meth c 2 T Po 0 [.ref (w.2.1 + a), zi v1] [] (T, M, J, R)
  refine q_iload_n C dX11_end_0 (n := 1) rfl rfl ?_
  have J_2 : (v1 < 0 ∨ M a 1 < v1) → zK w p e 1 0 0 s m args below meth c 2 T Po 12 [.null, .null] [] (T, M, J, R) := by
    intro h1
    refine q_iconst C dX11_end_12 (n := 13) rfl ?_
    exact q_zret C dX11_end_13 ⟨rfl, rfl⟩ (by omega) (by rw [hPo]; exact ⟨0, M, J, rfl, rfl, hI, hK0, by omega, (by have hz : M a 1 = M a 1 := rfl; omega)⟩)
  refine q_if_lt C 12 dX11_end_1 (n := 4) rfl rfl (by omega) (fun h3 => ?_) (fun h3 => ?_)
  · exact zK.weak (J_2 (by omega)) (zwk_n (zwk_n zwk_e))
  · refine q_iload_n C dX11_end_4 (n := 5) rfl rfl ?_
    refine q_aload_n C dX11_end_5 (n := 6) rfl rfl ?_
    have g4 := zI.at hI h0.2.2.2.2.1
    refine q_getI C dX11_end_6 (n := 9) rfl f_X11_13 h0.1 (v := M a 1) rfl ?_
    refine q_icmp_le C 14 dX11_end_9 (n := 12) rfl rfl (by omega) (fun h5 => ?_) (fun h5 => ?_)
    · refine q_aload_n C dX11_end_14 (n := 15) rfl rfl ?_
      refine q_iload_n C dX11_end_15 (n := 16) rfl rfl ?_
      refine q_putI C dX11_end_16 (n := 19) rfl f_X11_13 h0.1 ⟨rfl, rfl⟩ (fun M6 (e7 : M6 = zup M a 1 v1) => ?_)
      have hI8 : zI G M6 := hI.put e7 h0.2.2.2.2.1 rfl (by omega)
      have hK9 := hK0.put e7 h0.2.2.2.2.1 (by decide)
      refine q_iconst C dX11_end_19 (n := 20) rfl ?_
      exact q_zret C dX11_end_20 ⟨rfl, rfl⟩ (by omega) (by rw [hPo]; exact ⟨1, M6, J, rfl, rfl, hI8, hK9, by omega, (by have hz : M6 a 1 = v1 := (zup_s e7); omega)⟩)
    · exact zK.weak (J_2 (by omega)) (zwk_n (zwk_n zwk_e))
theorem c_X11_takeTape {w : zWp} {T : zTl} {M : zMm} {J : zJm} {R : zRm'} {G : zGt} {F : zRm'} {a : Nat} (hI : zI G M) (hF : zF F R) (h0 : zHideSets T F G a) : zCt w 1 0 0 yX11_takeTape cX11_takeTape 2 (some .int) [.ref (w.2.1 + a)] (T, M, J, R) (zPi T R G (fun x M2 => (zKp G 20 M M2) ∧ (0 ≤ x ∧ x ≤ 440) ∧ (M2 a 1 = 0))) := by
  refine zCt.of rfl (Nat.le_of_ble_eq_true rfl) ?_
  intro p e s m args below meth c C
  obtain ⟨Po, hPo⟩ : ∃ Po, Po = zPi T R G (fun x M2 => (zKp G 20 M M2) ∧ (0 ≤ x ∧ x ≤ 440) ∧ (M2 a 1 = 0)) := ⟨_, rfl⟩
  rw [← hPo]
  have hK0 : zKp G 20 M M := zKp.rf
  show zK w p e 1 0 0 s m args below meth c 2 T Po 0 [.ref (w.2.1 + a), .null] [] (T, M, J, R)
  refine q_aload_n C dX11_takeTape_0 (n := 1) rfl rfl ?_
  have g1 := zI.at hI h0.2.2.2.2.1
  refine q_getI C dX11_takeTape_1 (n := 4) rfl f_X11_13 h0.1 (v := M a 1) rfl ?_
  refine q_istore_n C [.ref (w.2.1 + a), zi (M a 1)] dX11_takeTape_4 (n := 5) rfl rfl rfl ?_
  refine q_aload_n C dX11_takeTape_5 (n := 6) rfl rfl ?_
  refine q_iconst C dX11_takeTape_6 (n := 7) rfl ?_
  refine q_putI C dX11_takeTape_7 (n := 10) rfl f_X11_13 h0.1 ⟨rfl, rfl⟩ (fun M2 (e3 : M2 = zup M a 1 0) => ?_)
  have hI4 : zI G M2 := hI.put e3 h0.2.2.2.2.1 rfl (by omega)
  have hK5 := hK0.put e3 h0.2.2.2.2.1 (by decide)
  refine q_iload_n C dX11_takeTape_10 (n := 11) rfl rfl ?_
  exact q_iret C dX11_takeTape_11 ⟨rfl, rfl⟩ (by rw [hPo]; exact ⟨M a 1, M2, J, rfl, rfl, hI4, hK5, by omega, (by have hz : M2 a 1 = 0 := (zup_s e3); omega)⟩)
theorem c_X11_wrongByte {w : zWp} {T : zTl} {M : zMm} {J : zJm} {R : zRm'} {G : zGt} {F : zRm'} {a : Nat} (hI : zI G M) (hF : zF F R) (h0 : zHideSets T F G a) (v1 : Int) (v2 : Int) (p1 : 0 ≤ v1 ∧ v1 ≤ 440) (p2 : -2147483648 ≤ v2 ∧ v2 ≤ 2147483647) : zCt w 1 0 0 yX11_wrongByte cX11_wrongByte 4 (some .int) [.ref (w.2.1 + a), zi v1, zi v2] (T, M, J, R) (zPp T M J R (fun x => (-1 ≤ x ∧ x ≤ 440))) := by
  refine zCt.of rfl (Nat.le_of_ble_eq_true rfl) ?_
  intro p e s m args below meth c C
  obtain ⟨Po, hPo⟩ : ∃ Po, Po = zPp T M J R (fun x => (-1 ≤ x ∧ x ≤ 440)) := ⟨_, rfl⟩
  rw [← hPo]
  show zK w p e 1 0 0 s m args below meth c 4 T Po 0 [.ref (w.2.1 + a), zi v1, zi v2, .null] [] (T, M, J, R)
  refine q_iconst C dX11_wrongByte_0 (n := 1) rfl ?_
  refine q_istore_n C [.ref (w.2.1 + a), zi v1, zi v2, zi 0] dX11_wrongByte_1 (n := 2) rfl rfl rfl ?_
  have L_4 : ∀ n5 : Nat, ∀ (u1 : Int), (-2147483648 ≤ u1 ∧ u1 ≤ 2147483647) → (0 ≤ u1 ∧ u1 ≤ 440) → (440 - u1 + 1 ≤ (n5 : Int)) → zK w p e 1 0 0 s m args below meth c 4 T Po 2 [.ref (w.2.1 + a), zi v1, zi v2, zi u1] [] (T, M, J, R) := by
    intro n5
    induction n5 with
    | zero =>
      intro u1 h2 h3 hm7
      exfalso
      omega
    | succ n5 ih6 =>
      intro u1 h2 h3 hm7
      refine q_iload_n C dX11_wrongByte_2 (n := 3) rfl rfl ?_
      refine q_iload_n C dX11_wrongByte_3 (n := 4) rfl rfl ?_
      refine q_icmp_ge C 54 dX11_wrongByte_4 (n := 7) rfl rfl (by omega) (fun h8 => ?_) (fun h8 => ?_)
      · refine q_iconst C dX11_wrongByte_54 (n := 55) rfl ?_
        exact q_iret C dX11_wrongByte_55 ⟨rfl, rfl⟩ (by rw [hPo]; exact ⟨(-1), rfl, rfl, by omega⟩)
      · refine q_iload_n C dX11_wrongByte_7 (n := 8) rfl rfl ?_
        refine q_sipush C dX11_wrongByte_8 (n := 11) rfl (x := 440) (by decide) ?_
        refine q_icmp_ge C 54 dX11_wrongByte_11 (n := 14) rfl rfl (by omega) (fun h9 => ?_) (fun h9 => ?_)
        · refine q_iconst C dX11_wrongByte_54 (n := 55) rfl ?_
          exact q_iret C dX11_wrongByte_55 ⟨rfl, rfl⟩ (by rw [hPo]; exact ⟨(-1), rfl, rfl, by omega⟩)
        · refine q_aload_n C dX11_wrongByte_14 (n := 15) rfl rfl ?_
          refine q_getR C dX11_wrongByte_15 (n := 18) rfl f_X11_9 h0.1 (hF _ _ _ h0.2.1) ?_
          refine q_iload_n C dX11_wrongByte_18 (n := 19) rfl rfl ?_
          have g10 := zI.at hI (h0.2.2.2.1 u1)
          refine q_bald C dX11_wrongByte_19 (n := 20) rfl h0.2.2.1 (by omega) (v := M (a + 1) u1) rfl ?_
          refine q_bipush C dX11_wrongByte_20 (n := 22) rfl (x := 32) (by decide) ?_
          have J_11 : zK w p e 1 0 0 s m args below meth c 4 T Po 48 [.ref (w.2.1 + a), zi v1, zi v2, zi u1] [] (T, M, J, R) := by
            refine q_iinc C [.ref (w.2.1 + a), zi v1, zi v2, zi (u1 + 1)] dX11_wrongByte_48 (n := 51) rfl rfl rfl rfl ?_
            refine q_goto C 2 dX11_wrongByte_51 rfl ?_
            exact zK.weak (ih6 (u1 + 1) (by omega) (by omega) (by omega)) (zwk_c (zwk_c (zwk_c (zwk_c zwk_e))))
          have J_12 : zK w p e 1 0 0 s m args below meth c 4 T Po 36 [.ref (w.2.1 + a), zi v1, zi v2, zi u1] [] (T, M, J, R) := by
            refine q_aload_n C dX11_wrongByte_36 (n := 37) rfl rfl ?_
            refine q_getR C dX11_wrongByte_37 (n := 40) rfl f_X11_9 h0.1 (hF _ _ _ h0.2.1) ?_
            refine q_iload_n C dX11_wrongByte_40 (n := 41) rfl rfl ?_
            refine q_bald C dX11_wrongByte_41 (n := 42) rfl h0.2.2.1 (by omega) (v := M (a + 1) u1) rfl ?_
            refine q_iload_n C dX11_wrongByte_42 (n := 43) rfl rfl ?_
            refine q_icmp_eq C 48 dX11_wrongByte_43 (n := 46) rfl rfl (by omega) (fun h13 => ?_) (fun h13 => ?_)
            · exact zK.weak (J_11) (zwk_c (zwk_c (zwk_c (zwk_c zwk_e))))
            · refine q_iload_n C dX11_wrongByte_46 (n := 47) rfl rfl ?_
              exact q_iret C dX11_wrongByte_47 ⟨rfl, rfl⟩ (by rw [hPo]; exact ⟨u1, rfl, rfl, by omega⟩)
          refine q_icmp_lt C 36 dX11_wrongByte_22 (n := 25) rfl rfl (by omega) (fun h14 => ?_) (fun h14 => ?_)
          · exact zK.weak (J_12) (zwk_c (zwk_c (zwk_c (zwk_c zwk_e))))
          · refine q_aload_n C dX11_wrongByte_25 (n := 26) rfl rfl ?_
            refine q_getR C dX11_wrongByte_26 (n := 29) rfl f_X11_9 h0.1 (hF _ _ _ h0.2.1) ?_
            refine q_iload_n C dX11_wrongByte_29 (n := 30) rfl rfl ?_
            refine q_bald C dX11_wrongByte_30 (n := 31) rfl h0.2.2.1 (by omega) (v := M (a + 1) u1) rfl ?_
            refine q_bipush C dX11_wrongByte_31 (n := 33) rfl (x := 126) (by decide) ?_
            refine q_icmp_le C 48 dX11_wrongByte_33 (n := 36) rfl rfl (by omega) (fun h15 => ?_) (fun h15 => ?_)
            · exact zK.weak (J_11) (zwk_c (zwk_c (zwk_c (zwk_c zwk_e))))
            · exact zK.weak (J_12) (zwk_c (zwk_c (zwk_c (zwk_c zwk_e))))
  exact zK.weak (L_4 _ 0 (by omega) (by omega) (Int.self_le_toNat _)) (zwk_c (zwk_c (zwk_c (zwk_c zwk_e))))
theorem c_X11_linesOnTape {w : zWp} {T : zTl} {M : zMm} {J : zJm} {R : zRm'} {G : zGt} {F : zRm'} {a : Nat} (hI : zI G M) (hF : zF F R) (h0 : zHideSets T F G a) (v1 : Int) (p1 : 0 ≤ v1 ∧ v1 ≤ 440) : zCt w 1 0 0 yX11_linesOnTape cX11_linesOnTape 4 (some .int) [.ref (w.2.1 + a), zi v1] (T, M, J, R) (zPp T M J R (fun x => (0 ≤ x ∧ x ≤ 440))) := by
  refine zCt.of rfl (Nat.le_of_ble_eq_true rfl) ?_
  intro p e s m args below meth c C
  obtain ⟨Po, hPo⟩ : ∃ Po, Po = zPp T M J R (fun x => (0 ≤ x ∧ x ≤ 440)) := ⟨_, rfl⟩
  rw [← hPo]
  show zK w p e 1 0 0 s m args below meth c 4 T Po 0 [.ref (w.2.1 + a), zi v1, .null, .null] [] (T, M, J, R)
  refine q_iconst C dX11_linesOnTape_0 (n := 1) rfl ?_
  refine q_istore_n C [.ref (w.2.1 + a), zi v1, zi 0, .null] dX11_linesOnTape_1 (n := 2) rfl rfl rfl ?_
  refine q_iconst C dX11_linesOnTape_2 (n := 3) rfl ?_
  refine q_istore_n C [.ref (w.2.1 + a), zi v1, zi 0, zi 0] dX11_linesOnTape_3 (n := 4) rfl rfl rfl ?_
  have L_7 : ∀ n8 : Nat, ∀ (u1 : Int) (u2 : Int), (-2147483648 ≤ u1 ∧ u1 ≤ 2147483647) → (-2147483648 ≤ u2 ∧ u2 ≤ 2147483647) → (0 ≤ u2 ∧ u2 ≤ 440) → (0 ≤ u1 ∧ u1 ≤ u2) → (440 - u2 + 1 ≤ (n8 : Int)) → zK w p e 1 0 0 s m args below meth c 4 T Po 4 [.ref (w.2.1 + a), zi v1, zi u1, zi u2] [] (T, M, J, R) := by
    intro n8
    induction n8 with
    | zero =>
      intro u1 u2 h3 h4 h5 h6 hm10
      exfalso
      omega
    | succ n8 ih9 =>
      intro u1 u2 h3 h4 h5 h6 hm10
      refine q_iload_n C dX11_linesOnTape_4 (n := 5) rfl rfl ?_
      refine q_iload_n C dX11_linesOnTape_5 (n := 6) rfl rfl ?_
      refine q_icmp_ge C 43 dX11_linesOnTape_6 (n := 9) rfl rfl (by omega) (fun h11 => ?_) (fun h11 => ?_)
      · refine q_iload_n C dX11_linesOnTape_43 (n := 44) rfl rfl ?_
        exact q_iret C dX11_linesOnTape_44 ⟨rfl, rfl⟩ (by rw [hPo]; exact ⟨u1, rfl, rfl, by omega⟩)
      · refine q_iload_n C dX11_linesOnTape_9 (n := 10) rfl rfl ?_
        refine q_sipush C dX11_linesOnTape_10 (n := 13) rfl (x := 440) (by decide) ?_
        refine q_icmp_ge C 43 dX11_linesOnTape_13 (n := 16) rfl rfl (by omega) (fun h12 => ?_) (fun h12 => ?_)
        · refine q_iload_n C dX11_linesOnTape_43 (n := 44) rfl rfl ?_
          exact q_iret C dX11_linesOnTape_44 ⟨rfl, rfl⟩ (by rw [hPo]; exact ⟨u1, rfl, rfl, by omega⟩)
        · refine q_aload_n C dX11_linesOnTape_16 (n := 17) rfl rfl ?_
          refine q_getR C dX11_linesOnTape_17 (n := 20) rfl f_X11_9 h0.1 (hF _ _ _ h0.2.1) ?_
          refine q_iload_n C dX11_linesOnTape_20 (n := 21) rfl rfl ?_
          have g13 := zI.at hI (h0.2.2.2.1 u2)
          refine q_bald C dX11_linesOnTape_21 (n := 22) rfl h0.2.2.1 (by omega) (v := M (a + 1) u2) rfl ?_
          refine q_bipush C dX11_linesOnTape_22 (n := 24) rfl (x := 10) (by decide) ?_
          have J_17 : ∀ (u14 : Int), (-2147483648 ≤ u14 ∧ u14 ≤ 2147483647) → (0 ≤ u14 ∧ u14 ≤ u2 + 1) → zK w p e 1 0 0 s m args below meth c 4 T Po 37 [.ref (w.2.1 + a), zi v1, zi u14, zi u2] [] (T, M, J, R) := by
            intro u14 h15 h16
            refine q_iinc C [.ref (w.2.1 + a), zi v1, zi u14, zi (u2 + 1)] dX11_linesOnTape_37 (n := 40) rfl rfl rfl rfl ?_
            refine q_goto C 4 dX11_linesOnTape_40 rfl ?_
            exact zK.weak (ih9 u14 (u2 + 1) (by omega) (by omega) (by omega) (by omega) (by omega)) (zwk_c (zwk_c (zwk_c (zwk_c zwk_e))))
          have J_18 : zK w p e 1 0 0 s m args below meth c 4 T Po 34 [.ref (w.2.1 + a), zi v1, zi u1, zi u2] [] (T, M, J, R) := by
            refine q_iinc C [.ref (w.2.1 + a), zi v1, zi (u1 + 1), zi u2] dX11_linesOnTape_34 (n := 37) rfl rfl rfl rfl ?_
            exact zK.weak (J_17 (u1 + 1) (by omega) (by omega)) (zwk_c (zwk_c (zwk_c (zwk_c zwk_e))))
          refine q_icmp_eq C 34 dX11_linesOnTape_24 (n := 27) rfl rfl (by omega) (fun h19 => ?_) (fun h19 => ?_)
          · exact zK.weak (J_18) (zwk_c (zwk_c (zwk_c (zwk_c zwk_e))))
          · refine q_iload_n C dX11_linesOnTape_27 (n := 28) rfl rfl ?_
            refine q_iload_n C dX11_linesOnTape_28 (n := 29) rfl rfl ?_
            refine q_iconst C dX11_linesOnTape_29 (n := 30) rfl ?_
            refine q_isub C dX11_linesOnTape_30 (n := 31) rfl (v := v1 - 1) rfl ?_
            refine q_icmp_ne C 37 dX11_linesOnTape_31 (n := 34) rfl rfl (by omega) (fun h20 => ?_) (fun h20 => ?_)
            · exact zK.weak (J_17 u1 (by omega) (by omega)) (zwk_c (zwk_c (zwk_c (zwk_c zwk_e))))
            · exact zK.weak (J_18) (zwk_c (zwk_c (zwk_c (zwk_c zwk_e))))
  exact zK.weak (L_7 _ 0 0 (by omega) (by omega) (by omega) (by omega) (Int.self_le_toNat _)) (zwk_c (zwk_c (zwk_c (zwk_c zwk_e))))
theorem c_X11_set {w : zWp} {T : zTl} {M : zMm} {J : zJm} {R : zRm'} {G : zGt} {F : zRm'} {a : Nat} (hI : zI G M) (hF : zF F R) (h0 : zHideSets T F G a) (v1 : Int) (p1 : -2147483648 ≤ v1 ∧ v1 ≤ 2147483647) : zCt w 2 0 0 yX11_set cX11_set 2 (some .int) [.ref (w.2.1 + a), zi v1] (T, M, J, R) (zPi T R G (fun x M2 => (zKp G 19 M M2) ∧ (M2 a 1 = M a 1))) := by
  refine zCt.of rfl (Nat.le_of_ble_eq_true rfl) ?_
  intro p e s m args below meth c C
  obtain ⟨Po, hPo⟩ : ∃ Po, Po = zPi T R G (fun x M2 => (zKp G 19 M M2) ∧ (M2 a 1 = M a 1)) := ⟨_, rfl⟩
  rw [← hPo]
  have hK0 : zKp G 19 M M := zKp.rf
  show zK w p e 2 0 0 s m args below meth c 2 T Po 0 [.ref (w.2.1 + a), zi v1] [] (T, M, J, R)
  refine q_aload_n C dX11_set_0 (n := 1) rfl rfl ?_
  refine q_getR C dX11_set_1 (n := 4) rfl f_X11_20 h0.1 (hF _ _ _ h0.2.2.2.2.2.1) ?_
  refine q_iload_n C dX11_set_4 (n := 5) rfl rfl ?_
  refine q_callVp C dX11_set_5 (n := 8) rfl m_X11_92 v_yX7_hasSetting h0.2.2.2.2.2.2.1.1 ⟨by decide, rfl⟩ (c_X7_hasSetting (w := w) (J := J) hI hF h0.2.2.2.2.2.2.1 v1 (by omega)) (Nat.le_of_ble_eq_true rfl) rfl rfl (Nat.le_of_ble_eq_true rfl) ⟨Nat.le_refl _, Nat.le_refl _⟩ (fun x3 h4 => ?_)
  obtain ⟨h1, h2⟩ := h4
  refine q_if_ne C 13 dX11_set_8 (n := 11) rfl rfl (by omega) (fun h5 => ?_) (fun h5 => ?_)
  · refine q_aload_n C dX11_set_13 (n := 14) rfl rfl ?_
    refine q_getR C dX11_set_14 (n := 17) rfl f_X11_20 h0.1 (hF _ _ _ h0.2.2.2.2.2.1) ?_
    refine q_iload_n C dX11_set_17 (n := 18) rfl rfl ?_
    refine q_putI C dX11_set_18 (n := 21) rfl f_X11_96 h0.2.2.2.2.2.2.1.1 ⟨rfl, rfl⟩ (fun M6 (e7 : M6 = zup M (a + 2) 4 v1) => ?_)
    have hI8 : zI G M6 := hI.put e7 h0.2.2.2.2.2.2.1.2.2.2.2.2.2.2.2.2.2.2.1 rfl (by omega)
    have hK9 := hK0.put e7 h0.2.2.2.2.2.2.1.2.2.2.2.2.2.2.2.2.2.2.1 (by decide)
    refine q_iconst C dX11_set_21 (n := 22) rfl ?_
    exact q_iret C dX11_set_22 ⟨rfl, rfl⟩ (by rw [hPo]; exact ⟨0, M6, J, rfl, rfl, hI8, hK9, (by have hz : M6 a 1 = M a 1 := (zup_p e7 (by omega) _); omega)⟩)
  · refine q_iconst C dX11_set_11 (n := 12) rfl ?_
    exact q_iret C dX11_set_12 ⟨rfl, rfl⟩ (by rw [hPo]; exact ⟨(-1), M, J, rfl, rfl, hI, hK0, (by have hz : M a 1 = M a 1 := rfl; omega)⟩)
theorem c_X11_fault {w : zWp} {T : zTl} {M : zMm} {J : zJm} {R : zRm'} {G : zGt} {F : zRm'} {a : Nat} (hI : zI G M) (hF : zF F R) (h0 : zHideSets T F G a) (v1 : Int) (p1 : -2147483648 ≤ v1 ∧ v1 ≤ 2147483647) : zCt w 2 0 0 yX11_fault cX11_fault 4 (some .int) [.ref (w.2.1 + a), zi v1] (T, M, J, R) (zPp T M J R (fun x => True)) := by
  refine zCt.of rfl (Nat.le_of_ble_eq_true rfl) ?_
  intro p e s m args below meth c C
  obtain ⟨Po, hPo⟩ : ∃ Po, Po = zPp T M J R (fun x => True) := ⟨_, rfl⟩
  rw [← hPo]
  show zK w p e 2 0 0 s m args below meth c 4 T Po 0 [.ref (w.2.1 + a), zi v1, .null, .null] [] (T, M, J, R)
  refine q_aload_n C dX11_fault_0 (n := 1) rfl rfl ?_
  refine q_getR C dX11_fault_1 (n := 4) rfl f_X11_43 h0.1 (hF _ _ _ h0.2.2.2.2.2.2.2.2.2.2.2.2.2.2.2.2.2.1) ?_
  refine q_getR C dX11_fault_4 (n := 7) rfl f_X11_111 h0.2.2.2.2.2.2.2.2.2.2.2.2.2.2.2.2.2.2.1.1 (hF _ _ _ h0.2.2.2.2.2.2.2.2.2.2.2.2.2.2.2.2.2.2.1.2.2.2.1) ?_
  have g1 := zI.at hI h0.2.2.2.2.2.2.2.2.2.2.2.2.2.2.2.2.2.2.1.2.2.2.2.1.2.1
  refine q_getI C dX11_fault_7 (n := 10) rfl f_X11_115 h0.2.2.2.2.2.2.2.2.2.2.2.2.2.2.2.2.2.2.1.2.2.2.2.1.1 (v := M (a + 30 + 1) 0) rfl ?_
  refine q_istore_n C [.ref (w.2.1 + a), zi v1, zi (M (a + 30 + 1) 0), .null] dX11_fault_10 (n := 11) rfl rfl rfl ?_
  refine q_aload_n C dX11_fault_11 (n := 12) rfl rfl ?_
  refine q_getR C dX11_fault_12 (n := 15) rfl f_X11_43 h0.1 (hF _ _ _ h0.2.2.2.2.2.2.2.2.2.2.2.2.2.2.2.2.2.1) ?_
  refine q_getR C dX11_fault_15 (n := 18) rfl f_X11_111 h0.2.2.2.2.2.2.2.2.2.2.2.2.2.2.2.2.2.2.1.1 (hF _ _ _ h0.2.2.2.2.2.2.2.2.2.2.2.2.2.2.2.2.2.2.1.2.2.2.1) ?_
  have g2 := zI.at hI h0.2.2.2.2.2.2.2.2.2.2.2.2.2.2.2.2.2.2.1.2.2.2.2.1.2.2
  refine q_getI C dX11_fault_18 (n := 21) rfl f_X11_127 h0.2.2.2.2.2.2.2.2.2.2.2.2.2.2.2.2.2.2.1.2.2.2.2.1.1 (v := M (a + 30 + 1) 1) rfl ?_
  refine q_istore_n C [.ref (w.2.1 + a), zi v1, zi (M (a + 30 + 1) 0), zi (M (a + 30 + 1) 1)] dX11_fault_21 (n := 22) rfl rfl rfl ?_
  refine q_iload_n C dX11_fault_22 (n := 23) rfl rfl ?_
  refine q_if_ne C 28 dX11_fault_23 (n := 26) rfl rfl (by omega) (fun h3 => ?_) (fun h3 => ?_)
  · refine q_iload_n C dX11_fault_28 (n := 29) rfl rfl ?_
    refine q_if_ne C 34 dX11_fault_29 (n := 32) rfl rfl (by omega) (fun h4 => ?_) (fun h4 => ?_)
    · refine q_iload_n C dX11_fault_34 (n := 35) rfl rfl ?_
      by_cases h5 : v1 = 1
      · refine q_tabIn C 60 dX11_fault_35 h5 (by omega) rfl rfl ?_
        refine q_iload_n C dX11_fault_60 (n := 61) rfl rfl ?_
        refine q_callSp C dX11_fault_61 (n := 64) rfl m_X11_130 s_yX5_fileOf (c_X5_fileOf (w := w) (J := J) hI hF (M (a + 30 + 1) 1)) (Nat.le_of_ble_eq_true rfl) rfl rfl (Nat.le_of_ble_eq_true rfl) ⟨Nat.le_refl _, Nat.le_refl _⟩ (fun x7 h8 => ?_)
        exact q_iret C dX11_fault_64 ⟨rfl, rfl⟩ (by rw [hPo]; exact ⟨x7, rfl, rfl, trivial⟩)
      by_cases h9 : v1 = 2
      · refine q_tabIn C 65 dX11_fault_35 h9 (by omega) rfl rfl ?_
        refine q_iload_n C dX11_fault_65 (n := 66) rfl rfl ?_
        refine q_callSp C dX11_fault_66 (n := 69) rfl m_X11_133 s_yX5_lineOf (c_X5_lineOf (w := w) (J := J) hI hF (M (a + 30 + 1) 1)) (Nat.le_of_ble_eq_true rfl) rfl rfl (Nat.le_of_ble_eq_true rfl) ⟨Nat.le_refl _, Nat.le_refl _⟩ (fun x11 h12 => ?_)
        exact q_iret C dX11_fault_69 ⟨rfl, rfl⟩ (by rw [hPo]; exact ⟨x11, rfl, rfl, trivial⟩)
      by_cases h13 : v1 = 3
      · refine q_tabIn C 70 dX11_fault_35 h13 (by omega) rfl rfl ?_
        refine q_iload_n C dX11_fault_70 (n := 71) rfl rfl ?_
        refine q_callSp C dX11_fault_71 (n := 74) rfl m_X11_136 s_yX5_placeOf (c_X5_placeOf (w := w) (J := J) hI hF (M (a + 30 + 1) 1)) (Nat.le_of_ble_eq_true rfl) rfl rfl (Nat.le_of_ble_eq_true rfl) ⟨Nat.le_refl _, Nat.le_refl _⟩ (fun x15 h16 => ?_)
        exact q_iret C dX11_fault_74 ⟨rfl, rfl⟩ (by rw [hPo]; exact ⟨x15, rfl, rfl, trivial⟩)
      refine q_tabOut C 75 dX11_fault_35 (by omega) (by omega) rfl ?_
      refine q_iconst C dX11_fault_75 (n := 76) rfl ?_
      exact q_iret C dX11_fault_76 ⟨rfl, rfl⟩ (by rw [hPo]; exact ⟨(-1), rfl, rfl, trivial⟩)
    · refine q_iconst C dX11_fault_32 (n := 33) rfl ?_
      exact q_iret C dX11_fault_33 ⟨rfl, rfl⟩ (by rw [hPo]; exact ⟨(-1), rfl, rfl, trivial⟩)
  · refine q_iload_n C dX11_fault_26 (n := 27) rfl rfl ?_
    exact q_iret C dX11_fault_27 ⟨rfl, rfl⟩ (by rw [hPo]; exact ⟨M (a + 30 + 1) 0, rfl, rfl, trivial⟩)
theorem c_X11_tokenAt {w : zWp} {T : zTl} {M : zMm} {J : zJm} {R : zRm'} {G : zGt} {F : zRm'} {a : Nat} (hI : zI G M) (hF : zF F R) (h0 : zHideSets T F G a) (v1 : Int) (v2 : Int) (p1 : -2147483648 ≤ v1 ∧ v1 ≤ 2147483647) (p2 : -2147483648 ≤ v2 ∧ v2 ≤ 2147483647) : zCt w 2 0 0 yX11_tokenAt cX11_tokenAt 3 (some .int) [.ref (w.2.1 + a), zi v1, zi v2] (T, M, J, R) (zPp T M J R (fun x => True)) := by
  refine zCt.of rfl (Nat.le_of_ble_eq_true rfl) ?_
  intro p e s m args below meth c C
  obtain ⟨Po, hPo⟩ : ∃ Po, Po = zPp T M J R (fun x => True) := ⟨_, rfl⟩
  rw [← hPo]
  show zK w p e 2 0 0 s m args below meth c 3 T Po 0 [.ref (w.2.1 + a), zi v1, zi v2] [] (T, M, J, R)
  refine q_iload_n C dX11_tokenAt_0 (n := 1) rfl rfl ?_
  refine q_if_lt C 41 dX11_tokenAt_1 (n := 4) rfl rfl (by omega) (fun h1 => ?_) (fun h1 => ?_)
  · refine q_iconst C dX11_tokenAt_41 (n := 42) rfl ?_
    exact q_iret C dX11_tokenAt_42 ⟨rfl, rfl⟩ (by rw [hPo]; exact ⟨(-1), rfl, rfl, trivial⟩)
  · refine q_iload_n C dX11_tokenAt_4 (n := 5) rfl rfl ?_
    refine q_aload_n C dX11_tokenAt_5 (n := 6) rfl rfl ?_
    refine q_getR C dX11_tokenAt_6 (n := 9) rfl f_X11_43 h0.1 (hF _ _ _ h0.2.2.2.2.2.2.2.2.2.2.2.2.2.2.2.2.2.1) ?_
    refine q_getR C dX11_tokenAt_9 (n := 12) rfl f_X11_120 h0.2.2.2.2.2.2.2.2.2.2.2.2.2.2.2.2.2.2.1.1 (hF _ _ _ h0.2.2.2.2.2.2.2.2.2.2.2.2.2.2.2.2.2.2.1.2.2.2.2.2.2.2.1) ?_
    have g2 := zI.at hI h0.2.2.2.2.2.2.2.2.2.2.2.2.2.2.2.2.2.2.1.2.2.2.2.2.2.2.2.1.2.2.2.2.2.2.2.2.2.2
    refine q_getI C dX11_tokenAt_12 (n := 15) rfl f_X11_124 h0.2.2.2.2.2.2.2.2.2.2.2.2.2.2.2.2.2.2.1.2.2.2.2.2.2.2.2.1.1 (v := M (a + 30 + 2) 3) rfl ?_
    refine q_icmp_ge C 41 dX11_tokenAt_15 (n := 18) rfl rfl (by omega) (fun h3 => ?_) (fun h3 => ?_)
    · refine q_iconst C dX11_tokenAt_41 (n := 42) rfl ?_
      exact q_iret C dX11_tokenAt_42 ⟨rfl, rfl⟩ (by rw [hPo]; exact ⟨(-1), rfl, rfl, trivial⟩)
    · refine q_iload_n C dX11_tokenAt_18 (n := 19) rfl rfl ?_
      refine q_if_lt C 41 dX11_tokenAt_19 (n := 22) rfl rfl (by omega) (fun h4 => ?_) (fun h4 => ?_)
      · refine q_iconst C dX11_tokenAt_41 (n := 42) rfl ?_
        exact q_iret C dX11_tokenAt_42 ⟨rfl, rfl⟩ (by rw [hPo]; exact ⟨(-1), rfl, rfl, trivial⟩)
      · refine q_iload_n C dX11_tokenAt_22 (n := 23) rfl rfl ?_
        refine q_aload_n C dX11_tokenAt_23 (n := 24) rfl rfl ?_
        refine q_getR C dX11_tokenAt_24 (n := 27) rfl f_X11_43 h0.1 (hF _ _ _ h0.2.2.2.2.2.2.2.2.2.2.2.2.2.2.2.2.2.1) ?_
        refine q_getR C dX11_tokenAt_27 (n := 30) rfl f_X11_120 h0.2.2.2.2.2.2.2.2.2.2.2.2.2.2.2.2.2.2.1.1 (hF _ _ _ h0.2.2.2.2.2.2.2.2.2.2.2.2.2.2.2.2.2.2.1.2.2.2.2.2.2.2.1) ?_
        refine q_getR C dX11_tokenAt_30 (n := 33) rfl f_X11_150 h0.2.2.2.2.2.2.2.2.2.2.2.2.2.2.2.2.2.2.1.2.2.2.2.2.2.2.2.1.1 (hF _ _ _ h0.2.2.2.2.2.2.2.2.2.2.2.2.2.2.2.2.2.2.1.2.2.2.2.2.2.2.2.1.2.2.2.2.1) ?_
        refine q_iload_n C dX11_tokenAt_33 (n := 34) rfl rfl ?_
        have g5 := zI.at hI (h0.2.2.2.2.2.2.2.2.2.2.2.2.2.2.2.2.2.2.1.2.2.2.2.2.2.2.2.1.2.2.2.2.2.2.1 v1)
        refine q_iald C dX11_tokenAt_34 (n := 35) rfl h0.2.2.2.2.2.2.2.2.2.2.2.2.2.2.2.2.2.2.1.2.2.2.2.2.2.2.2.1.2.2.2.2.2.1 (by omega) (v := M (a + 30 + 2 + 2) v1) rfl ?_
        refine q_callSp C dX11_tokenAt_35 (n := 38) rfl m_X11_156 s_yX5_lengthOf (c_X5_lengthOf (w := w) (J := J) hI hF (M (a + 30 + 2 + 2) v1)) (Nat.le_of_ble_eq_true rfl) rfl rfl (Nat.le_of_ble_eq_true rfl) ⟨Nat.le_refl _, Nat.le_refl _⟩ (fun x8 h9 => ?_)
        obtain ⟨h6, h7⟩ := h9
        refine q_icmp_lt C 43 dX11_tokenAt_38 (n := 41) rfl rfl (by omega) (fun h10 => ?_) (fun h10 => ?_)
        · refine q_aload_n C dX11_tokenAt_43 (n := 44) rfl rfl ?_
          refine q_getR C dX11_tokenAt_44 (n := 47) rfl f_X11_43 h0.1 (hF _ _ _ h0.2.2.2.2.2.2.2.2.2.2.2.2.2.2.2.2.2.1) ?_
          refine q_getR C dX11_tokenAt_47 (n := 50) rfl f_X11_165 h0.2.2.2.2.2.2.2.2.2.2.2.2.2.2.2.2.2.2.1.1 (hF _ _ _ h0.2.2.2.2.2.2.2.2.2.2.2.2.2.2.2.2.2.2.1.2.1) ?_
          refine q_aload_n C dX11_tokenAt_50 (n := 51) rfl rfl ?_
          refine q_getR C dX11_tokenAt_51 (n := 54) rfl f_X11_43 h0.1 (hF _ _ _ h0.2.2.2.2.2.2.2.2.2.2.2.2.2.2.2.2.2.1) ?_
          refine q_getR C dX11_tokenAt_54 (n := 57) rfl f_X11_120 h0.2.2.2.2.2.2.2.2.2.2.2.2.2.2.2.2.2.2.1.1 (hF _ _ _ h0.2.2.2.2.2.2.2.2.2.2.2.2.2.2.2.2.2.2.1.2.2.2.2.2.2.2.1) ?_
          refine q_getR C dX11_tokenAt_57 (n := 60) rfl f_X11_169 h0.2.2.2.2.2.2.2.2.2.2.2.2.2.2.2.2.2.2.1.2.2.2.2.2.2.2.2.1.1 (hF _ _ _ h0.2.2.2.2.2.2.2.2.2.2.2.2.2.2.2.2.2.2.1.2.2.2.2.2.2.2.2.1.2.1) ?_
          refine q_iload_n C dX11_tokenAt_60 (n := 61) rfl rfl ?_
          have g11 := zI.at hI (h0.2.2.2.2.2.2.2.2.2.2.2.2.2.2.2.2.2.2.1.2.2.2.2.2.2.2.2.1.2.2.2.1 v1)
          have g12 : M (a + 30 + 2 + 1) v1 + zand (M (a + 30 + 2 + 2) v1) 31 ≤ (62576 : Int) ∧ zand (M (a + 30 + 2 + 2) v1) 31 ≤ 30 := zI.row hI (h0.2.2.2.2.2.2.2.2.2.2.2.2.2.2.2.2.2.2.1.2.2.2.2.2.2.2.2.1.2.2.2.1 v1)
          refine q_iald C dX11_tokenAt_61 (n := 62) rfl h0.2.2.2.2.2.2.2.2.2.2.2.2.2.2.2.2.2.2.1.2.2.2.2.2.2.2.2.1.2.2.1 (by omega) (v := M (a + 30 + 2 + 1) v1) rfl ?_
          refine q_iload_n C dX11_tokenAt_62 (n := 63) rfl rfl ?_
          refine q_iadd C dX11_tokenAt_63 (n := 64) rfl (v := (M (a + 30 + 2 + 1) v1) + v2) rfl ?_
          refine q_callVp C dX11_tokenAt_64 (n := 67) rfl m_X11_172 v_yX10_byteAt h0.2.2.2.2.2.2.2.2.2.2.2.2.2.2.2.2.2.2.1.2.2.1.1 ⟨by decide, rfl⟩ (c_X10_byteAt (w := w) (J := J) hI hF h0.2.2.2.2.2.2.2.2.2.2.2.2.2.2.2.2.2.2.1.2.2.1 ((M (a + 30 + 2 + 1) v1) + v2) (by omega) (by omega)) (Nat.le_of_ble_eq_true rfl) rfl rfl (Nat.le_of_ble_eq_true rfl) ⟨Nat.le_refl _, Nat.le_refl _⟩ (fun x14 h15 => ?_)
          exact q_iret C dX11_tokenAt_67 ⟨rfl, rfl⟩ (by rw [hPo]; exact ⟨x14, rfl, rfl, trivial⟩)
        · refine q_iconst C dX11_tokenAt_41 (n := 42) rfl ?_
          exact q_iret C dX11_tokenAt_42 ⟨rfl, rfl⟩ (by rw [hPo]; exact ⟨(-1), rfl, rfl, trivial⟩)
theorem c_X11_macroAt {w : zWp} {T : zTl} {M : zMm} {J : zJm} {R : zRm'} {G : zGt} {F : zRm'} {a : Nat} (hI : zI G M) (hF : zF F R) (h0 : zHideSets T F G a) (v1 : Int) (v2 : Int) (p1 : -2147483648 ≤ v1 ∧ v1 ≤ 2147483647) (p2 : -2147483648 ≤ v2 ∧ v2 ≤ 2147483647) : zCt w 2 0 0 yX11_macroAt cX11_macroAt 4 (some .int) [.ref (w.2.1 + a), zi v1, zi v2] (T, M, J, R) (zPp T M J R (fun x => True)) := by
  refine zCt.of rfl (Nat.le_of_ble_eq_true rfl) ?_
  intro p e s m args below meth c C
  obtain ⟨Po, hPo⟩ : ∃ Po, Po = zPp T M J R (fun x => True) := ⟨_, rfl⟩
  rw [← hPo]
  show zK w p e 2 0 0 s m args below meth c 4 T Po 0 [.ref (w.2.1 + a), zi v1, zi v2, .null] [] (T, M, J, R)
  refine q_aload_n C dX11_macroAt_0 (n := 1) rfl rfl ?_
  refine q_getR C dX11_macroAt_1 (n := 4) rfl f_X11_43 h0.1 (hF _ _ _ h0.2.2.2.2.2.2.2.2.2.2.2.2.2.2.2.2.2.1) ?_
  refine q_getR C dX11_macroAt_4 (n := 7) rfl f_X11_177 h0.2.2.2.2.2.2.2.2.2.2.2.2.2.2.2.2.2.2.1.1 (hF _ _ _ h0.2.2.2.2.2.2.2.2.2.2.2.2.2.2.2.2.2.2.1.2.2.2.2.2.1) ?_
  refine q_astore_n C [.ref (w.2.1 + a), zi v1, zi v2, .ref (w.2.1 + (a + 30 + 24))] dX11_macroAt_7 (n := 8) rfl rfl rfl ?_
  refine q_iload_n C dX11_macroAt_8 (n := 9) rfl rfl ?_
  refine q_if_lt C 34 dX11_macroAt_9 (n := 12) rfl rfl (by omega) (fun h1 => ?_) (fun h1 => ?_)
  · refine q_iconst C dX11_macroAt_34 (n := 35) rfl ?_
    exact q_iret C dX11_macroAt_35 ⟨rfl, rfl⟩ (by rw [hPo]; exact ⟨(-1), rfl, rfl, trivial⟩)
  · refine q_iload_n C dX11_macroAt_12 (n := 13) rfl rfl ?_
    refine q_aload_n C dX11_macroAt_13 (n := 14) rfl rfl ?_
    have g2 := zI.at hI h0.2.2.2.2.2.2.2.2.2.2.2.2.2.2.2.2.2.2.1.2.2.2.2.2.2.1.2.1
    refine q_getI C dX11_macroAt_14 (n := 17) rfl f_X11_181 h0.2.2.2.2.2.2.2.2.2.2.2.2.2.2.2.2.2.2.1.2.2.2.2.2.2.1.1 (v := M (a + 30 + 24) 0) rfl ?_
    refine q_icmp_ge C 34 dX11_macroAt_17 (n := 20) rfl rfl (by omega) (fun h3 => ?_) (fun h3 => ?_)
    · refine q_iconst C dX11_macroAt_34 (n := 35) rfl ?_
      exact q_iret C dX11_macroAt_35 ⟨rfl, rfl⟩ (by rw [hPo]; exact ⟨(-1), rfl, rfl, trivial⟩)
    · refine q_iload_n C dX11_macroAt_20 (n := 21) rfl rfl ?_
      refine q_if_lt C 34 dX11_macroAt_21 (n := 24) rfl rfl (by omega) (fun h4 => ?_) (fun h4 => ?_)
      · refine q_iconst C dX11_macroAt_34 (n := 35) rfl ?_
        exact q_iret C dX11_macroAt_35 ⟨rfl, rfl⟩ (by rw [hPo]; exact ⟨(-1), rfl, rfl, trivial⟩)
      · refine q_iload_n C dX11_macroAt_24 (n := 25) rfl rfl ?_
        refine q_aload_n C dX11_macroAt_25 (n := 26) rfl rfl ?_
        refine q_getR C dX11_macroAt_26 (n := 29) rfl f_X11_200 h0.2.2.2.2.2.2.2.2.2.2.2.2.2.2.2.2.2.2.1.2.2.2.2.2.2.1.1 (hF _ _ _ h0.2.2.2.2.2.2.2.2.2.2.2.2.2.2.2.2.2.2.1.2.2.2.2.2.2.1.2.2.2.2.2.1) ?_
        refine q_iload_n C dX11_macroAt_29 (n := 30) rfl rfl ?_
        have g5 := zI.at hI (h0.2.2.2.2.2.2.2.2.2.2.2.2.2.2.2.2.2.2.1.2.2.2.2.2.2.1.2.2.2.2.2.2.2.1 v1)
        refine q_iald C dX11_macroAt_30 (n := 31) rfl h0.2.2.2.2.2.2.2.2.2.2.2.2.2.2.2.2.2.2.1.2.2.2.2.2.2.1.2.2.2.2.2.2.1 (by omega) (v := M (a + 30 + 24 + 2) v1) rfl ?_
        refine q_icmp_lt C 36 dX11_macroAt_31 (n := 34) rfl rfl (by omega) (fun h6 => ?_) (fun h6 => ?_)
        · refine q_aload_n C dX11_macroAt_36 (n := 37) rfl rfl ?_
          refine q_getR C dX11_macroAt_37 (n := 40) rfl f_X11_43 h0.1 (hF _ _ _ h0.2.2.2.2.2.2.2.2.2.2.2.2.2.2.2.2.2.1) ?_
          refine q_getR C dX11_macroAt_40 (n := 43) rfl f_X11_165 h0.2.2.2.2.2.2.2.2.2.2.2.2.2.2.2.2.2.2.1.1 (hF _ _ _ h0.2.2.2.2.2.2.2.2.2.2.2.2.2.2.2.2.2.2.1.2.1) ?_
          refine q_aload_n C dX11_macroAt_43 (n := 44) rfl rfl ?_
          refine q_getR C dX11_macroAt_44 (n := 47) rfl f_X11_203 h0.2.2.2.2.2.2.2.2.2.2.2.2.2.2.2.2.2.2.1.2.2.2.2.2.2.1.1 (hF _ _ _ h0.2.2.2.2.2.2.2.2.2.2.2.2.2.2.2.2.2.2.1.2.2.2.2.2.2.1.2.2.1) ?_
          refine q_iload_n C dX11_macroAt_47 (n := 48) rfl rfl ?_
          have g7 := zI.at hI (h0.2.2.2.2.2.2.2.2.2.2.2.2.2.2.2.2.2.2.1.2.2.2.2.2.2.1.2.2.2.2.1 v1)
          refine q_iald C dX11_macroAt_48 (n := 49) rfl h0.2.2.2.2.2.2.2.2.2.2.2.2.2.2.2.2.2.2.1.2.2.2.2.2.2.1.2.2.2.1 (by omega) (v := M (a + 30 + 24 + 1) v1) rfl ?_
          refine q_iload_n C dX11_macroAt_49 (n := 50) rfl rfl ?_
          refine q_iadd C dX11_macroAt_50 (n := 51) rfl (v := (M (a + 30 + 24 + 1) v1) + v2) rfl ?_
          refine q_callVp C dX11_macroAt_51 (n := 54) rfl m_X11_172 v_yX10_byteAt h0.2.2.2.2.2.2.2.2.2.2.2.2.2.2.2.2.2.2.1.2.2.1.1 ⟨by decide, rfl⟩ (c_X10_byteAt (w := w) (J := J) hI hF h0.2.2.2.2.2.2.2.2.2.2.2.2.2.2.2.2.2.2.1.2.2.1 ((M (a + 30 + 24 + 1) v1) + v2) (by omega) (by omega)) (Nat.le_of_ble_eq_true rfl) rfl rfl (Nat.le_of_ble_eq_true rfl) ⟨Nat.le_refl _, Nat.le_refl _⟩ (fun x9 h10 => ?_)
          exact q_iret C dX11_macroAt_54 ⟨rfl, rfl⟩ (by rw [hPo]; exact ⟨x9, rfl, rfl, trivial⟩)
        · refine q_iconst C dX11_macroAt_34 (n := 35) rfl ?_
          exact q_iret C dX11_macroAt_35 ⟨rfl, rfl⟩ (by rw [hPo]; exact ⟨(-1), rfl, rfl, trivial⟩)
theorem c_X11_now {w : zWp} {T : zTl} {M : zMm} {J : zJm} {R : zRm'} {G : zGt} {F : zRm'} {a : Nat} (hI : zI G M) (hF : zF F R) (h0 : zHideSets T F G a) (v1 : Int) (p1 : -2147483648 ≤ v1 ∧ v1 ≤ 2147483647) : zCt w 1 0 0 yX11_now cX11_now 2 (some .int) [.ref (w.2.1 + a), zi v1] (T, M, J, R) (zPp T M J R (fun x => True)) := by
  refine zCt.of rfl (Nat.le_of_ble_eq_true rfl) ?_
  intro p e s m args below meth c C
  obtain ⟨Po, hPo⟩ : ∃ Po, Po = zPp T M J R (fun x => True) := ⟨_, rfl⟩
  rw [← hPo]
  show zK w p e 1 0 0 s m args below meth c 2 T Po 0 [.ref (w.2.1 + a), zi v1] [] (T, M, J, R)
  refine q_iload_n C dX11_now_0 (n := 1) rfl rfl ?_
  refine q_if_lt C 10 dX11_now_1 (n := 4) rfl rfl (by omega) (fun h1 => ?_) (fun h1 => ?_)
  · refine q_iconst C dX11_now_10 (n := 11) rfl ?_
    exact q_iret C dX11_now_11 ⟨rfl, rfl⟩ (by rw [hPo]; exact ⟨(-1), rfl, rfl, trivial⟩)
  · refine q_iload_n C dX11_now_4 (n := 5) rfl rfl ?_
    refine q_bipush C dX11_now_5 (n := 7) rfl (x := 10) (by decide) ?_
    refine q_icmp_lt C 12 dX11_now_7 (n := 10) rfl rfl (by omega) (fun h2 => ?_) (fun h2 => ?_)
    · refine q_iload_n C dX11_now_12 (n := 13) rfl rfl ?_
      refine q_if_ne C 29 dX11_now_13 (n := 16) rfl rfl (by omega) (fun h3 => ?_) (fun h3 => ?_)
      · refine q_aload_n C dX11_now_29 (n := 30) rfl rfl ?_
        refine q_getR C dX11_now_30 (n := 33) rfl f_X11_43 h0.1 (hF _ _ _ h0.2.2.2.2.2.2.2.2.2.2.2.2.2.2.2.2.2.1) ?_
        refine q_getR C dX11_now_33 (n := 36) rfl f_X11_206 h0.2.2.2.2.2.2.2.2.2.2.2.2.2.2.2.2.2.2.1.1 (hF _ _ _ h0.2.2.2.2.2.2.2.2.2.2.2.2.2.2.2.2.2.2.1.2.2.2.2.2.2.2.2.2.1) ?_
        refine q_iload_n C dX11_now_36 (n := 37) rfl rfl ?_
        have g4 := zI.at hI (h0.2.2.2.2.2.2.2.2.2.2.2.2.2.2.2.2.2.2.1.2.2.2.2.2.2.2.2.2.2.2.1 v1)
        refine q_iald C dX11_now_37 (n := 38) rfl h0.2.2.2.2.2.2.2.2.2.2.2.2.2.2.2.2.2.2.1.2.2.2.2.2.2.2.2.2.2.1 (by omega) (v := M (a + 30 + 6) v1) rfl ?_
        exact q_iret C dX11_now_38 ⟨rfl, rfl⟩ (by rw [hPo]; exact ⟨M (a + 30 + 6) v1, rfl, rfl, trivial⟩)
      · refine q_aload_n C dX11_now_16 (n := 17) rfl rfl ?_
        refine q_getR C dX11_now_17 (n := 20) rfl f_X11_43 h0.1 (hF _ _ _ h0.2.2.2.2.2.2.2.2.2.2.2.2.2.2.2.2.2.1) ?_
        refine q_getR C dX11_now_20 (n := 23) rfl f_X11_177 h0.2.2.2.2.2.2.2.2.2.2.2.2.2.2.2.2.2.2.1.1 (hF _ _ _ h0.2.2.2.2.2.2.2.2.2.2.2.2.2.2.2.2.2.2.1.2.2.2.2.2.1) ?_
        have g5 := zI.at hI h0.2.2.2.2.2.2.2.2.2.2.2.2.2.2.2.2.2.2.1.2.2.2.2.2.2.1.2.1
        refine q_getI C dX11_now_23 (n := 26) rfl f_X11_181 h0.2.2.2.2.2.2.2.2.2.2.2.2.2.2.2.2.2.2.1.2.2.2.2.2.2.1.1 (v := M (a + 30 + 24) 0) rfl ?_
        refine q_goto C 38 dX11_now_26 rfl ?_
        exact q_iret C dX11_now_38 ⟨rfl, rfl⟩ (by rw [hPo]; exact ⟨M (a + 30 + 24) 0, rfl, rfl, trivial⟩)
    · refine q_iconst C dX11_now_10 (n := 11) rfl ?_
      exact q_iret C dX11_now_11 ⟨rfl, rfl⟩ (by rw [hPo]; exact ⟨(-1), rfl, rfl, trivial⟩)
theorem c_X11_passed {w : zWp} {T : zTl} {M : zMm} {J : zJm} {R : zRm'} {G : zGt} {F : zRm'} {a : Nat} (hI : zI G M) (hF : zF F R) (h0 : zHideSets T F G a) (v1 : Int) (v2 : Int) (p1 : -2147483648 ≤ v1 ∧ v1 ≤ 2147483647) (p2 : -2147483648 ≤ v2 ∧ v2 ≤ 2147483647) : zCt w 3 0 0 yX11_passed cX11_passed 3 (some .int) [.ref (w.2.1 + a), zi v1, zi v2] (T, M, J, R) (zPp T M J R (fun x => True)) := by
  refine zCt.of rfl (Nat.le_of_ble_eq_true rfl) ?_
  intro p e s m args below meth c C
  obtain ⟨Po, hPo⟩ : ∃ Po, Po = zPp T M J R (fun x => True) := ⟨_, rfl⟩
  rw [← hPo]
  show zK w p e 3 0 0 s m args below meth c 3 T Po 0 [.ref (w.2.1 + a), zi v1, zi v2] [] (T, M, J, R)
  refine q_aload_n C dX11_passed_0 (n := 1) rfl rfl ?_
  refine q_getR C dX11_passed_1 (n := 4) rfl f_X11_20 h0.1 (hF _ _ _ h0.2.2.2.2.2.1) ?_
  refine q_iload_n C dX11_passed_4 (n := 5) rfl rfl ?_
  refine q_iload_n C dX11_passed_5 (n := 6) rfl rfl ?_
  refine q_callVp C dX11_passed_6 (n := 9) rfl m_X11_209 v_yX7_hasLine h0.2.2.2.2.2.2.1.1 ⟨by decide, rfl⟩ (c_X7_hasLine (w := w) (J := J) hI hF h0.2.2.2.2.2.2.1 v1 v2 (by omega) (by omega)) (Nat.le_of_ble_eq_true rfl) rfl rfl (Nat.le_of_ble_eq_true rfl) ⟨Nat.le_refl _, Nat.le_refl _⟩ (fun x3 h4 => ?_)
  obtain ⟨h1, h2⟩ := h4
  refine q_if_ne C 14 dX11_passed_9 (n := 12) rfl rfl (by omega) (fun h5 => ?_) (fun h5 => ?_)
  · refine q_aload_n C dX11_passed_14 (n := 15) rfl rfl ?_
    refine q_getR C dX11_passed_15 (n := 18) rfl f_X11_43 h0.1 (hF _ _ _ h0.2.2.2.2.2.2.2.2.2.2.2.2.2.2.2.2.2.1) ?_
    refine q_getR C dX11_passed_18 (n := 21) rfl f_X11_213 h0.2.2.2.2.2.2.2.2.2.2.2.2.2.2.2.2.2.2.1.1 (hF _ _ _ h0.2.2.2.2.2.2.2.2.2.2.2.2.2.2.2.2.2.2.1.2.2.2.2.2.2.2.2.2.2.2.2.1) ?_
    refine q_iload_n C dX11_passed_21 (n := 22) rfl rfl ?_
    refine q_bipush C dX11_passed_22 (n := 24) rfl (x := 40) (by decide) ?_
    refine q_imul C dX11_passed_24 (n := 25) rfl (v := v1 * 40) rfl ?_
    refine q_iload_n C dX11_passed_25 (n := 26) rfl rfl ?_
    refine q_iadd C dX11_passed_26 (n := 27) rfl (v := (v1 * 40) + v2) rfl ?_
    have g6 := zI.at hI (h0.2.2.2.2.2.2.2.2.2.2.2.2.2.2.2.2.2.2.1.2.2.2.2.2.2.2.2.2.2.2.2.2.2.1 ((v1 * 40) + v2))
    refine q_iald C dX11_passed_27 (n := 28) rfl h0.2.2.2.2.2.2.2.2.2.2.2.2.2.2.2.2.2.2.1.2.2.2.2.2.2.2.2.2.2.2.2.2.1 (by omega) (v := M (a + 30 + 7) ((v1 * 40) + v2)) rfl ?_
    exact q_iret C dX11_passed_28 ⟨rfl, rfl⟩ (by rw [hPo]; exact ⟨M (a + 30 + 7) ((v1 * 40) + v2), rfl, rfl, trivial⟩)
  · refine q_iconst C dX11_passed_12 (n := 13) rfl ?_
    exact q_iret C dX11_passed_13 ⟨rfl, rfl⟩ (by rw [hPo]; exact ⟨(-1), rfl, rfl, trivial⟩)
theorem c_X11_guardAt {w : zWp} {T : zTl} {M : zMm} {J : zJm} {R : zRm'} {G : zGt} {F : zRm'} {a : Nat} (hI : zI G M) (hF : zF F R) (h0 : zHideSets T F G a) (v1 : Int) (p1 : -2147483648 ≤ v1 ∧ v1 ≤ 2147483647) : zCt w 1 0 0 yX11_guardAt cX11_guardAt 2 (some .int) [.ref (w.2.1 + a), zi v1] (T, M, J, R) (zPp T M J R (fun x => True)) := by
  refine zCt.of rfl (Nat.le_of_ble_eq_true rfl) ?_
  intro p e s m args below meth c C
  obtain ⟨Po, hPo⟩ : ∃ Po, Po = zPp T M J R (fun x => True) := ⟨_, rfl⟩
  rw [← hPo]
  show zK w p e 1 0 0 s m args below meth c 2 T Po 0 [.ref (w.2.1 + a), zi v1] [] (T, M, J, R)
  refine q_iload_n C dX11_guardAt_0 (n := 1) rfl rfl ?_
  refine q_if_lt C 12 dX11_guardAt_1 (n := 4) rfl rfl (by omega) (fun h1 => ?_) (fun h1 => ?_)
  · refine q_iconst C dX11_guardAt_12 (n := 13) rfl ?_
    refine q_goto C 22 dX11_guardAt_13 rfl ?_
    exact q_iret C dX11_guardAt_22 ⟨rfl, rfl⟩ (by rw [hPo]; exact ⟨(-1), rfl, rfl, trivial⟩)
  · refine q_iload_n C dX11_guardAt_4 (n := 5) rfl rfl ?_
    refine q_aload_n C dX11_guardAt_5 (n := 6) rfl rfl ?_
    have g2 := zI.at hI h0.2.2.2.2.2.2.2.2.2.2.2.2.2.2.2.2.1
    refine q_getI C dX11_guardAt_6 (n := 9) rfl f_X11_35 h0.1 (v := M a 6) rfl ?_
    refine q_icmp_lt C 16 dX11_guardAt_9 (n := 12) rfl rfl (by omega) (fun h3 => ?_) (fun h3 => ?_)
    · refine q_aload_n C dX11_guardAt_16 (n := 17) rfl rfl ?_
      refine q_getR C dX11_guardAt_17 (n := 20) rfl f_X11_32 h0.1 (hF _ _ _ h0.2.2.2.2.2.2.2.2.2.2.2.2.2.1) ?_
      refine q_iload_n C dX11_guardAt_20 (n := 21) rfl rfl ?_
      have g4 := zI.at hI (h0.2.2.2.2.2.2.2.2.2.2.2.2.2.2.2.1 v1)
      refine q_bald C dX11_guardAt_21 (n := 22) rfl h0.2.2.2.2.2.2.2.2.2.2.2.2.2.2.1 (by omega) (v := M (a + 29) v1) rfl ?_
      exact q_iret C dX11_guardAt_22 ⟨rfl, rfl⟩ (by rw [hPo]; exact ⟨M (a + 29) v1, rfl, rfl, trivial⟩)
    · refine q_iconst C dX11_guardAt_12 (n := 13) rfl ?_
      refine q_goto C 22 dX11_guardAt_13 rfl ?_
      exact q_iret C dX11_guardAt_22 ⟨rfl, rfl⟩ (by rw [hPo]; exact ⟨(-1), rfl, rfl, trivial⟩)
theorem c_X11_nextOf {w : zWp} {T : zTl} {M : zMm} {J : zJm} {R : zRm'} {G : zGt} {F : zRm'} {a : Nat} (hI : zI G M) (hF : zF F R) (h0 : zHideSets T F G a) (v1 : Int) (v2 : Int) (p1 : -2147483648 ≤ v1 ∧ v1 ≤ 2147483647) (p2 : -2147483648 ≤ v2 ∧ v2 ≤ 2147483647) : zCt w 3 0 0 yX11_nextOf cX11_nextOf 3 (some .int) [.ref (w.2.1 + a), zi v1, zi v2] (T, M, J, R) (zPp T M J R (fun x => True)) := by
  refine zCt.of rfl (Nat.le_of_ble_eq_true rfl) ?_
  intro p e s m args below meth c C
  obtain ⟨Po, hPo⟩ : ∃ Po, Po = zPp T M J R (fun x => True) := ⟨_, rfl⟩
  rw [← hPo]
  show zK w p e 3 0 0 s m args below meth c 3 T Po 0 [.ref (w.2.1 + a), zi v1, zi v2] [] (T, M, J, R)
  refine q_aload_n C dX11_nextOf_0 (n := 1) rfl rfl ?_
  refine q_getR C dX11_nextOf_1 (n := 4) rfl f_X11_20 h0.1 (hF _ _ _ h0.2.2.2.2.2.1) ?_
  refine q_iload_n C dX11_nextOf_4 (n := 5) rfl rfl ?_
  refine q_iload_n C dX11_nextOf_5 (n := 6) rfl rfl ?_
  refine q_callVp C dX11_nextOf_6 (n := 9) rfl m_X11_209 v_yX7_hasLine h0.2.2.2.2.2.2.1.1 ⟨by decide, rfl⟩ (c_X7_hasLine (w := w) (J := J) hI hF h0.2.2.2.2.2.2.1 v1 v2 (by omega) (by omega)) (Nat.le_of_ble_eq_true rfl) rfl rfl (Nat.le_of_ble_eq_true rfl) ⟨Nat.le_refl _, Nat.le_refl _⟩ (fun x3 h4 => ?_)
  obtain ⟨h1, h2⟩ := h4
  refine q_if_eq C 28 dX11_nextOf_9 (n := 12) rfl rfl (by omega) (fun h5 => ?_) (fun h5 => ?_)
  · refine q_iconst C dX11_nextOf_28 (n := 29) rfl ?_
    exact q_iret C dX11_nextOf_29 ⟨rfl, rfl⟩ (by rw [hPo]; exact ⟨(-1), rfl, rfl, trivial⟩)
  · refine q_aload_n C dX11_nextOf_12 (n := 13) rfl rfl ?_
    refine q_getR C dX11_nextOf_13 (n := 16) rfl f_X11_20 h0.1 (hF _ _ _ h0.2.2.2.2.2.1) ?_
    refine q_getR C dX11_nextOf_16 (n := 19) rfl f_X11_66 h0.2.2.2.2.2.2.1.1 (hF _ _ _ h0.2.2.2.2.2.2.1.2.1) ?_
    refine q_iload_n C dX11_nextOf_19 (n := 20) rfl rfl ?_
    refine q_aald C dX11_nextOf_20 (n := 21) rfl ⟨by decide, by decide⟩ h0.2.2.2.2.2.2.1.2.2.1 (by omega) (hF _ _ _ (h0.2.2.2.2.2.2.1.2.2.2.1 v1 (by omega) (by omega)).1) ?_
    refine q_iload_n C dX11_nextOf_21 (n := 22) rfl rfl ?_
    refine q_callVp C dX11_nextOf_22 (n := 25) rfl m_X11_252 v_yX4_follower (h0.2.2.2.2.2.2.1.2.2.2.1 v1 (by omega) (by omega)).2.1 ⟨by decide, rfl⟩ (c_X4_follower (w := w) (J := J) hI hF (h0.2.2.2.2.2.2.1.2.2.2.1 v1 (by omega) (by omega)).2 v2 (by omega)) (Nat.le_of_ble_eq_true rfl) rfl rfl (Nat.le_of_ble_eq_true rfl) ⟨Nat.le_refl _, Nat.le_refl _⟩ (fun x7 h8 => ?_)
    refine q_goto C 29 dX11_nextOf_25 rfl ?_
    exact q_iret C dX11_nextOf_29 ⟨rfl, rfl⟩ (by rw [hPo]; exact ⟨x7, rfl, rfl, trivial⟩)
theorem c_X11_count {w : zWp} {T : zTl} {M : zMm} {J : zJm} {R : zRm'} {G : zGt} {F : zRm'} {a : Nat} (hI : zI G M) (hF : zF F R) (h0 : zHideSets T F G a) (v1 : Int) (p1 : -2147483648 ≤ v1 ∧ v1 ≤ 2147483647) : zCt w 2 0 0 yX11_count cX11_count 2 (some .int) [.ref (w.2.1 + a), zi v1] (T, M, J, R) (zPp T M J R (fun x => True)) := by
  refine zCt.of rfl (Nat.le_of_ble_eq_true rfl) ?_
  intro p e s m args below meth c C
  obtain ⟨Po, hPo⟩ : ∃ Po, Po = zPp T M J R (fun x => True) := ⟨_, rfl⟩
  rw [← hPo]
  show zK w p e 2 0 0 s m args below meth c 2 T Po 0 [.ref (w.2.1 + a), zi v1] [] (T, M, J, R)
  refine q_iload_n C dX11_count_0 (n := 1) rfl rfl ?_
  by_cases h1 : v1 = 0
  · refine q_tabIn C 32 dX11_count_1 h1 (by omega) rfl rfl ?_
    refine q_aload_n C dX11_count_32 (n := 33) rfl rfl ?_
    refine q_getR C dX11_count_33 (n := 36) rfl f_X11_20 h0.1 (hF _ _ _ h0.2.2.2.2.2.1) ?_
    refine q_callVp C dX11_count_36 (n := 39) rfl m_X11_266 v_yX7_filesTold h0.2.2.2.2.2.2.1.1 ⟨by decide, rfl⟩ (c_X7_filesTold (w := w) (J := J) hI hF h0.2.2.2.2.2.2.1) (Nat.le_of_ble_eq_true rfl) rfl rfl (Nat.le_of_ble_eq_true rfl) ⟨Nat.le_refl _, Nat.le_refl _⟩ (fun x3 h4 => ?_)
    exact q_iret C dX11_count_39 ⟨rfl, rfl⟩ (by rw [hPo]; exact ⟨x3, rfl, rfl, trivial⟩)
  by_cases h5 : v1 = 1
  · refine q_tabIn C 40 dX11_count_1 h5 (by omega) rfl rfl ?_
    refine q_aload_n C dX11_count_40 (n := 41) rfl rfl ?_
    refine q_getR C dX11_count_41 (n := 44) rfl f_X11_20 h0.1 (hF _ _ _ h0.2.2.2.2.2.1) ?_
    have g6 := zI.at hI h0.2.2.2.2.2.2.1.2.2.2.2.2.2.2.2.2.2.1
    refine q_getI C dX11_count_44 (n := 47) rfl f_X11_226 h0.2.2.2.2.2.2.1.1 (v := M (a + 2) 3) rfl ?_
    exact q_iret C dX11_count_47 ⟨rfl, rfl⟩ (by rw [hPo]; exact ⟨M (a + 2) 3, rfl, rfl, trivial⟩)
  by_cases h7 : v1 = 2
  · refine q_tabIn C 48 dX11_count_1 h7 (by omega) rfl rfl ?_
    refine q_aload_n C dX11_count_48 (n := 49) rfl rfl ?_
    refine q_getR C dX11_count_49 (n := 52) rfl f_X11_20 h0.1 (hF _ _ _ h0.2.2.2.2.2.1) ?_
    have g8 := zI.at hI h0.2.2.2.2.2.2.1.2.2.2.2.2.2.2.2.2.2.2.1
    refine q_getI C dX11_count_52 (n := 55) rfl f_X11_96 h0.2.2.2.2.2.2.1.1 (v := M (a + 2) 4) rfl ?_
    exact q_iret C dX11_count_55 ⟨rfl, rfl⟩ (by rw [hPo]; exact ⟨M (a + 2) 4, rfl, rfl, trivial⟩)
  by_cases h9 : v1 = 3
  · refine q_tabIn C 56 dX11_count_1 h9 (by omega) rfl rfl ?_
    refine q_aload_n C dX11_count_56 (n := 57) rfl rfl ?_
    have g10 := zI.at hI h0.2.2.2.2.1
    refine q_getI C dX11_count_57 (n := 60) rfl f_X11_13 h0.1 (v := M a 1) rfl ?_
    exact q_iret C dX11_count_60 ⟨rfl, rfl⟩ (by rw [hPo]; exact ⟨M a 1, rfl, rfl, trivial⟩)
  refine q_tabOut C 61 dX11_count_1 (by omega) (by omega) rfl ?_
  refine q_iconst C dX11_count_61 (n := 62) rfl ?_
  exact q_iret C dX11_count_62 ⟨rfl, rfl⟩ (by rw [hPo]; exact ⟨(-1), rfl, rfl, trivial⟩)
theorem c_X11_lines {w : zWp} {T : zTl} {M : zMm} {J : zJm} {R : zRm'} {G : zGt} {F : zRm'} {a : Nat} (hI : zI G M) (hF : zF F R) (h0 : zHideSets T F G a) (v1 : Int) (p1 : -2147483648 ≤ v1 ∧ v1 ≤ 2147483647) : zCt w 2 0 0 yX11_lines cX11_lines 2 (some .int) [.ref (w.2.1 + a), zi v1] (T, M, J, R) (zPp T M J R (fun x => True)) := by
  refine zCt.of rfl (Nat.le_of_ble_eq_true rfl) ?_
  intro p e s m args below meth c C
  obtain ⟨Po, hPo⟩ : ∃ Po, Po = zPp T M J R (fun x => True) := ⟨_, rfl⟩
  rw [← hPo]
  show zK w p e 2 0 0 s m args below meth c 2 T Po 0 [.ref (w.2.1 + a), zi v1] [] (T, M, J, R)
  refine q_aload_n C dX11_lines_0 (n := 1) rfl rfl ?_
  refine q_getR C dX11_lines_1 (n := 4) rfl f_X11_20 h0.1 (hF _ _ _ h0.2.2.2.2.2.1) ?_
  refine q_iload_n C dX11_lines_4 (n := 5) rfl rfl ?_
  refine q_callVp C dX11_lines_5 (n := 8) rfl m_X11_99 v_yX7_hasFile h0.2.2.2.2.2.2.1.1 ⟨by decide, rfl⟩ (c_X7_hasFile (w := w) (J := J) hI hF h0.2.2.2.2.2.2.1 v1 (by omega)) (Nat.le_of_ble_eq_true rfl) rfl rfl (Nat.le_of_ble_eq_true rfl) ⟨Nat.le_refl _, Nat.le_refl _⟩ (fun x3 h4 => ?_)
  obtain ⟨h1, h2⟩ := h4
  refine q_if_eq C 26 dX11_lines_8 (n := 11) rfl rfl (by omega) (fun h5 => ?_) (fun h5 => ?_)
  · refine q_iconst C dX11_lines_26 (n := 27) rfl ?_
    exact q_iret C dX11_lines_27 ⟨rfl, rfl⟩ (by rw [hPo]; exact ⟨(-1), rfl, rfl, trivial⟩)
  · refine q_aload_n C dX11_lines_11 (n := 12) rfl rfl ?_
    refine q_getR C dX11_lines_12 (n := 15) rfl f_X11_20 h0.1 (hF _ _ _ h0.2.2.2.2.2.1) ?_
    refine q_getR C dX11_lines_15 (n := 18) rfl f_X11_66 h0.2.2.2.2.2.2.1.1 (hF _ _ _ h0.2.2.2.2.2.2.1.2.1) ?_
    refine q_iload_n C dX11_lines_18 (n := 19) rfl rfl ?_
    refine q_aald C dX11_lines_19 (n := 20) rfl ⟨by decide, by decide⟩ h0.2.2.2.2.2.2.1.2.2.1 (by omega) (hF _ _ _ (h0.2.2.2.2.2.2.1.2.2.2.1 v1 (by omega) (by omega)).1) ?_
    have g6 := zI.at hI (h0.2.2.2.2.2.2.1.2.2.2.1 v1 (by omega) (by omega)).2.2.2.2.2.2.2.2.2.2.2.1
    refine q_getI C dX11_lines_20 (n := 23) rfl f_X11_79 (h0.2.2.2.2.2.2.1.2.2.2.1 v1 (by omega) (by omega)).2.1 (v := M (a + 2 + 9 + 4 * (v1 : Int).toNat) 3) rfl ?_
    refine q_goto C 27 dX11_lines_23 rfl ?_
    exact q_iret C dX11_lines_27 ⟨rfl, rfl⟩ (by rw [hPo]; exact ⟨M (a + 2 + 9 + 4 * (v1 : Int).toNat) 3, rfl, rfl, trivial⟩)
