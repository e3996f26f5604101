theorem c_X5_lengthOf {w : zWp} {T : zTl} {M : zMm} {J : zJm} {R : zRm'} {G : zGt} {F : zRm'}  (hI : zI G M) (hF : zF F R) (look : Int) : zCt w 1 0 0 yX5_lengthOf cX5_lengthOf 1 (some .int) [zi look] (T, M, J, R) (zPp T M J R (fun x => (x = zand look 31) ∧ (0 ≤ x ∧ x ≤ 31))) := by
  refine zCt.of rfl (Nat.le_of_ble_eq_true rfl) ?_
  intro p e s m args below meth c C
  obtain ⟨Po, hPo⟩ : ∃ Po, Po = zPp T M J R (fun x => (x = zand look 31) ∧ (0 ≤ x ∧ x ≤ 31)) := ⟨_, rfl⟩
  rw [← hPo]
  show zK w p e 1 0 0 s m args below meth c 1 T Po 0 [zi look] [] (T, M, J, R)
  refine q_iload_n C dX5_lengthOf_0 (n := 1) rfl rfl ?_
  refine q_bipush C dX5_lengthOf_1 (n := 3) rfl (x := 31) (by decide) ?_
  refine q_iand C dX5_lengthOf_3 (n := 4) rfl (v := zand look 31) rfl ?_
  have g1 := zand_r (x := look) (k := 31) (by omega)
  exact q_iret C dX5_lengthOf_4 ⟨rfl, rfl⟩ (by rw [hPo]; exact ⟨zand look 31, rfl, rfl, by omega, by omega⟩)
theorem c_X5_kindOf {w : zWp} {T : zTl} {M : zMm} {J : zJm} {R : zRm'} {G : zGt} {F : zRm'}  (hI : zI G M) (hF : zF F R) (look : Int) : zCt w 1 0 0 yX5_kindOf cX5_kindOf 1 (some .int) [zi look] (T, M, J, R) (zPp T M J R (fun x => (0 ≤ x ∧ x ≤ 3))) := by
  refine zCt.of rfl (Nat.le_of_ble_eq_true rfl) ?_
  intro p e s m args below meth c C
  obtain ⟨Po, hPo⟩ : ∃ Po, Po = zPp T M J R (fun x => (0 ≤ x ∧ x ≤ 3)) := ⟨_, rfl⟩
  rw [← hPo]
  show zK w p e 1 0 0 s m args below meth c 1 T Po 0 [zi look] [] (T, M, J, R)
  refine q_iload_n C dX5_kindOf_0 (n := 1) rfl rfl ?_
  refine q_iconst C dX5_kindOf_1 (n := 2) rfl ?_
  refine q_ishr C dX5_kindOf_2 (n := 3) rfl (v := zshr look 5) rfl ?_
  have g1 := zr_shr look 5
  refine q_iconst C dX5_kindOf_3 (n := 4) rfl ?_
  refine q_iand C dX5_kindOf_4 (n := 5) rfl (v := zand (zshr look 5) 3) rfl ?_
  have g2 := zand_r (x := zshr look 5) (k := 3) (by omega)
  exact q_iret C dX5_kindOf_5 ⟨rfl, rfl⟩ (by rw [hPo]; exact ⟨zand (zshr look 5) 3, rfl, rfl, by omega⟩)
theorem c_X5_blankOf {w : zWp} {T : zTl} {M : zMm} {J : zJm} {R : zRm'} {G : zGt} {F : zRm'}  (hI : zI G M) (hF : zF F R) (look : Int) : zCt w 1 0 0 yX5_blankOf cX5_blankOf 1 (some .int) [zi look] (T, M, J, R) (zPp T M J R (fun x => (0 ≤ x ∧ x ≤ 1))) := by
  refine zCt.of rfl (Nat.le_of_ble_eq_true rfl) ?_
  intro p e s m args below meth c C
  obtain ⟨Po, hPo⟩ : ∃ Po, Po = zPp T M J R (fun x => (0 ≤ x ∧ x ≤ 1)) := ⟨_, rfl⟩
  rw [← hPo]
  show zK w p e 1 0 0 s m args below meth c 1 T Po 0 [zi look] [] (T, M, J, R)
  refine q_iload_n C dX5_blankOf_0 (n := 1) rfl rfl ?_
  refine q_bipush C dX5_blankOf_1 (n := 3) rfl (x := 7) (by decide) ?_
  refine q_ishr C dX5_blankOf_3 (n := 4) rfl (v := zshr look 7) rfl ?_
  have g1 := zr_shr look 7
  refine q_iconst C dX5_blankOf_4 (n := 5) rfl ?_
  refine q_iand C dX5_blankOf_5 (n := 6) rfl (v := zand (zshr look 7) 1) rfl ?_
  have g2 := zand_r (x := zshr look 7) (k := 1) (by omega)
  exact q_iret C dX5_blankOf_6 ⟨rfl, rfl⟩ (by rw [hPo]; exact ⟨zand (zshr look 7) 1, rfl, rfl, by omega⟩)
theorem c_X5_placeOf {w : zWp} {T : zTl} {M : zMm} {J : zJm} {R : zRm'} {G : zGt} {F : zRm'}  (hI : zI G M) (hF : zF F R) (look : Int) : zCt w 1 0 0 yX5_placeOf cX5_placeOf 1 (some .int) [zi look] (T, M, J, R) (zPp T M J R (fun x => (0 ≤ x ∧ x ≤ 511))) := by
  refine zCt.of rfl (Nat.le_of_ble_eq_true rfl) ?_
  intro p e s m args below meth c C
  obtain ⟨Po, hPo⟩ : ∃ Po, Po = zPp T M J R (fun x => (0 ≤ x ∧ x ≤ 511)) := ⟨_, rfl⟩
  rw [← hPo]
  show zK w p e 1 0 0 s m args below meth c 1 T Po 0 [zi look] [] (T, M, J, R)
  refine q_iload_n C dX5_placeOf_0 (n := 1) rfl rfl ?_
  refine q_bipush C dX5_placeOf_1 (n := 3) rfl (x := 8) (by decide) ?_
  refine q_ishr C dX5_placeOf_3 (n := 4) rfl (v := zshr look 8) rfl ?_
  have g1 := zr_shr look 8
  refine q_sipush C dX5_placeOf_4 (n := 7) rfl (x := 511) (by decide) ?_
  refine q_iand C dX5_placeOf_7 (n := 8) rfl (v := zand (zshr look 8) 511) rfl ?_
  have g2 := zand_r (x := zshr look 8) (k := 511) (by omega)
  exact q_iret C dX5_placeOf_8 ⟨rfl, rfl⟩ (by rw [hPo]; exact ⟨zand (zshr look 8) 511, rfl, rfl, by omega⟩)
theorem c_X5_fileOf {w : zWp} {T : zTl} {M : zMm} {J : zJm} {R : zRm'} {G : zGt} {F : zRm'}  (hI : zI G M) (hF : zF F R) (look : Int) : zCt w 1 0 0 yX5_fileOf cX5_fileOf 1 (some .int) [zi look] (T, M, J, R) (zPp T M J R (fun x => (-1 ≤ x ∧ x ≤ 6))) := by
  refine zCt.of rfl (Nat.le_of_ble_eq_true rfl) ?_
  intro p e s m args below meth c C
  obtain ⟨Po, hPo⟩ : ∃ Po, Po = zPp T M J R (fun x => (-1 ≤ x ∧ x ≤ 6)) := ⟨_, rfl⟩
  rw [← hPo]
  show zK w p e 1 0 0 s m args below meth c 1 T Po 0 [zi look] [] (T, M, J, R)
  refine q_iload_n C dX5_fileOf_0 (n := 1) rfl rfl ?_
  refine q_bipush C dX5_fileOf_1 (n := 3) rfl (x := 17) (by decide) ?_
  refine q_ishr C dX5_fileOf_3 (n := 4) rfl (v := zshr look 17) rfl ?_
  have g1 := zr_shr look 17
  refine q_bipush C dX5_fileOf_4 (n := 6) rfl (x := 7) (by decide) ?_
  refine q_iand C dX5_fileOf_6 (n := 7) rfl (v := zand (zshr look 17) 7) rfl ?_
  have g2 := zand_r (x := zshr look 17) (k := 7) (by omega)
  refine q_iconst C dX5_fileOf_7 (n := 8) rfl ?_
  refine q_isub C dX5_fileOf_8 (n := 9) rfl (v := (zand (zshr look 17) 7) - 1) rfl ?_
  exact q_iret C dX5_fileOf_9 ⟨rfl, rfl⟩ (by rw [hPo]; exact ⟨(zand (zshr look 17) 7) - 1, rfl, rfl, by omega⟩)
theorem c_X5_lineOf {w : zWp} {T : zTl} {M : zMm} {J : zJm} {R : zRm'} {G : zGt} {F : zRm'}  (hI : zI G M) (hF : zF F R) (look : Int) : zCt w 1 0 0 yX5_lineOf cX5_lineOf 1 (some .int) [zi look] (T, M, J, R) (zPp T M J R (fun x => (-1 ≤ x ∧ x ≤ 62))) := by
  refine zCt.of rfl (Nat.le_of_ble_eq_true rfl) ?_
  intro p e s m args below meth c C
  obtain ⟨Po, hPo⟩ : ∃ Po, Po = zPp T M J R (fun x => (-1 ≤ x ∧ x ≤ 62)) := ⟨_, rfl⟩
  rw [← hPo]
  show zK w p e 1 0 0 s m args below meth c 1 T Po 0 [zi look] [] (T, M, J, R)
  refine q_iload_n C dX5_lineOf_0 (n := 1) rfl rfl ?_
  refine q_bipush C dX5_lineOf_1 (n := 3) rfl (x := 20) (by decide) ?_
  refine q_ishr C dX5_lineOf_3 (n := 4) rfl (v := zshr look 20) rfl ?_
  have g1 := zr_shr look 20
  refine q_bipush C dX5_lineOf_4 (n := 6) rfl (x := 63) (by decide) ?_
  refine q_iand C dX5_lineOf_6 (n := 7) rfl (v := zand (zshr look 20) 63) rfl ?_
  have g2 := zand_r (x := zshr look 20) (k := 63) (by omega)
  refine q_iconst C dX5_lineOf_7 (n := 8) rfl ?_
  refine q_isub C dX5_lineOf_8 (n := 9) rfl (v := (zand (zshr look 20) 63) - 1) rfl ?_
  exact q_iret C dX5_lineOf_9 ⟨rfl, rfl⟩ (by rw [hPo]; exact ⟨(zand (zshr look 20) 63) - 1, rfl, rfl, by omega⟩)
theorem c_X5_add {w : zWp} {T : zTl} {M : zMm} {J : zJm} {R : zRm'} {G : zGt} {F : zRm'} {a n : Nat} {L : Int} (hI : zI G M) (hF : zF F R) (h0 : zRow T F G a n L) (v1 : Int) (v2 : Int) (v3 : Int) (p1 : n ≤ 2147483647) (p2 : 0 ≤ v1 ∧ v1 + zand v2 31 ≤ L ∧ zand v2 31 ≤ 30) (p3 : -2147483648 ≤ v2 ∧ v2 ≤ 2147483647) (p4 : -2147483648 ≤ v3 ∧ v3 ≤ 2147483647) : zCt w 1 0 0 yX5_add cX5_add 4 (some .boolean) [.ref (w.2.1 + a), zi v1, zi v2, zi v3] (T, M, J, R) (zPi T R G (fun x M2 => (zKp G 4 M M2) ∧ (x = 0 ∨ x = 1) ∧ (x = 0 ∨ M a 3 < n) ∧ (M2 a 3 ≤ M a 3 + 1))) := by
  refine zCt.of rfl (Nat.le_of_ble_eq_true rfl) ?_
  intro p e s m args below meth c C
  obtain ⟨Po, hPo⟩ : ∃ Po, Po = zPi T R G (fun x M2 => (zKp G 4 M M2) ∧ (x = 0 ∨ x = 1) ∧ (x = 0 ∨ M a 3 < n) ∧ (M2 a 3 ≤ M a 3 + 1)) := ⟨_, rfl⟩
  rw [← hPo]
  have hK0 : zKp G 4 M M := zKp.rf
  show zK w p e 1 0 0 s m args below meth c 4 T Po 0 [.ref (w.2.1 + a), zi v1, zi v2, zi v3] [] (T, M, J, R)
  refine q_aload_n C dX5_add_0 (n := 1) rfl rfl ?_
  have g1 := zI.at hI h0.2.2.2.2.2.2.2.2.2.2
  refine q_getI C dX5_add_1 (n := 4) rfl f_X5_9 h0.1 (v := M a 3) rfl ?_
  refine q_aload_n C dX5_add_4 (n := 5) rfl rfl ?_
  refine q_getR C dX5_add_5 (n := 8) rfl f_X5_15 h0.1 (hF _ _ _ h0.2.1) ?_
  refine q_alen C dX5_add_8 (n := 9) rfl ⟨by decide, by decide⟩ h0.2.2.1 ?_
  refine q_icmp_lt C 14 dX5_add_9 (n := 12) rfl rfl (by omega) (fun h2 => ?_) (fun h2 => ?_)
  · refine q_aload_n C dX5_add_14 (n := 15) rfl rfl ?_
    refine q_getR C dX5_add_15 (n := 18) rfl f_X5_15 h0.1 (hF _ _ _ h0.2.1) ?_
    refine q_aload_n C dX5_add_18 (n := 19) rfl rfl ?_
    refine q_getI C dX5_add_19 (n := 22) rfl f_X5_9 h0.1 (v := M a 3) rfl ?_
    refine q_iload_n C dX5_add_22 (n := 23) rfl rfl ?_
    refine q_iast C dX5_add_23 (n := 24) rfl h0.2.2.1 (by omega)  (fun M3 e4 => ?_)
    have hK5 := hK0.put e4 (h0.2.2.2.1 (M a 3)) (by decide)
    refine q_aload_n C dX5_add_24 (n := 25) rfl rfl ?_
    refine q_getR C dX5_add_25 (n := 28) rfl f_X5_19 h0.1 (hF _ _ _ h0.2.2.2.2.1) ?_
    refine q_aload_n C dX5_add_28 (n := 29) rfl rfl ?_
    refine q_getI C dX5_add_29 (n := 32) rfl f_X5_9 h0.1 (v := M a 3) (zup_p e4 (by omega) _) ?_
    refine q_iload_n C dX5_add_32 (n := 33) rfl rfl ?_
    refine q_iast C dX5_add_33 (n := 34) rfl h0.2.2.2.2.2.1 (by omega)  (fun M6 e7 => ?_)
    have hI8 : zI G M6 := zI.put2 hI e4 e7 (h0.2.2.2.1 (M a 3)) (h0.2.2.2.2.2.2.1 (M a 3)) (by omega) (by omega)
    have hK9 := hK5.put e7 (h0.2.2.2.2.2.2.1 (M a 3)) (by decide)
    refine q_aload_n C dX5_add_34 (n := 35) rfl rfl ?_
    refine q_getR C dX5_add_35 (n := 38) rfl f_X5_22 h0.1 (hF _ _ _ h0.2.2.2.2.2.2.2.1) ?_
    refine q_aload_n C dX5_add_38 (n := 39) rfl rfl ?_
    refine q_getI C dX5_add_39 (n := 42) rfl f_X5_9 h0.1 (v := M a 3) ((zup_p e7 (by omega) _).trans (zup_p e4 (by omega) _)) ?_
    refine q_iload_n C dX5_add_42 (n := 43) rfl rfl ?_
    refine q_iast C dX5_add_43 (n := 44) rfl h0.2.2.2.2.2.2.2.2.1 (by omega)  (fun M10 e11 => ?_)
    have hI12 : zI G M10 := hI8.put e11 (h0.2.2.2.2.2.2.2.2.2.1 (M a 3)) rfl (by omega)
    have hK13 := hK9.put e11 (h0.2.2.2.2.2.2.2.2.2.1 (M a 3)) (by decide)
    refine q_aload_n C dX5_add_44 (n := 45) rfl rfl ?_
    refine q_dup C dX5_add_45 (n := 46) rfl rfl ?_
    refine q_getI C dX5_add_46 (n := 49) rfl f_X5_9 h0.1 (v := M a 3) ((zup_p e11 (by omega) _).trans ((zup_p e7 (by omega) _).trans (zup_p e4 (by omega) _))) ?_
    refine q_iconst C dX5_add_49 (n := 50) rfl ?_
    refine q_iadd C dX5_add_50 (n := 51) rfl (v := (M a 3) + 1) rfl ?_
    refine q_putI C dX5_add_51 (n := 54) rfl f_X5_9 h0.1 ⟨rfl, rfl⟩ (fun M14 (e15 : M14 = zup M10 a 3 ((M a 3) + 1)) => ?_)
    have hI16 : zI G M14 := hI12.put e15 h0.2.2.2.2.2.2.2.2.2.2 rfl (by omega)
    have hK17 := hK13.put e15 h0.2.2.2.2.2.2.2.2.2.2 (by decide)
    refine q_iconst C dX5_add_54 (n := 55) rfl ?_
    exact q_zret C dX5_add_55 ⟨rfl, rfl⟩ (by omega) (by rw [hPo]; exact ⟨1, M14, J, rfl, rfl, hI16, hK17, by omega, by omega, (by have hz : M14 a 3 = (M a 3) + 1 := (zup_s e15); omega)⟩)
  · refine q_iconst C dX5_add_12 (n := 13) rfl ?_
    exact q_zret C dX5_add_13 ⟨rfl, rfl⟩ (by omega) (by rw [hPo]; exact ⟨0, M, J, rfl, rfl, hI, hK0, by omega, by omega, (by have hz : M a 3 = M a 3 := rfl; omega)⟩)
theorem c_X1_clear {w : zWp} {T : zTl} {M : zMm} {J : zJm} {R : zRm'} {G : zGt} {F : zRm'} {a : Nat} (hI : zI G M) (hF : zF F R) (h0 : zFault T F G a) : zCt w 1 0 0 yX1_clear cX1_clear 1 none [.ref (w.2.1 + a)] (T, M, J, R) (zPv T R G (fun M2 => (zKp G 1 M M2))) := by
  refine zCt.of rfl (Nat.le_of_ble_eq_true rfl) ?_
  intro p e s m args below meth c C
  obtain ⟨Po, hPo⟩ : ∃ Po, Po = zPv T R G (fun M2 => (zKp G 1 M M2)) := ⟨_, rfl⟩
  rw [← hPo]
  have hK0 : zKp G 1 M M := zKp.rf
  show zK w p e 1 0 0 s m args below meth c 1 T Po 0 [.ref (w.2.1 + a)] [] (T, M, J, R)
  refine q_aload_n C dX1_clear_0 (n := 1) rfl rfl ?_
  refine q_iconst C dX1_clear_1 (n := 2) rfl ?_
  refine q_putI C dX1_clear_2 (n := 5) rfl f_X1_7 h0.1 ⟨rfl, rfl⟩ (fun M1 (e2 : M1 = zup M a 0 0) => ?_)
  have hI3 : zI G M1 := hI.put e2 h0.2.1 rfl (by omega)
  have hK4 := hK0.put e2 h0.2.1 (by decide)
  refine q_aload_n C dX1_clear_5 (n := 6) rfl rfl ?_
  refine q_iconst C dX1_clear_6 (n := 7) rfl ?_
  refine q_putI C dX1_clear_7 (n := 10) rfl f_X1_13 h0.1 ⟨rfl, rfl⟩ (fun M5 (e6 : M5 = zup M1 a 1 0) => ?_)
  have hI7 : zI G M5 := hI3.put e6 h0.2.2 rfl (by omega)
  have hK8 := hK4.put e6 h0.2.2 (by decide)
  exact q_vret C dX1_clear_10 ⟨rfl, rfl⟩ (by rw [hPo]; exact ⟨M5, J, rfl, rfl, hI7, hK8⟩)
theorem c_X1_meet {w : zWp} {T : zTl} {M : zMm} {J : zJm} {R : zRm'} {G : zGt} {F : zRm'} {a : Nat} (hI : zI G M) (hF : zF F R) (h0 : zFault T F G a) (v1 : Int) (v2 : Int) (p1 : 0 ≤ v1 ∧ v1 ≤ 11) (p2 : -2147483648 ≤ v2 ∧ v2 ≤ 2147483647) : zCt w 1 0 0 yX1_meet cX1_meet 3 none [.ref (w.2.1 + a), zi v1, zi v2] (T, M, J, R) (zPv T R G (fun M2 => (zKp G 1 M M2))) := by
  refine zCt.of rfl (Nat.le_of_ble_eq_true rfl) ?_
  intro p e s m args below meth c C
  obtain ⟨Po, hPo⟩ : ∃ Po, Po = zPv T R G (fun M2 => (zKp G 1 M M2)) := ⟨_, rfl⟩
  rw [← hPo]
  have hK0 : zKp G 1 M M := zKp.rf
  show zK w p e 1 0 0 s m args below meth c 3 T Po 0 [.ref (w.2.1 + a), zi v1, zi v2] [] (T, M, J, R)
  refine q_aload_n C dX1_meet_0 (n := 1) rfl rfl ?_
  have g1 := zI.at hI h0.2.1
  refine q_getI C dX1_meet_1 (n := 4) rfl f_X1_7 h0.1 (v := M a 0) rfl ?_
  refine q_if_ne C 17 dX1_meet_4 (n := 7) rfl rfl (by omega) (fun h2 => ?_) (fun h2 => ?_)
  · exact q_vret C dX1_meet_17 ⟨rfl, rfl⟩ (by rw [hPo]; exact ⟨M, J, rfl, rfl, hI, hK0⟩)
  · refine q_aload_n C dX1_meet_7 (n := 8) rfl rfl ?_
    refine q_iload_n C dX1_meet_8 (n := 9) rfl rfl ?_
    refine q_putI C dX1_meet_9 (n := 12) rfl f_X1_7 h0.1 ⟨rfl, rfl⟩ (fun M3 (e4 : M3 = zup M a 0 v1) => ?_)
    have hI5 : zI G M3 := hI.put e4 h0.2.1 rfl (by omega)
    have hK6 := hK0.put e4 h0.2.1 (by decide)
    refine q_aload_n C dX1_meet_12 (n := 13) rfl rfl ?_
    refine q_iload_n C dX1_meet_13 (n := 14) rfl rfl ?_
    refine q_putI C dX1_meet_14 (n := 17) rfl f_X1_13 h0.1 ⟨rfl, rfl⟩ (fun M7 (e8 : M7 = zup M3 a 1 v2) => ?_)
    have hI9 : zI G M7 := hI5.put e8 h0.2.2 rfl (by omega)
    have hK10 := hK6.put e8 h0.2.2 (by decide)
    exact q_vret C dX1_meet_17 ⟨rfl, rfl⟩ (by rw [hPo]; exact ⟨M7, J, rfl, rfl, hI9, hK10⟩)
theorem c_X10_isDigit {w : zWp} {T : zTl} {M : zMm} {J : zJm} {R : zRm'} {G : zGt} {F : zRm'}  (hI : zI G M) (hF : zF F R) (c0 : Int) (p1 : -2147483648 ≤ c0 ∧ c0 ≤ 2147483647) : zCt w 1 0 0 yX10_isDigit cX10_isDigit 1 (some .boolean) [zi c0] (T, M, J, R) (zPp T M J R (fun x => (x = 0 ∨ x = 1))) := by
  refine zCt.of rfl (Nat.le_of_ble_eq_true rfl) ?_
  intro p e s m args below meth c C
  obtain ⟨Po, hPo⟩ : ∃ Po, Po = zPp T M J R (fun x => (x = 0 ∨ x = 1)) := ⟨_, rfl⟩
  rw [← hPo]
  show zK w p e 1 0 0 s m args below meth c 1 T Po 0 [zi c0] [] (T, M, J, R)
  refine q_iload_n C dX10_isDigit_0 (n := 1) rfl rfl ?_
  refine q_bipush C dX10_isDigit_1 (n := 3) rfl (x := 48) (by decide) ?_
  refine q_icmp_lt C 16 dX10_isDigit_3 (n := 6) rfl rfl (by omega) (fun h1 => ?_) (fun h1 => ?_)
  · refine q_iconst C dX10_isDigit_16 (n := 17) rfl ?_
    exact q_zret C dX10_isDigit_17 ⟨rfl, rfl⟩ (by omega) (by rw [hPo]; exact ⟨0, rfl, rfl, by omega⟩)
  · refine q_iload_n C dX10_isDigit_6 (n := 7) rfl rfl ?_
    refine q_bipush C dX10_isDigit_7 (n := 9) rfl (x := 57) (by decide) ?_
    refine q_icmp_gt C 16 dX10_isDigit_9 (n := 12) rfl rfl (by omega) (fun h2 => ?_) (fun h2 => ?_)
    · refine q_iconst C dX10_isDigit_16 (n := 17) rfl ?_
      exact q_zret C dX10_isDigit_17 ⟨rfl, rfl⟩ (by omega) (by rw [hPo]; exact ⟨0, rfl, rfl, by omega⟩)
    · refine q_iconst C dX10_isDigit_12 (n := 13) rfl ?_
      refine q_goto C 17 dX10_isDigit_13 rfl ?_
      exact q_zret C dX10_isDigit_17 ⟨rfl, rfl⟩ (by omega) (by rw [hPo]; exact ⟨1, rfl, rfl, by omega⟩)
theorem c_X10_isWord {w : zWp} {T : zTl} {M : zMm} {J : zJm} {R : zRm'} {G : zGt} {F : zRm'}  (hI : zI G M) (hF : zF F R) (c0 : Int) (p1 : -2147483648 ≤ c0 ∧ c0 ≤ 2147483647) : zCt w 1 0 0 yX10_isWord cX10_isWord 1 (some .boolean) [zi c0] (T, M, J, R) (zPp T M J R (fun x => (x = 0 ∨ x = 1))) := by
  refine zCt.of rfl (Nat.le_of_ble_eq_true rfl) ?_
  intro p e s m args below meth c C
  obtain ⟨Po, hPo⟩ : ∃ Po, Po = zPp T M J R (fun x => (x = 0 ∨ x = 1)) := ⟨_, rfl⟩
  rw [← hPo]
  show zK w p e 1 0 0 s m args below meth c 1 T Po 0 [zi c0] [] (T, M, J, R)
  refine q_iload_n C dX10_isWord_0 (n := 1) rfl rfl ?_
  refine q_bipush C dX10_isWord_1 (n := 3) rfl (x := 97) (by decide) ?_
  have J_1 : zK w p e 1 0 0 s m args below meth c 1 T Po 12 [zi c0] [] (T, M, J, R) := by
    refine q_iload_n C dX10_isWord_12 (n := 13) rfl rfl ?_
    refine q_bipush C dX10_isWord_13 (n := 15) rfl (x := 65) (by decide) ?_
    have J_2 : zK w p e 1 0 0 s m args below meth c 1 T Po 24 [zi c0] [] (T, M, J, R) := by
      refine q_iload_n C dX10_isWord_24 (n := 25) rfl rfl ?_
      refine q_bipush C dX10_isWord_25 (n := 27) rfl (x := 95) (by decide) ?_
      refine q_icmp_eq C 42 dX10_isWord_27 (n := 30) rfl rfl (by omega) (fun h3 => ?_) (fun h3 => ?_)
      · refine q_iconst C dX10_isWord_42 (n := 43) rfl ?_
        refine q_goto C 47 dX10_isWord_43 rfl ?_
        exact q_zret C dX10_isWord_47 ⟨rfl, rfl⟩ (by omega) (by rw [hPo]; exact ⟨1, rfl, rfl, by omega⟩)
      · refine q_iload_n C dX10_isWord_30 (n := 31) rfl rfl ?_
        refine q_bipush C dX10_isWord_31 (n := 33) rfl (x := 48) (by decide) ?_
        refine q_icmp_lt C 46 dX10_isWord_33 (n := 36) rfl rfl (by omega) (fun h4 => ?_) (fun h4 => ?_)
        · refine q_iconst C dX10_isWord_46 (n := 47) rfl ?_
          exact q_zret C dX10_isWord_47 ⟨rfl, rfl⟩ (by omega) (by rw [hPo]; exact ⟨0, rfl, rfl, by omega⟩)
        · refine q_iload_n C dX10_isWord_36 (n := 37) rfl rfl ?_
          refine q_bipush C dX10_isWord_37 (n := 39) rfl (x := 57) (by decide) ?_
          refine q_icmp_gt C 46 dX10_isWord_39 (n := 42) rfl rfl (by omega) (fun h5 => ?_) (fun h5 => ?_)
          · refine q_iconst C dX10_isWord_46 (n := 47) rfl ?_
            exact q_zret C dX10_isWord_47 ⟨rfl, rfl⟩ (by omega) (by rw [hPo]; exact ⟨0, rfl, rfl, by omega⟩)
          · refine q_iconst C dX10_isWord_42 (n := 43) rfl ?_
            refine q_goto C 47 dX10_isWord_43 rfl ?_
            exact q_zret C dX10_isWord_47 ⟨rfl, rfl⟩ (by omega) (by rw [hPo]; exact ⟨1, rfl, rfl, by omega⟩)
    refine q_icmp_lt C 24 dX10_isWord_15 (n := 18) rfl rfl (by omega) (fun h6 => ?_) (fun h6 => ?_)
    · exact zK.weak (J_2) (zwk_c zwk_e)
    · refine q_iload_n C dX10_isWord_18 (n := 19) rfl rfl ?_
      refine q_bipush C dX10_isWord_19 (n := 21) rfl (x := 90) (by decide) ?_
      refine q_icmp_le C 42 dX10_isWord_21 (n := 24) rfl rfl (by omega) (fun h7 => ?_) (fun h7 => ?_)
      · refine q_iconst C dX10_isWord_42 (n := 43) rfl ?_
        refine q_goto C 47 dX10_isWord_43 rfl ?_
        exact q_zret C dX10_isWord_47 ⟨rfl, rfl⟩ (by omega) (by rw [hPo]; exact ⟨1, rfl, rfl, by omega⟩)
      · exact zK.weak (J_2) (zwk_c zwk_e)
  refine q_icmp_lt C 12 dX10_isWord_3 (n := 6) rfl rfl (by omega) (fun h8 => ?_) (fun h8 => ?_)
  · exact zK.weak (J_1) (zwk_c zwk_e)
  · refine q_iload_n C dX10_isWord_6 (n := 7) rfl rfl ?_
    refine q_bipush C dX10_isWord_7 (n := 9) rfl (x := 122) (by decide) ?_
    refine q_icmp_le C 42 dX10_isWord_9 (n := 12) rfl rfl (by omega) (fun h9 => ?_) (fun h9 => ?_)
    · refine q_iconst C dX10_isWord_42 (n := 43) rfl ?_
      refine q_goto C 47 dX10_isWord_43 rfl ?_
      exact q_zret C dX10_isWord_47 ⟨rfl, rfl⟩ (by omega) (by rw [hPo]; exact ⟨1, rfl, rfl, by omega⟩)
    · exact zK.weak (J_1) (zwk_c zwk_e)
theorem c_X10_isPair {w : zWp} {T : zTl} {M : zMm} {J : zJm} {R : zRm'} {G : zGt} {F : zRm'}  (hI : zI G M) (hF : zF F R) (c0 : Int) (c1 : Int) (p1 : -2147483648 ≤ c0 ∧ c0 ≤ 2147483647) (p2 : -2147483648 ≤ c1 ∧ c1 ≤ 2147483647) : zCt w 1 0 0 yX10_isPair cX10_isPair 2 (some .boolean) [zi c0, zi c1] (T, M, J, R) (zPp T M J R (fun x => (x = 0 ∨ x = 1))) := by
  refine zCt.of rfl (Nat.le_of_ble_eq_true rfl) ?_
  intro p e s m args below meth c C
  obtain ⟨Po, hPo⟩ : ∃ Po, Po = zPp T M J R (fun x => (x = 0 ∨ x = 1)) := ⟨_, rfl⟩
  rw [← hPo]
  show zK w p e 1 0 0 s m args below meth c 2 T Po 0 [zi c0, zi c1] [] (T, M, J, R)
  refine q_iload_n C dX10_isPair_0 (n := 1) rfl rfl ?_
  refine q_bipush C dX10_isPair_1 (n := 3) rfl (x := 61) (by decide) ?_
  have J_1 : zK w p e 1 0 0 s m args below meth c 2 T Po 26 [zi c0, zi c1] [] (T, M, J, R) := by
    refine q_iload_n C dX10_isPair_26 (n := 27) rfl rfl ?_
    refine q_iload_n C dX10_isPair_27 (n := 28) rfl rfl ?_
    refine q_icmp_ne C 71 dX10_isPair_28 (n := 31) rfl rfl (by omega) (fun h2 => ?_) (fun h2 => ?_)
    · refine q_iconst C dX10_isPair_71 (n := 72) rfl ?_
      exact q_zret C dX10_isPair_72 ⟨rfl, rfl⟩ (by omega) (by rw [hPo]; exact ⟨0, rfl, rfl, by omega⟩)
    · refine q_iload_n C dX10_isPair_31 (n := 32) rfl rfl ?_
      refine q_bipush C dX10_isPair_32 (n := 34) rfl (x := 35) (by decide) ?_
      refine q_icmp_eq C 67 dX10_isPair_34 (n := 37) rfl rfl (by omega) (fun h3 => ?_) (fun h3 => ?_)
      · refine q_iconst C dX10_isPair_67 (n := 68) rfl ?_
        refine q_goto C 72 dX10_isPair_68 rfl ?_
        exact q_zret C dX10_isPair_72 ⟨rfl, rfl⟩ (by omega) (by rw [hPo]; exact ⟨1, rfl, rfl, by omega⟩)
      · refine q_iload_n C dX10_isPair_37 (n := 38) rfl rfl ?_
        refine q_bipush C dX10_isPair_38 (n := 40) rfl (x := 61) (by decide) ?_
        refine q_icmp_eq C 67 dX10_isPair_40 (n := 43) rfl rfl (by omega) (fun h4 => ?_) (fun h4 => ?_)
        · refine q_iconst C dX10_isPair_67 (n := 68) rfl ?_
          refine q_goto C 72 dX10_isPair_68 rfl ?_
          exact q_zret C dX10_isPair_72 ⟨rfl, rfl⟩ (by omega) (by rw [hPo]; exact ⟨1, rfl, rfl, by omega⟩)
        · refine q_iload_n C dX10_isPair_43 (n := 44) rfl rfl ?_
          refine q_bipush C dX10_isPair_44 (n := 46) rfl (x := 38) (by decide) ?_
          refine q_icmp_eq C 67 dX10_isPair_46 (n := 49) rfl rfl (by omega) (fun h5 => ?_) (fun h5 => ?_)
          · refine q_iconst C dX10_isPair_67 (n := 68) rfl ?_
            refine q_goto C 72 dX10_isPair_68 rfl ?_
            exact q_zret C dX10_isPair_72 ⟨rfl, rfl⟩ (by omega) (by rw [hPo]; exact ⟨1, rfl, rfl, by omega⟩)
          · refine q_iload_n C dX10_isPair_49 (n := 50) rfl rfl ?_
            refine q_bipush C dX10_isPair_50 (n := 52) rfl (x := 124) (by decide) ?_
            refine q_icmp_eq C 67 dX10_isPair_52 (n := 55) rfl rfl (by omega) (fun h6 => ?_) (fun h6 => ?_)
            · refine q_iconst C dX10_isPair_67 (n := 68) rfl ?_
              refine q_goto C 72 dX10_isPair_68 rfl ?_
              exact q_zret C dX10_isPair_72 ⟨rfl, rfl⟩ (by omega) (by rw [hPo]; exact ⟨1, rfl, rfl, by omega⟩)
            · refine q_iload_n C dX10_isPair_55 (n := 56) rfl rfl ?_
              refine q_bipush C dX10_isPair_56 (n := 58) rfl (x := 60) (by decide) ?_
              refine q_icmp_eq C 67 dX10_isPair_58 (n := 61) rfl rfl (by omega) (fun h7 => ?_) (fun h7 => ?_)
              · refine q_iconst C dX10_isPair_67 (n := 68) rfl ?_
                refine q_goto C 72 dX10_isPair_68 rfl ?_
                exact q_zret C dX10_isPair_72 ⟨rfl, rfl⟩ (by omega) (by rw [hPo]; exact ⟨1, rfl, rfl, by omega⟩)
              · refine q_iload_n C dX10_isPair_61 (n := 62) rfl rfl ?_
                refine q_bipush C dX10_isPair_62 (n := 64) rfl (x := 62) (by decide) ?_
                refine q_icmp_ne C 71 dX10_isPair_64 (n := 67) rfl rfl (by omega) (fun h8 => ?_) (fun h8 => ?_)
                · refine q_iconst C dX10_isPair_71 (n := 72) rfl ?_
                  exact q_zret C dX10_isPair_72 ⟨rfl, rfl⟩ (by omega) (by rw [hPo]; exact ⟨0, rfl, rfl, by omega⟩)
                · refine q_iconst C dX10_isPair_67 (n := 68) rfl ?_
                  refine q_goto C 72 dX10_isPair_68 rfl ?_
                  exact q_zret C dX10_isPair_72 ⟨rfl, rfl⟩ (by omega) (by rw [hPo]; exact ⟨1, rfl, rfl, by omega⟩)
  refine q_icmp_ne C 26 dX10_isPair_3 (n := 6) rfl rfl (by omega) (fun h9 => ?_) (fun h9 => ?_)
  · exact zK.weak (J_1) (zwk_c (zwk_c zwk_e))
  · refine q_iload_n C dX10_isPair_6 (n := 7) rfl rfl ?_
    refine q_bipush C dX10_isPair_7 (n := 9) rfl (x := 33) (by decide) ?_
    refine q_icmp_eq C 24 dX10_isPair_9 (n := 12) rfl rfl (by omega) (fun h10 => ?_) (fun h10 => ?_)
    · refine q_iconst C dX10_isPair_24 (n := 25) rfl ?_
      exact q_zret C dX10_isPair_25 ⟨rfl, rfl⟩ (by omega) (by rw [hPo]; exact ⟨1, rfl, rfl, by omega⟩)
    · refine q_iload_n C dX10_isPair_12 (n := 13) rfl rfl ?_
      refine q_bipush C dX10_isPair_13 (n := 15) rfl (x := 60) (by decide) ?_
      refine q_icmp_eq C 24 dX10_isPair_15 (n := 18) rfl rfl (by omega) (fun h11 => ?_) (fun h11 => ?_)
      · refine q_iconst C dX10_isPair_24 (n := 25) rfl ?_
        exact q_zret C dX10_isPair_25 ⟨rfl, rfl⟩ (by omega) (by rw [hPo]; exact ⟨1, rfl, rfl, by omega⟩)
      · refine q_iload_n C dX10_isPair_18 (n := 19) rfl rfl ?_
        refine q_bipush C dX10_isPair_19 (n := 21) rfl (x := 62) (by decide) ?_
        refine q_icmp_ne C 26 dX10_isPair_21 (n := 24) rfl rfl (by omega) (fun h12 => ?_) (fun h12 => ?_)
        · exact zK.weak (J_1) (zwk_c (zwk_c zwk_e))
        · refine q_iconst C dX10_isPair_24 (n := 25) rfl ?_
          exact q_zret C dX10_isPair_25 ⟨rfl, rfl⟩ (by omega) (by rw [hPo]; exact ⟨1, rfl, rfl, by omega⟩)
theorem c_X10_byteAt {w : zWp} {T : zTl} {M : zMm} {J : zJm} {R : zRm'} {G : zGt} {F : zRm'} {a L : Nat} (hI : zI G M) (hF : zF F R) (h0 : zText T F G a L) (i0 : Int) (p1 : L ≤ 1000000) (p2 : -2147483648 ≤ i0 ∧ i0 ≤ 2147483647) : zCt w 1 0 0 yX10_byteAt cX10_byteAt 2 (some .int) [.ref (w.2.1 + a), zi i0] (T, M, J, R) (zPp T M J R (fun x => (-128 ≤ x ∧ x ≤ 127))) := by
  refine zCt.of rfl (Nat.le_of_ble_eq_true rfl) ?_
  intro p e s m args below meth c C
  obtain ⟨Po, hPo⟩ : ∃ Po, Po = zPp T M J R (fun x => (-128 ≤ x ∧ x ≤ 127)) := ⟨_, rfl⟩
  rw [← hPo]
  show zK w p e 1 0 0 s m args below meth c 2 T Po 0 [.ref (w.2.1 + a), zi i0] [] (T, M, J, R)
  refine q_iload_n C dX10_byteAt_0 (n := 1) rfl rfl ?_
  refine q_if_lt C 13 dX10_byteAt_1 (n := 4) rfl rfl (by omega) (fun h1 => ?_) (fun h1 => ?_)
  · refine q_iconst C dX10_byteAt_13 (n := 14) rfl ?_
    refine q_goto C 23 dX10_byteAt_14 rfl ?_
    exact q_iret C dX10_byteAt_23 ⟨rfl, rfl⟩ (by rw [hPo]; exact ⟨0, rfl, rfl, by omega⟩)
  · refine q_iload_n C dX10_byteAt_4 (n := 5) rfl rfl ?_
    refine q_aload_n C dX10_byteAt_5 (n := 6) rfl rfl ?_
    refine q_getR C dX10_byteAt_6 (n := 9) rfl f_X10_15 h0.1 (hF _ _ _ h0.2.1) ?_
    refine q_alen C dX10_byteAt_9 (n := 10) rfl ⟨by decide, by decide⟩ h0.2.2.1 ?_
    refine q_icmp_lt C 17 dX10_byteAt_10 (n := 13) rfl rfl (by omega) (fun h2 => ?_) (fun h2 => ?_)
    · refine q_aload_n C dX10_byteAt_17 (n := 18) rfl rfl ?_
      refine q_getR C dX10_byteAt_18 (n := 21) rfl f_X10_15 h0.1 (hF _ _ _ h0.2.1) ?_
      refine q_iload_n C dX10_byteAt_21 (n := 22) rfl rfl ?_
      have g3 := zI.at hI (h0.2.2.2.1 i0)
      refine q_bald C dX10_byteAt_22 (n := 23) rfl h0.2.2.1 (by omega) (v := M (a + 1) i0) rfl ?_
      exact q_iret C dX10_byteAt_23 ⟨rfl, rfl⟩ (by rw [hPo]; exact ⟨M (a + 1) i0, rfl, rfl, by omega⟩)
    · refine q_iconst C dX10_byteAt_13 (n := 14) rfl ?_
      refine q_goto C 23 dX10_byteAt_14 rfl ?_
      exact q_iret C dX10_byteAt_23 ⟨rfl, rfl⟩ (by rw [hPo]; exact ⟨0, rfl, rfl, by omega⟩)
theorem c_X10_isAlike {w : zWp} {T : zTl} {M : zMm} {J : zJm} {R : zRm'} {G : zGt} {F : zRm'} {q N tb : Nat} (hI : zI G M) (hF : zF F R) (t_b0 : T[q]? = some (51, N)) (g_b0 : ∀ k, G q k = (tb, (-128), 127)) (i0 : Int) (j0 : Int) (len : Int) (p1 : N ≤ 1000000) (p2 : -1000000 ≤ i0 ∧ i0 ≤ 1000000) (p3 : -1000000 ≤ j0 ∧ j0 ≤ 1000000) (p4 : 0 ≤ len ∧ len ≤ 1000000) : zCt w 1 0 0 yX10_isAlike cX10_isAlike 5 (some .boolean) [.ref (w.2.1 + q), zi i0, zi j0, zi len] (T, M, J, R) (zPp T M J R (fun x => (x = 0 ∨ x = 1))) := by
  refine zCt.of rfl (Nat.le_of_ble_eq_true rfl) ?_
  intro p e s m args below meth c C
  obtain ⟨Po, hPo⟩ : ∃ Po, Po = zPp T M J R (fun x => (x = 0 ∨ x = 1)) := ⟨_, rfl⟩
  rw [← hPo]
  show zK w p e 1 0 0 s m args below meth c 5 T Po 0 [.ref (w.2.1 + q), zi i0, zi j0, zi len, .null] [] (T, M, J, R)
  refine q_iload_n C dX10_isAlike_0 (n := 1) rfl rfl ?_
  refine q_if_lt C 24 dX10_isAlike_1 (n := 4) rfl rfl (by omega) (fun h1 => ?_) (fun h1 => ?_)
  · refine q_iconst C dX10_isAlike_24 (n := 25) rfl ?_
    exact q_zret C dX10_isAlike_25 ⟨rfl, rfl⟩ (by omega) (by rw [hPo]; exact ⟨0, rfl, rfl, by omega⟩)
  · refine q_iload_n C dX10_isAlike_4 (n := 5) rfl rfl ?_
    refine q_if_lt C 24 dX10_isAlike_5 (n := 8) rfl rfl (by omega) (fun h2 => ?_) (fun h2 => ?_)
    · refine q_iconst C dX10_isAlike_24 (n := 25) rfl ?_
      exact q_zret C dX10_isAlike_25 ⟨rfl, rfl⟩ (by omega) (by rw [hPo]; exact ⟨0, rfl, rfl, by omega⟩)
    · refine q_iload_n C dX10_isAlike_8 (n := 9) rfl rfl ?_
      refine q_iload_n C dX10_isAlike_9 (n := 10) rfl rfl ?_
      refine q_iadd C dX10_isAlike_10 (n := 11) rfl (v := i0 + len) rfl ?_
      refine q_aload_n C dX10_isAlike_11 (n := 12) rfl rfl ?_
      refine q_alen C dX10_isAlike_12 (n := 13) rfl ⟨by decide, by decide⟩ t_b0 ?_
      refine q_icmp_gt C 24 dX10_isAlike_13 (n := 16) rfl rfl (by omega) (fun h3 => ?_) (fun h3 => ?_)
      · refine q_iconst C dX10_isAlike_24 (n := 25) rfl ?_
        exact q_zret C dX10_isAlike_25 ⟨rfl, rfl⟩ (by omega) (by rw [hPo]; exact ⟨0, rfl, rfl, by omega⟩)
      · refine q_iload_n C dX10_isAlike_16 (n := 17) rfl rfl ?_
        refine q_iload_n C dX10_isAlike_17 (n := 18) rfl rfl ?_
        refine q_iadd C dX10_isAlike_18 (n := 19) rfl (v := j0 + len) rfl ?_
        refine q_aload_n C dX10_isAlike_19 (n := 20) rfl rfl ?_
        refine q_alen C dX10_isAlike_20 (n := 21) rfl ⟨by decide, by decide⟩ t_b0 ?_
        refine q_icmp_le C 26 dX10_isAlike_21 (n := 24) rfl rfl (by omega) (fun h4 => ?_) (fun h4 => ?_)
        · refine q_iconst C dX10_isAlike_26 (n := 27) rfl ?_
          refine q_istore C [.ref (w.2.1 + q), zi i0, zi j0, zi len, zi 0] dX10_isAlike_27 (n := 29) rfl rfl rfl ?_
          have L_8 : ∀ n9 : Nat, ∀ (u5 : Int), (-2147483648 ≤ u5 ∧ u5 ≤ 2147483647) → (0 ≤ u5 ∧ u5 ≤ len) → (len - u5 + 1 ≤ (n9 : Int)) → zK w p e 1 0 0 s m args below meth c 5 T Po 29 [.ref (w.2.1 + q), zi i0, zi j0, zi len, zi u5] [] (T, M, J, R) := by
            intro n9
            induction n9 with
            | zero =>
              intro u5 h6 h7 hm11
              exfalso
              omega
            | succ n9 ih10 =>
              intro u5 h6 h7 hm11
              refine q_iload C dX10_isAlike_29 (n := 31) rfl rfl ?_
              refine q_iload_n C dX10_isAlike_31 (n := 32) rfl rfl ?_
              refine q_icmp_ge C 58 dX10_isAlike_32 (n := 35) rfl rfl (by omega) (fun h12 => ?_) (fun h12 => ?_)
              · refine q_iconst C dX10_isAlike_58 (n := 59) rfl ?_
                exact q_zret C dX10_isAlike_59 ⟨rfl, rfl⟩ (by omega) (by rw [hPo]; exact ⟨1, rfl, rfl, by omega⟩)
              · refine q_aload_n C dX10_isAlike_35 (n := 36) rfl rfl ?_
                refine q_iload_n C dX10_isAlike_36 (n := 37) rfl rfl ?_
                refine q_iload C dX10_isAlike_37 (n := 39) rfl rfl ?_
                refine q_iadd C dX10_isAlike_39 (n := 40) rfl (v := i0 + u5) rfl ?_
                have g13 := zI.at hI (g_b0 (i0 + u5))
                refine q_bald C dX10_isAlike_40 (n := 41) rfl t_b0 (by omega) (v := M q (i0 + u5)) rfl ?_
                refine q_aload_n C dX10_isAlike_41 (n := 42) rfl rfl ?_
                refine q_iload_n C dX10_isAlike_42 (n := 43) rfl rfl ?_
                refine q_iload C dX10_isAlike_43 (n := 45) rfl rfl ?_
                refine q_iadd C dX10_isAlike_45 (n := 46) rfl (v := j0 + u5) rfl ?_
                have g14 := zI.at hI (g_b0 (j0 + u5))
                refine q_bald C dX10_isAlike_46 (n := 47) rfl t_b0 (by omega) (v := M q (j0 + u5)) rfl ?_
                refine q_icmp_eq C 52 dX10_isAlike_47 (n := 50) rfl rfl (by omega) (fun h15 => ?_) (fun h15 => ?_)
                · refine q_iinc C [.ref (w.2.1 + q), zi i0, zi j0, zi len, zi (u5 + 1)] dX10_isAlike_52 (n := 55) rfl rfl rfl rfl ?_
                  refine q_goto C 29 dX10_isAlike_55 rfl ?_
                  exact zK.weak (ih10 (u5 + 1) (by omega) (by omega) (by omega)) (zwk_c (zwk_c (zwk_c (zwk_c (zwk_c zwk_e)))))
                · refine q_iconst C dX10_isAlike_50 (n := 51) rfl ?_
                  exact q_zret C dX10_isAlike_51 ⟨rfl, rfl⟩ (by omega) (by rw [hPo]; exact ⟨0, rfl, rfl, by omega⟩)
          exact zK.weak (L_8 _ 0 (by omega) (by omega) (Int.self_le_toNat _)) (zwk_c (zwk_c (zwk_c (zwk_c (zwk_c zwk_e)))))
        · refine q_iconst C dX10_isAlike_24 (n := 25) rfl ?_
          exact q_zret C dX10_isAlike_25 ⟨rfl, rfl⟩ (by omega) (by rw [hPo]; exact ⟨0, rfl, rfl, by omega⟩)
theorem c_J7_fill {w : zWp} {T : zTl} {M : zMm} {J : zJm} {R : zRm'} {G : zGt} {F : zRm'} {q N : Nat} {lo hi : Int} (hI : zI G M) (hF : zF F R) (t_a0 : T[q]? = some (50, N)) (g_a0 : ∀ k, G q k = (0, lo, hi)) (v : Int) (p1 : N ≤ 1000000) (p2 : lo ≤ v ∧ v ≤ hi) : zCt w 1 0 0 yJ7_fill_53178 cJ7_fill_53178 4 none [.ref (w.2.1 + q), zi v] (T, M, J, R) (zPv T R G (fun M2 => (zKp G 1 M M2))) := by
  refine zCt.of rfl (Nat.le_of_ble_eq_true rfl) ?_
  intro p e s m args below meth c C
  obtain ⟨Po, hPo⟩ : ∃ Po, Po = zPv T R G (fun M2 => (zKp G 1 M M2)) := ⟨_, rfl⟩
  rw [← hPo]
  have hK0 : zKp G 1 M M := zKp.rf
  show zK w p e 1 0 0 s m args below meth c 4 T Po 0 [.ref (w.2.1 + q), zi v, .null, .null] [] (T, M, J, R)
  refine q_iconst C dJ7_fill_53178_0 (n := 1) rfl ?_
  refine q_istore_n C [.ref (w.2.1 + q), zi v, zi 0, .null] dJ7_fill_53178_1 (n := 2) rfl rfl rfl ?_
  refine q_aload_n C dJ7_fill_53178_2 (n := 3) rfl rfl ?_
  refine q_alen C dJ7_fill_53178_3 (n := 4) rfl ⟨by decide, by decide⟩ t_a0 ?_
  refine q_istore_n C [.ref (w.2.1 + q), zi v, zi 0, zi ((N : Nat) : Int)] dJ7_fill_53178_4 (n := 5) rfl rfl rfl ?_
  have L_8 : ∀ n9 : Nat, ∀ (u1 : Int) (M2 : zMm) (J3 : zJm), zI G M2 → zKp G 1 M M2 → (-2147483648 ≤ u1 ∧ u1 ≤ 2147483647) → (0 ≤ u1 ∧ u1 ≤ N) → (N - u1 + 1 ≤ (n9 : Int)) → zK w p e 1 0 0 s m args below meth c 4 T Po 5 [.ref (w.2.1 + q), zi v, zi u1, zi ((N : Nat) : Int)] [] (T, M2, J3, R) := by
    intro n9
    induction n9 with
    | zero =>
      intro u1 M2 J3 hI4 hK5 h6 h7 hm11
      exfalso
      omega
    | succ n9 ih10 =>
      intro u1 M2 J3 hI4 hK5 h6 h7 hm11
      refine q_iload_n C dJ7_fill_53178_5 (n := 6) rfl rfl ?_
      refine q_iload_n C dJ7_fill_53178_6 (n := 7) rfl rfl ?_
      refine q_icmp_ge C 20 dJ7_fill_53178_7 (n := 10) rfl rfl (by omega) (fun h12 => ?_) (fun h12 => ?_)
      · exact q_vret C dJ7_fill_53178_20 ⟨rfl, rfl⟩ (by rw [hPo]; exact ⟨M2, J3, rfl, rfl, hI4, hK5⟩)
      · refine q_aload_n C dJ7_fill_53178_10 (n := 11) rfl rfl ?_
        refine q_iload_n C dJ7_fill_53178_11 (n := 12) rfl rfl ?_
        refine q_iload_n C dJ7_fill_53178_12 (n := 13) rfl rfl ?_
        refine q_iast C dJ7_fill_53178_13 (n := 14) rfl t_a0 (by omega)  (fun M13 e14 => ?_)
        have hI15 : zI G M13 := hI4.put e14 (g_a0 u1) rfl (by omega)
        have hK16 := hK5.put e14 (g_a0 u1) (by decide)
        refine q_iinc C [.ref (w.2.1 + q), zi v, zi (u1 + 1), zi ((N : Nat) : Int)] dJ7_fill_53178_14 (n := 17) rfl rfl rfl rfl ?_
        refine q_goto C 5 dJ7_fill_53178_17 rfl ?_
        exact zK.weak (ih10 (u1 + 1) M13 J3 hI15 hK16 (by omega) (by omega) (by omega)) (zwk_c (zwk_c (zwk_c (zwk_c zwk_e))))
  exact zK.weak (L_8 _ 0 M J hI hK0 (by omega) (by omega) (Int.self_le_toNat _)) (zwk_c (zwk_c (zwk_c (zwk_c zwk_e))))
theorem c_X10_endOf {w : zWp} {T : zTl} {M : zMm} {J : zJm} {R : zRm'} {G : zGt} {F : zRm'} {a L : Nat} (hI : zI G M) (hF : zF F R) (h0 : zText T F G a L) (i0 : Int) (j0 : Int) (p1 : L ≤ 1000000) (p2 : -2147483648 ≤ i0 ∧ i0 ≤ 2147483647) (p3 : -2147483648 ≤ j0 ∧ j0 ≤ 2147483647) : zCt w 2 0 0 yX10_endOf cX10_endOf 5 (some .int) [.ref (w.2.1 + a), zi i0, zi j0] (T, M, J, R) (zPp T M J R (fun x => (x = -1 ∨ i0 < x ∧ x ≤ j0 ∧ 0 ≤ i0 ∧ j0 ≤ L))) := by
  refine zCt.of rfl (Nat.le_of_ble_eq_true rfl) ?_
  intro p e s m args below meth c C
  obtain ⟨Po, hPo⟩ : ∃ Po, Po = zPp T M J R (fun x => (x = -1 ∨ i0 < x ∧ x ≤ j0 ∧ 0 ≤ i0 ∧ j0 ≤ L)) := ⟨_, rfl⟩
  rw [← hPo]
  show zK w p e 2 0 0 s m args below meth c 5 T Po 0 [.ref (w.2.1 + a), zi i0, zi j0, .null, .null] [] (T, M, J, R)
  refine q_iload_n C dX10_endOf_0 (n := 1) rfl rfl ?_
  refine q_if_lt C 18 dX10_endOf_1 (n := 4) rfl rfl (by omega) (fun h1 => ?_) (fun h1 => ?_)
  · refine q_iconst C dX10_endOf_18 (n := 19) rfl ?_
    exact q_iret C dX10_endOf_19 ⟨rfl, rfl⟩ (by rw [hPo]; exact ⟨(-1), rfl, rfl, by omega⟩)
  · refine q_iload_n C dX10_endOf_4 (n := 5) rfl rfl ?_
    refine q_iload_n C dX10_endOf_5 (n := 6) rfl rfl ?_
    refine q_icmp_ge C 18 dX10_endOf_6 (n := 9) rfl rfl (by omega) (fun h2 => ?_) (fun h2 => ?_)
    · refine q_iconst C dX10_endOf_18 (n := 19) rfl ?_
      exact q_iret C dX10_endOf_19 ⟨rfl, rfl⟩ (by rw [hPo]; exact ⟨(-1), rfl, rfl, by omega⟩)
    · refine q_iload_n C dX10_endOf_9 (n := 10) rfl rfl ?_
      refine q_aload_n C dX10_endOf_10 (n := 11) rfl rfl ?_
      refine q_getR C dX10_endOf_11 (n := 14) rfl f_X10_15 h0.1 (hF _ _ _ h0.2.1) ?_
      refine q_alen C dX10_endOf_14 (n := 15) rfl ⟨by decide, by decide⟩ h0.2.2.1 ?_
      refine q_icmp_le C 20 dX10_endOf_15 (n := 18) rfl rfl (by omega) (fun h3 => ?_) (fun h3 => ?_)
      · refine q_aload_n C dX10_endOf_20 (n := 21) rfl rfl ?_
        refine q_getR C dX10_endOf_21 (n := 24) rfl f_X10_15 h0.1 (hF _ _ _ h0.2.1) ?_
        refine q_iload_n C dX10_endOf_24 (n := 25) rfl rfl ?_
        have g4 := zI.at hI (h0.2.2.2.1 i0)
        refine q_bald C dX10_endOf_25 (n := 26) rfl h0.2.2.1 (by omega) (v := M (a + 1) i0) rfl ?_
        refine q_istore_n C [.ref (w.2.1 + a), zi i0, zi j0, zi (M (a + 1) i0), .null] dX10_endOf_26 (n := 27) rfl rfl rfl ?_
        refine q_iload_n C dX10_endOf_27 (n := 28) rfl rfl ?_
        refine q_iconst C dX10_endOf_28 (n := 29) rfl ?_
        refine q_iadd C dX10_endOf_29 (n := 30) rfl (v := i0 + 1) rfl ?_
        refine q_istore C [.ref (w.2.1 + a), zi i0, zi j0, zi (M (a + 1) i0), zi (i0 + 1)] dX10_endOf_30 (n := 32) rfl rfl rfl ?_
        refine q_iload_n C dX10_endOf_32 (n := 33) rfl rfl ?_
        refine q_callSp C dX10_endOf_33 (n := 36) rfl m_X10_29 s_yX10_isWord (c_X10_isWord (w := w) (J := J) hI hF (M (a + 1) i0) (by omega)) (Nat.le_of_ble_eq_true rfl) rfl rfl (Nat.le_of_ble_eq_true rfl) ⟨Nat.le_refl _, Nat.le_refl _⟩ (fun x6 h7 => ?_)
        refine q_if_eq C 67 dX10_endOf_36 (n := 39) rfl rfl (by omega) (fun h8 => ?_) (fun h8 => ?_)
        · refine q_iload_n C dX10_endOf_67 (n := 68) rfl rfl ?_
          refine q_bipush C dX10_endOf_68 (n := 70) rfl (x := 34) (by decide) ?_
          refine q_icmp_ne C 112 dX10_endOf_70 (n := 73) rfl rfl (by omega) (fun h9 => ?_) (fun h9 => ?_)
          · refine q_iload C dX10_endOf_112 (n := 114) rfl rfl ?_
            refine q_iload_n C dX10_endOf_114 (n := 115) rfl rfl ?_
            refine q_icmp_ge C 139 dX10_endOf_115 (n := 118) rfl rfl (by omega) (fun h10 => ?_) (fun h10 => ?_)
            · refine q_iload C dX10_endOf_139 (n := 141) rfl rfl ?_
              exact q_iret C dX10_endOf_141 ⟨rfl, rfl⟩ (by rw [hPo]; exact ⟨i0 + 1, rfl, rfl, by omega⟩)
            · refine q_iload_n C dX10_endOf_118 (n := 119) rfl rfl ?_
              refine q_aload_n C dX10_endOf_119 (n := 120) rfl rfl ?_
              refine q_getR C dX10_endOf_120 (n := 123) rfl f_X10_15 h0.1 (hF _ _ _ h0.2.1) ?_
              refine q_iload C dX10_endOf_123 (n := 125) rfl rfl ?_
              have g11 := zI.at hI (h0.2.2.2.1 (i0 + 1))
              refine q_bald C dX10_endOf_125 (n := 126) rfl h0.2.2.1 (by omega) (v := M (a + 1) (i0 + 1)) rfl ?_
              refine q_callSp C dX10_endOf_126 (n := 129) rfl m_X10_33 s_yX10_isPair (c_X10_isPair (w := w) (J := J) hI hF (M (a + 1) i0) (M (a + 1) (i0 + 1)) (by omega) (by omega)) (Nat.le_of_ble_eq_true rfl) rfl rfl (Nat.le_of_ble_eq_true rfl) ⟨Nat.le_refl _, Nat.le_refl _⟩ (fun x13 h14 => ?_)
              refine q_if_eq C 139 dX10_endOf_129 (n := 132) rfl rfl (by omega) (fun h15 => ?_) (fun h15 => ?_)
              · refine q_iload C dX10_endOf_139 (n := 141) rfl rfl ?_
                exact q_iret C dX10_endOf_141 ⟨rfl, rfl⟩ (by rw [hPo]; exact ⟨i0 + 1, rfl, rfl, by omega⟩)
              · refine q_iload C dX10_endOf_132 (n := 134) rfl rfl ?_
                refine q_iconst C dX10_endOf_134 (n := 135) rfl ?_
                refine q_iadd C dX10_endOf_135 (n := 136) rfl (v := (i0 + 1) + 1) rfl ?_
                refine q_goto C 141 dX10_endOf_136 rfl ?_
                exact q_iret C dX10_endOf_141 ⟨rfl, rfl⟩ (by rw [hPo]; exact ⟨(i0 + 1) + 1, rfl, rfl, by omega⟩)
          · have L_19 : ∀ n20 : Nat, ∀ (u16 : Int), (-2147483648 ≤ u16 ∧ u16 ≤ 2147483647) → (i0 < u16 ∧ u16 ≤ j0) → (j0 - u16 + 1 ≤ (n20 : Int)) → zK w p e 2 0 0 s m args below meth c 5 T Po 73 [.ref (w.2.1 + a), .null, zi j0, .null, zi u16] [] (T, M, J, R) := by
              intro n20
              induction n20 with
              | zero =>
                intro u16 h17 h18 hm22
                exfalso
                omega
              | succ n20 ih21 =>
                intro u16 h17 h18 hm22
                refine q_iload C dX10_endOf_73 (n := 75) rfl rfl ?_
                refine q_iload_n C dX10_endOf_75 (n := 76) rfl rfl ?_
                have J_23 : zK w p e 2 0 0 s m args below meth c 5 T Po 97 [.null, .null, zi j0, .null, zi u16] [] (T, M, J, R) := by
                  refine q_iload C dX10_endOf_97 (n := 99) rfl rfl ?_
                  refine q_iload_n C dX10_endOf_99 (n := 100) rfl rfl ?_
                  refine q_icmp_ge C 110 dX10_endOf_100 (n := 103) rfl rfl (by omega) (fun h24 => ?_) (fun h24 => ?_)
                  · refine q_iconst C dX10_endOf_110 (n := 111) rfl ?_
                    exact q_iret C dX10_endOf_111 ⟨rfl, rfl⟩ (by rw [hPo]; exact ⟨(-1), rfl, rfl, by omega⟩)
                  · refine q_iload C dX10_endOf_103 (n := 105) rfl rfl ?_
                    refine q_iconst C dX10_endOf_105 (n := 106) rfl ?_
                    refine q_iadd C dX10_endOf_106 (n := 107) rfl (v := u16 + 1) rfl ?_
                    refine q_goto C 111 dX10_endOf_107 rfl ?_
                    exact q_iret C dX10_endOf_111 ⟨rfl, rfl⟩ (by rw [hPo]; exact ⟨u16 + 1, rfl, rfl, by omega⟩)
                refine q_icmp_ge C 97 dX10_endOf_76 (n := 79) rfl rfl (by omega) (fun h25 => ?_) (fun h25 => ?_)
                · exact zK.weak (J_23) (zwk_n (zwk_n (zwk_c (zwk_n (zwk_c zwk_e)))))
                · refine q_aload_n C dX10_endOf_79 (n := 80) rfl rfl ?_
                  refine q_getR C dX10_endOf_80 (n := 83) rfl f_X10_15 h0.1 (hF _ _ _ h0.2.1) ?_
                  refine q_iload C dX10_endOf_83 (n := 85) rfl rfl ?_
                  have g26 := zI.at hI (h0.2.2.2.1 u16)
                  refine q_bald C dX10_endOf_85 (n := 86) rfl h0.2.2.1 (by omega) (v := M (a + 1) u16) rfl ?_
                  refine q_bipush C dX10_endOf_86 (n := 88) rfl (x := 34) (by decide) ?_
                  refine q_icmp_eq C 97 dX10_endOf_88 (n := 91) rfl rfl (by omega) (fun h27 => ?_) (fun h27 => ?_)
                  · exact zK.weak (J_23) (zwk_n (zwk_n (zwk_c (zwk_n (zwk_c zwk_e)))))
                  · refine q_iinc C [.ref (w.2.1 + a), .null, zi j0, .null, zi (u16 + 1)] dX10_endOf_91 (n := 94) rfl rfl rfl rfl ?_
                    refine q_goto C 73 dX10_endOf_94 rfl ?_
                    exact zK.weak (ih21 (u16 + 1) (by omega) (by omega) (by omega)) (zwk_c (zwk_n (zwk_c (zwk_n (zwk_c zwk_e)))))
            exact zK.weak (L_19 _ (i0 + 1) (by omega) (by omega) (Int.self_le_toNat _)) (zwk_c (zwk_n (zwk_c (zwk_n (zwk_c zwk_e)))))
        · have L_31 : ∀ n32 : Nat, ∀ (u28 : Int), (-2147483648 ≤ u28 ∧ u28 ≤ 2147483647) → (i0 < u28 ∧ u28 ≤ j0) → (j0 - u28 + 1 ≤ (n32 : Int)) → zK w p e 2 0 0 s m args below meth c 5 T Po 39 [.ref (w.2.1 + a), .null, zi j0, .null, zi u28] [] (T, M, J, R) := by
            intro n32
            induction n32 with
            | zero =>
              intro u28 h29 h30 hm34
              exfalso
              omega
            | succ n32 ih33 =>
              intro u28 h29 h30 hm34
              refine q_iload C dX10_endOf_39 (n := 41) rfl rfl ?_
              refine q_iload_n C dX10_endOf_41 (n := 42) rfl rfl ?_
              refine q_icmp_ge C 64 dX10_endOf_42 (n := 45) rfl rfl (by omega) (fun h35 => ?_) (fun h35 => ?_)
              · refine q_iload C dX10_endOf_64 (n := 66) rfl rfl ?_
                exact q_iret C dX10_endOf_66 ⟨rfl, rfl⟩ (by rw [hPo]; exact ⟨u28, rfl, rfl, by omega⟩)
              · refine q_aload_n C dX10_endOf_45 (n := 46) rfl rfl ?_
                refine q_getR C dX10_endOf_46 (n := 49) rfl f_X10_15 h0.1 (hF _ _ _ h0.2.1) ?_
                refine q_iload C dX10_endOf_49 (n := 51) rfl rfl ?_
                have g36 := zI.at hI (h0.2.2.2.1 u28)
                refine q_bald C dX10_endOf_51 (n := 52) rfl h0.2.2.1 (by omega) (v := M (a + 1) u28) rfl ?_
                refine q_callSp C dX10_endOf_52 (n := 55) rfl m_X10_29 s_yX10_isWord (c_X10_isWord (w := w) (J := J) hI hF (M (a + 1) u28) (by omega)) (Nat.le_of_ble_eq_true rfl) rfl rfl (Nat.le_of_ble_eq_true rfl) ⟨Nat.le_refl _, Nat.le_refl _⟩ (fun x38 h39 => ?_)
                refine q_if_eq C 64 dX10_endOf_55 (n := 58) rfl rfl (by omega) (fun h40 => ?_) (fun h40 => ?_)
                · refine q_iload C dX10_endOf_64 (n := 66) rfl rfl ?_
                  exact q_iret C dX10_endOf_66 ⟨rfl, rfl⟩ (by rw [hPo]; exact ⟨u28, rfl, rfl, by omega⟩)
                · refine q_iinc C [.ref (w.2.1 + a), .null, zi j0, .null, zi (u28 + 1)] dX10_endOf_58 (n := 61) rfl rfl rfl rfl ?_
                  refine q_goto C 39 dX10_endOf_61 rfl ?_
                  exact zK.weak (ih33 (u28 + 1) (by omega) (by omega) (by omega)) (zwk_c (zwk_n (zwk_c (zwk_n (zwk_c zwk_e)))))
          exact zK.weak (L_31 _ (i0 + 1) (by omega) (by omega) (Int.self_le_toNat _)) (zwk_c (zwk_n (zwk_c (zwk_n (zwk_c zwk_e)))))
      · refine q_iconst C dX10_endOf_18 (n := 19) rfl ?_
        exact q_iret C dX10_endOf_19 ⟨rfl, rfl⟩ (by rw [hPo]; exact ⟨(-1), rfl, rfl, by omega⟩)
theorem c_X10_kindAt {w : zWp} {T : zTl} {M : zMm} {J : zJm} {R : zRm'} {G : zGt} {F : zRm'} {a L : Nat} (hI : zI G M) (hF : zF F R) (h0 : zText T F G a L) (i0 : Int) (p1 : L ≤ 1000000) (p2 : -2147483648 ≤ i0 ∧ i0 ≤ 2147483647) : zCt w 2 0 0 yX10_kindAt cX10_kindAt 3 (some .int) [.ref (w.2.1 + a), zi i0] (T, M, J, R) (zPp T M J R (fun x => (0 ≤ x ∧ x ≤ 3))) := by
  refine zCt.of rfl (Nat.le_of_ble_eq_true rfl) ?_
  intro p e s m args below meth c C
  obtain ⟨Po, hPo⟩ : ∃ Po, Po = zPp T M J R (fun x => (0 ≤ x ∧ x ≤ 3)) := ⟨_, rfl⟩
  rw [← hPo]
  show zK w p e 2 0 0 s m args below meth c 3 T Po 0 [.ref (w.2.1 + a), zi i0, .null] [] (T, M, J, R)
  refine q_aload_n C dX10_kindAt_0 (n := 1) rfl rfl ?_
  refine q_iload_n C dX10_kindAt_1 (n := 2) rfl rfl ?_
  refine q_callVp C dX10_kindAt_2 (n := 5) rfl m_X10_37 v_yX10_byteAt h0.1 ⟨by decide, rfl⟩ (c_X10_byteAt (w := w) (J := J) hI hF h0 i0 (by omega) (by omega)) (Nat.le_of_ble_eq_true rfl) rfl rfl (Nat.le_of_ble_eq_true rfl) ⟨Nat.le_refl _, Nat.le_refl _⟩ (fun x2 h3 => ?_)
  refine q_istore_n C [.ref (w.2.1 + a), zi i0, zi x2] dX10_kindAt_5 (n := 6) rfl rfl rfl ?_
  refine q_iload_n C dX10_kindAt_6 (n := 7) rfl rfl ?_
  refine q_callSp C dX10_kindAt_7 (n := 10) rfl m_X10_29 s_yX10_isWord (c_X10_isWord (w := w) (J := J) hI hF x2 (by omega)) (Nat.le_of_ble_eq_true rfl) rfl rfl (Nat.le_of_ble_eq_true rfl) ⟨Nat.le_refl _, Nat.le_refl _⟩ (fun x5 h6 => ?_)
  refine q_if_ne C 25 dX10_kindAt_10 (n := 13) rfl rfl (by omega) (fun h7 => ?_) (fun h7 => ?_)
  · refine q_iload_n C dX10_kindAt_25 (n := 26) rfl rfl ?_
    refine q_callSp C dX10_kindAt_26 (n := 29) rfl m_X10_41 s_yX10_isDigit (c_X10_isDigit (w := w) (J := J) hI hF x2 (by omega)) (Nat.le_of_ble_eq_true rfl) rfl rfl (Nat.le_of_ble_eq_true rfl) ⟨Nat.le_refl _, Nat.le_refl _⟩ (fun x9 h10 => ?_)
    refine q_if_eq C 36 dX10_kindAt_29 (n := 32) rfl rfl (by omega) (fun h11 => ?_) (fun h11 => ?_)
    · refine q_iconst C dX10_kindAt_36 (n := 37) rfl ?_
      exact q_iret C dX10_kindAt_37 ⟨rfl, rfl⟩ (by rw [hPo]; exact ⟨0, rfl, rfl, by omega⟩)
    · refine q_iconst C dX10_kindAt_32 (n := 33) rfl ?_
      refine q_goto C 37 dX10_kindAt_33 rfl ?_
      exact q_iret C dX10_kindAt_37 ⟨rfl, rfl⟩ (by rw [hPo]; exact ⟨1, rfl, rfl, by omega⟩)
  · refine q_iload_n C dX10_kindAt_13 (n := 14) rfl rfl ?_
    refine q_bipush C dX10_kindAt_14 (n := 16) rfl (x := 34) (by decide) ?_
    refine q_icmp_ne C 23 dX10_kindAt_16 (n := 19) rfl rfl (by omega) (fun h12 => ?_) (fun h12 => ?_)
    · refine q_iconst C dX10_kindAt_23 (n := 24) rfl ?_
      exact q_iret C dX10_kindAt_24 ⟨rfl, rfl⟩ (by rw [hPo]; exact ⟨3, rfl, rfl, by omega⟩)
    · refine q_iconst C dX10_kindAt_19 (n := 20) rfl ?_
      refine q_goto C 24 dX10_kindAt_20 rfl ?_
      exact q_iret C dX10_kindAt_24 ⟨rfl, rfl⟩ (by rw [hPo]; exact ⟨2, rfl, rfl, by omega⟩)
theorem c_X10_signOf {w : zWp} {T : zTl} {M : zMm} {J : zJm} {R : zRm'} {G : zGt} {F : zRm'} {a L : Nat} (hI : zI G M) (hF : zF F R) (h0 : zText T F G a L) (i0 : Int) (v : Int) (p1 : L ≤ 1000000) (p2 : -2147483648 ≤ i0 ∧ i0 ≤ 2147483646) : zCt w 1 0 0 yX10_signOf cX10_signOf 4 (some .int) [.ref (w.2.1 + a), zi i0, zi v] (T, M, J, R) (zPp T M J R (fun x => (-2147483648 ≤ x ∧ x ≤ 2147483647))) := by
  refine zCt.of rfl (Nat.le_of_ble_eq_true rfl) ?_
  intro p e s m args below meth c C
  obtain ⟨Po, hPo⟩ : ∃ Po, Po = zPp T M J R (fun x => (-2147483648 ≤ x ∧ x ≤ 2147483647)) := ⟨_, rfl⟩
  rw [← hPo]
  show zK w p e 1 0 0 s m args below meth c 4 T Po 0 [.ref (w.2.1 + a), zi i0, zi v, .null] [] (T, M, J, R)
  refine q_iload_n C dX10_signOf_0 (n := 1) rfl rfl ?_
  refine q_bipush C dX10_signOf_1 (n := 3) rfl (x := 127) (by decide) ?_
  refine q_iand C dX10_signOf_3 (n := 4) rfl (v := zand v 127) rfl ?_
  have g1 := zand_r (x := v) (k := 127) (by omega)
  refine q_istore_n C [.ref (w.2.1 + a), zi i0, zi v, zi (zand v 127)] dX10_signOf_4 (n := 5) rfl rfl rfl ?_
  refine q_iload_n C dX10_signOf_5 (n := 6) rfl rfl ?_
  refine q_bipush C dX10_signOf_6 (n := 8) rfl (x := 97) (by decide) ?_
  have J_2 : zK w p e 1 0 0 s m args below meth c 4 T Po 31 [.ref (w.2.1 + a), zi i0, .null, zi (zand v 127)] [] (T, M, J, R) := by
    refine q_iload_n C dX10_signOf_31 (n := 32) rfl rfl ?_
    refine q_bipush C dX10_signOf_32 (n := 34) rfl (x := 98) (by decide) ?_
    refine q_icmp_ne C 71 dX10_signOf_34 (n := 37) rfl rfl (by omega) (fun h3 => ?_) (fun h3 => ?_)
    · refine q_iconst C dX10_signOf_71 (n := 72) rfl ?_
      exact q_iret C dX10_signOf_72 ⟨rfl, rfl⟩ (by rw [hPo]; exact ⟨0, rfl, rfl, by omega⟩)
    · refine q_iload_n C dX10_signOf_37 (n := 38) rfl rfl ?_
      refine q_if_lt C 71 dX10_signOf_38 (n := 41) rfl rfl (by omega) (fun h4 => ?_) (fun h4 => ?_)
      · refine q_iconst C dX10_signOf_71 (n := 72) rfl ?_
        exact q_iret C dX10_signOf_72 ⟨rfl, rfl⟩ (by rw [hPo]; exact ⟨0, rfl, rfl, by omega⟩)
      · refine q_iload_n C dX10_signOf_41 (n := 42) rfl rfl ?_
        refine q_iconst C dX10_signOf_42 (n := 43) rfl ?_
        refine q_iadd C dX10_signOf_43 (n := 44) rfl (v := i0 + 1) rfl ?_
        refine q_aload_n C dX10_signOf_44 (n := 45) rfl rfl ?_
        refine q_getR C dX10_signOf_45 (n := 48) rfl f_X10_15 h0.1 (hF _ _ _ h0.2.1) ?_
        refine q_alen C dX10_signOf_48 (n := 49) rfl ⟨by decide, by decide⟩ h0.2.2.1 ?_
        refine q_icmp_ge C 71 dX10_signOf_49 (n := 52) rfl rfl (by omega) (fun h5 => ?_) (fun h5 => ?_)
        · refine q_iconst C dX10_signOf_71 (n := 72) rfl ?_
          exact q_iret C dX10_signOf_72 ⟨rfl, rfl⟩ (by rw [hPo]; exact ⟨0, rfl, rfl, by omega⟩)
        · refine q_aload_n C dX10_signOf_52 (n := 53) rfl rfl ?_
          refine q_getR C dX10_signOf_53 (n := 56) rfl f_X10_15 h0.1 (hF _ _ _ h0.2.1) ?_
          refine q_iload_n C dX10_signOf_56 (n := 57) rfl rfl ?_
          have g6 := zI.at hI (h0.2.2.2.1 i0)
          refine q_bald C dX10_signOf_57 (n := 58) rfl h0.2.2.1 (by omega) (v := M (a + 1) i0) rfl ?_
          refine q_aload_n C dX10_signOf_58 (n := 59) rfl rfl ?_
          refine q_getR C dX10_signOf_59 (n := 62) rfl f_X10_15 h0.1 (hF _ _ _ h0.2.1) ?_
          refine q_iload_n C dX10_signOf_62 (n := 63) rfl rfl ?_
          refine q_iconst C dX10_signOf_63 (n := 64) rfl ?_
          refine q_iadd C dX10_signOf_64 (n := 65) rfl (v := i0 + 1) rfl ?_
          have g7 := zI.at hI (h0.2.2.2.1 (i0 + 1))
          refine q_bald C dX10_signOf_65 (n := 66) rfl h0.2.2.1 (by omega) (v := M (a + 1) (i0 + 1)) rfl ?_
          refine q_bipush C dX10_signOf_66 (n := 68) rfl (x := 8) (by decide) ?_
          refine q_ishl C dX10_signOf_68 (n := 69) rfl (v := zshl (M (a + 1) (i0 + 1)) 8) rfl ?_
          have g8 := zr_shl (M (a + 1) (i0 + 1)) 8
          refine q_ior C dX10_signOf_69 (n := 70) rfl (v := zor (M (a + 1) i0) (zshl (M (a + 1) (i0 + 1)) 8)) rfl ?_
          have g9 := zr_or (M (a + 1) i0) (zshl (M (a + 1) (i0 + 1)) 8)
          have g10 : zand (M (a + 1) i0) 31 = 0 → zand (zor (M (a + 1) i0) (zshl (M (a + 1) (i0 + 1)) 8)) 31 = zand (zshl (M (a + 1) (i0 + 1)) 8) 31 := fun h => zl_or h
          exact q_iret C dX10_signOf_70 ⟨rfl, rfl⟩ (by rw [hPo]; exact ⟨zor (M (a + 1) i0) (zshl (M (a + 1) (i0 + 1)) 8), rfl, rfl, by omega⟩)
  refine q_icmp_ne C 31 dX10_signOf_8 (n := 11) rfl rfl (by omega) (fun h11 => ?_) (fun h11 => ?_)
  · exact zK.weak (J_2) (zwk_c (zwk_c (zwk_n (zwk_c zwk_e))))
  · refine q_iload_n C dX10_signOf_11 (n := 12) rfl rfl ?_
    refine q_if_lt C 31 dX10_signOf_12 (n := 15) rfl rfl (by omega) (fun h12 => ?_) (fun h12 => ?_)
    · exact zK.weak (J_2) (zwk_c (zwk_c (zwk_n (zwk_c zwk_e))))
    · refine q_iload_n C dX10_signOf_15 (n := 16) rfl rfl ?_
      refine q_aload_n C dX10_signOf_16 (n := 17) rfl rfl ?_
      refine q_getR C dX10_signOf_17 (n := 20) rfl f_X10_15 h0.1 (hF _ _ _ h0.2.1) ?_
      refine q_alen C dX10_signOf_20 (n := 21) rfl ⟨by decide, by decide⟩ h0.2.2.1 ?_
      refine q_icmp_ge C 31 dX10_signOf_21 (n := 24) rfl rfl (by omega) (fun h13 => ?_) (fun h13 => ?_)
      · exact zK.weak (J_2) (zwk_c (zwk_c (zwk_n (zwk_c zwk_e))))
      · refine q_aload_n C dX10_signOf_24 (n := 25) rfl rfl ?_
        refine q_getR C dX10_signOf_25 (n := 28) rfl f_X10_15 h0.1 (hF _ _ _ h0.2.1) ?_
        refine q_iload_n C dX10_signOf_28 (n := 29) rfl rfl ?_
        have g14 := zI.at hI (h0.2.2.2.1 i0)
        refine q_bald C dX10_signOf_29 (n := 30) rfl h0.2.2.1 (by omega) (v := M (a + 1) i0) rfl ?_
        exact q_iret C dX10_signOf_30 ⟨rfl, rfl⟩ (by rw [hPo]; exact ⟨M (a + 1) i0, rfl, rfl, by omega⟩)
