theorem c_X5_shape {w : zWp} {T : zTl} {M : zMm} {J : zJm} {R : zRm'} {G : zGt} {F : zRm'}  (hI : zI G M) (hF : zF F R) (v1 : Int) (v2 : Int) : zCt w 1 0 0 yX5_shape cX5_shape 2 (some .int) [zi v1, zi v2] (T, M, J, R) (zPp T M J R (fun x => (-2147483648 ≤ x ∧ x ≤ 2147483647) ∧ (0 ≤ v2 ∧ v2 ≤ 31 → zand x 31 = v2))) := by
  refine zCt.of rfl (Nat.le_of_ble_eq_true rfl) ?_
  intro p e s m args below meth c C
  obtain ⟨Po, hPo⟩ : ∃ Po, Po = zPp T M J R (fun x => (-2147483648 ≤ x ∧ x ≤ 2147483647) ∧ (0 ≤ v2 ∧ v2 ≤ 31 → zand x 31 = v2)) := ⟨_, rfl⟩
  rw [← hPo]
  show zK w p e 1 0 0 s m args below meth c 2 T Po 0 [zi v1, zi v2] [] (T, M, J, R)
  refine q_iload_n C dX5_shape_0 (n := 1) rfl rfl ?_
  refine q_iconst C dX5_shape_1 (n := 2) rfl ?_
  refine q_ishl C dX5_shape_2 (n := 3) rfl (v := zshl v1 5) rfl ?_
  have g1 := zr_shl v1 5
  refine q_iload_n C dX5_shape_3 (n := 4) rfl rfl ?_
  refine q_ior C dX5_shape_4 (n := 5) rfl (v := zor (zshl v1 5) v2) rfl ?_
  have g2 := zr_or (zshl v1 5) v2
  have g3 : zand (zshl v1 5) 31 = 0 → zand (zor (zshl v1 5) v2) 31 = zand v2 31 := fun h => zl_or h
  exact q_iret C dX5_shape_5 ⟨rfl, rfl⟩ (by rw [hPo]; exact ⟨zor (zshl v1 5) v2, rfl, rfl, by omega, fun h => zl_shape h⟩)
theorem c_X5_from {w : zWp} {T : zTl} {M : zMm} {J : zJm} {R : zRm'} {G : zGt} {F : zRm'}  (hI : zI G M) (hF : zF F R) (v1 : Int) (v2 : Int) : zCt w 1 0 0 yX5_from cX5_from 2 (some .int) [zi v1, zi v2] (T, M, J, R) (zPp T M J R (fun x => (-2147483648 ≤ x ∧ x ≤ 2147483647) ∧ (zand x 31 = zand v1 31))) := by
  refine zCt.of rfl (Nat.le_of_ble_eq_true rfl) ?_
  intro p e s m args below meth c C
  obtain ⟨Po, hPo⟩ : ∃ Po, Po = zPp T M J R (fun x => (-2147483648 ≤ x ∧ x ≤ 2147483647) ∧ (zand x 31 = zand v1 31)) := ⟨_, rfl⟩
  rw [← hPo]
  show zK w p e 1 0 0 s m args below meth c 2 T Po 0 [zi v1, zi v2] [] (T, M, J, R)
  refine q_iload_n C dX5_from_0 (n := 1) rfl rfl ?_
  refine q_sipush C dX5_from_1 (n := 4) rfl (x := 255) (by decide) ?_
  refine q_iand C dX5_from_4 (n := 5) rfl (v := zand v1 255) rfl ?_
  have g1 := zand_r (x := v1) (k := 255) (by omega)
  refine q_iload_n C dX5_from_5 (n := 6) rfl rfl ?_
  refine q_sipush C dX5_from_6 (n := 9) rfl (x := (-256)) (by decide) ?_
  refine q_iand C dX5_from_9 (n := 10) rfl (v := zand v2 (-256)) rfl ?_
  have g2 := zr_and v2 (-256)
  refine q_ior C dX5_from_10 (n := 11) rfl (v := zor (zand v1 255) (zand v2 (-256))) rfl ?_
  have g3 := zr_or (zand v1 255) (zand v2 (-256))
  have g4 : zand (zand v1 255) 31 = 0 → zand (zor (zand v1 255) (zand v2 (-256))) 31 = zand (zand v2 (-256)) 31 := fun h => zl_or h
  exact q_iret C dX5_from_11 ⟨rfl, rfl⟩ (by rw [hPo]; exact ⟨zor (zand v1 255) (zand v2 (-256)), rfl, rfl, by omega, zl_from _ _⟩)
theorem c_X5_blankAs {w : zWp} {T : zTl} {M : zMm} {J : zJm} {R : zRm'} {G : zGt} {F : zRm'}  (hI : zI G M) (hF : zF F R) (v1 : Int) (v2 : Int) : zCt w 1 0 0 yX5_blankAs cX5_blankAs 2 (some .int) [zi v1, zi v2] (T, M, J, R) (zPp T M J R (fun x => (-2147483648 ≤ x ∧ x ≤ 2147483647) ∧ (zand x 31 = zand v1 31))) := by
  refine zCt.of rfl (Nat.le_of_ble_eq_true rfl) ?_
  intro p e s m args below meth c C
  obtain ⟨Po, hPo⟩ : ∃ Po, Po = zPp T M J R (fun x => (-2147483648 ≤ x ∧ x ≤ 2147483647) ∧ (zand x 31 = zand v1 31)) := ⟨_, rfl⟩
  rw [← hPo]
  show zK w p e 1 0 0 s m args below meth c 2 T Po 0 [zi v1, zi v2] [] (T, M, J, R)
  refine q_iload_n C dX5_blankAs_0 (n := 1) rfl rfl ?_
  refine q_sipush C dX5_blankAs_1 (n := 4) rfl (x := (-129)) (by decide) ?_
  refine q_iand C dX5_blankAs_4 (n := 5) rfl (v := zand v1 (-129)) rfl ?_
  have g1 := zr_and v1 (-129)
  refine q_iload_n C dX5_blankAs_5 (n := 6) rfl rfl ?_
  refine q_sipush C dX5_blankAs_6 (n := 9) rfl (x := 128) (by decide) ?_
  refine q_iand C dX5_blankAs_9 (n := 10) rfl (v := zand v2 128) rfl ?_
  have g2 := zand_r (x := v2) (k := 128) (by omega)
  refine q_ior C dX5_blankAs_10 (n := 11) rfl (v := zor (zand v1 (-129)) (zand v2 128)) rfl ?_
  have g3 := zr_or (zand v1 (-129)) (zand v2 128)
  have g4 : zand (zand v1 (-129)) 31 = 0 → zand (zor (zand v1 (-129)) (zand v2 128)) 31 = zand (zand v2 128) 31 := fun h => zl_or h
  exact q_iret C dX5_blankAs_11 ⟨rfl, rfl⟩ (by rw [hPo]; exact ⟨zor (zand v1 (-129)) (zand v2 128), rfl, rfl, by omega, zl_blank _ _⟩)
theorem c_X5_origin {w : zWp} {T : zTl} {M : zMm} {J : zJm} {R : zRm'} {G : zGt} {F : zRm'}  (hI : zI G M) (hF : zF F R) (f : Int) (l : Int) (pl : Int) : zCt w 1 0 0 yX5_origin cX5_origin 3 (some .int) [zi f, zi l, zi pl] (T, M, J, R) (zPp T M J R (fun x => (-2147483648 ≤ x ∧ x ≤ 2147483647) ∧ (zand x 31 = 0))) := by
  refine zCt.of rfl (Nat.le_of_ble_eq_true rfl) ?_
  intro p e s m args below meth c C
  obtain ⟨Po, hPo⟩ : ∃ Po, Po = zPp T M J R (fun x => (-2147483648 ≤ x ∧ x ≤ 2147483647) ∧ (zand x 31 = 0)) := ⟨_, rfl⟩
  rw [← hPo]
  show zK w p e 1 0 0 s m args below meth c 3 T Po 0 [zi f, zi l, zi pl] [] (T, M, J, R)
  refine q_iload_n C dX5_origin_0 (n := 1) rfl rfl ?_
  refine q_bipush C dX5_origin_1 (n := 3) rfl (x := 8) (by decide) ?_
  refine q_ishl C dX5_origin_3 (n := 4) rfl (v := zshl pl 8) rfl ?_
  have g1 := zr_shl pl 8
  refine q_iload_n C dX5_origin_4 (n := 5) rfl rfl ?_
  refine q_iconst C dX5_origin_5 (n := 6) rfl ?_
  refine q_iadd C dX5_origin_6 (n := 7) rfl (v := f + 1) rfl ?_
  refine q_bipush C dX5_origin_7 (n := 9) rfl (x := 17) (by decide) ?_
  refine q_ishl C dX5_origin_9 (n := 10) rfl (v := zshl (f + 1) 17) rfl ?_
  have g2 := zr_shl (f + 1) 17
  refine q_ior C dX5_origin_10 (n := 11) rfl (v := zor (zshl pl 8) (zshl (f + 1) 17)) rfl ?_
  have g3 := zr_or (zshl pl 8) (zshl (f + 1) 17)
  have g4 : zand (zshl pl 8) 31 = 0 → zand (zor (zshl pl 8) (zshl (f + 1) 17)) 31 = zand (zshl (f + 1) 17) 31 := fun h => zl_or h
  refine q_iload_n C dX5_origin_11 (n := 12) rfl rfl ?_
  refine q_iconst C dX5_origin_12 (n := 13) rfl ?_
  refine q_iadd C dX5_origin_13 (n := 14) rfl (v := l + 1) rfl ?_
  refine q_bipush C dX5_origin_14 (n := 16) rfl (x := 20) (by decide) ?_
  refine q_ishl C dX5_origin_16 (n := 17) rfl (v := zshl (l + 1) 20) rfl ?_
  have g5 := zr_shl (l + 1) 20
  refine q_ior C dX5_origin_17 (n := 18) rfl (v := zor (zor (zshl pl 8) (zshl (f + 1) 17)) (zshl (l + 1) 20)) rfl ?_
  have g6 := zr_or (zor (zshl pl 8) (zshl (f + 1) 17)) (zshl (l + 1) 20)
  have g7 : zand (zor (zshl pl 8) (zshl (f + 1) 17)) 31 = 0 → zand (zor (zor (zshl pl 8) (zshl (f + 1) 17)) (zshl (l + 1) 20)) 31 = zand (zshl (l + 1) 20) 31 := fun h => zl_or h
  exact q_iret C dX5_origin_18 ⟨rfl, rfl⟩ (by rw [hPo]; exact ⟨zor (zor (zshl pl 8) (zshl (f + 1) 17)) (zshl (l + 1) 20), rfl, rfl, by omega, zl_orig _ _ _⟩)
theorem c_X2_enterRow {w : zWp} {T : zTl} {M : zMm} {J : zJm} {R : zRm'} {G : zGt} {F : zRm'} {a L : Nat} (hI : zI G M) (hF : zF F R) (h0 : zFrame T F G a L) (v1 : Int) (v2 : Int) (p1 : -1 ≤ v1 ∧ v1 ≤ 3439) (p2 : -1 ≤ v2 ∧ v2 ≤ 3439) : zCt w 1 0 0 yX2_enterRow cX2_enterRow 3 none [.ref (w.2.1 + a), zi v1, zi v2] (T, M, J, R) (zPv T R G (fun M2 => (zKp G 1 M M2))) := by
  refine zCt.of rfl (Nat.le_of_ble_eq_true rfl) ?_
  intro p e s m args below meth c C
  obtain ⟨Po, hPo⟩ : ∃ Po, Po = zPv T R G (fun M2 => (zKp G 1 M M2)) := ⟨_, rfl⟩
  rw [← hPo]
  have hK0 : zKp G 1 M M := zKp.rf
  show zK w p e 1 0 0 s m args below meth c 3 T Po 0 [.ref (w.2.1 + a), zi v1, zi v2] [] (T, M, J, R)
  refine q_aload_n C dX2_enterRow_0 (n := 1) rfl rfl ?_
  refine q_iload_n C dX2_enterRow_1 (n := 2) rfl rfl ?_
  refine q_putI C dX2_enterRow_2 (n := 5) rfl f_X2_9 h0.1 ⟨rfl, rfl⟩ (fun M1 (e2 : M1 = zup M a 0 v1) => ?_)
  have hI3 : zI G M1 := hI.put e2 h0.2.1 rfl (by omega)
  have hK4 := hK0.put e2 h0.2.1 (by decide)
  refine q_aload_n C dX2_enterRow_5 (n := 6) rfl rfl ?_
  refine q_iload_n C dX2_enterRow_6 (n := 7) rfl rfl ?_
  refine q_putI C dX2_enterRow_7 (n := 10) rfl f_X2_15 h0.1 ⟨rfl, rfl⟩ (fun M5 (e6 : M5 = zup M1 a 1 v2) => ?_)
  have hI7 : zI G M5 := hI3.put e6 h0.2.2.1 rfl (by omega)
  have hK8 := hK4.put e6 h0.2.2.1 (by decide)
  refine q_aload_n C dX2_enterRow_10 (n := 11) rfl rfl ?_
  refine q_iconst C dX2_enterRow_11 (n := 12) rfl ?_
  refine q_putZ C dX2_enterRow_12 (n := 15) rfl f_X2_18 h0.1 ⟨rfl, rfl⟩ (by omega) (fun M9 (e10 : M9 = zup M5 a 2 0) => ?_)
  have hI11 : zI G M9 := hI7.put e10 h0.2.2.2.1 rfl (by omega)
  have hK12 := hK8.put e10 h0.2.2.2.1 (by decide)
  refine q_aload_n C dX2_enterRow_15 (n := 16) rfl rfl ?_
  refine q_iconst C dX2_enterRow_16 (n := 17) rfl ?_
  refine q_putI C dX2_enterRow_17 (n := 20) rfl f_X2_22 h0.1 ⟨rfl, rfl⟩ (fun M13 (e14 : M13 = zup M9 a 3 (-1)) => ?_)
  have hI15 : zI G M13 := hI11.put e14 h0.2.2.2.2.1 rfl (by omega)
  have hK16 := hK12.put e14 h0.2.2.2.2.1 (by decide)
  exact q_vret C dX2_enterRow_20 ⟨rfl, rfl⟩ (by rw [hPo]; exact ⟨M13, J, rfl, rfl, hI15, hK16⟩)
theorem c_X2_beginReplacing {w : zWp} {T : zTl} {M : zMm} {J : zJm} {R : zRm'} {G : zGt} {F : zRm'} {a L : Nat} (hI : zI G M) (hF : zF F R) (h0 : zFrame T F G a L) (v1 : Int) (v2 : Int) (v3 : Int) (v4 : Int) (p1 : -1 ≤ v1 ∧ v1 ≤ 11) (p2 : -2147483648 ≤ v2 ∧ v2 ≤ 2147483647) (p3 : -2147483648 ≤ v3 ∧ v3 ≤ 2147483647) (p4 : -1 ≤ v4 ∧ v4 ≤ 3439) : zCt w 1 0 0 yX2_beginReplacing cX2_beginReplacing 5 none [.ref (w.2.1 + a), zi v1, zi v2, zi v3, zi v4] (T, M, J, R) (zPv T R G (fun M2 => (zKp G 1 M M2))) := by
  refine zCt.of rfl (Nat.le_of_ble_eq_true rfl) ?_
  intro p e s m args below meth c C
  obtain ⟨Po, hPo⟩ : ∃ Po, Po = zPv T R G (fun M2 => (zKp G 1 M M2)) := ⟨_, rfl⟩
  rw [← hPo]
  have hK0 : zKp G 1 M M := zKp.rf
  show zK w p e 1 0 0 s m args below meth c 5 T Po 0 [.ref (w.2.1 + a), zi v1, zi v2, zi v3, zi v4] [] (T, M, J, R)
  refine q_aload_n C dX2_beginReplacing_0 (n := 1) rfl rfl ?_
  refine q_iload_n C dX2_beginReplacing_1 (n := 2) rfl rfl ?_
  refine q_putI C dX2_beginReplacing_2 (n := 5) rfl f_X2_22 h0.1 ⟨rfl, rfl⟩ (fun M1 (e2 : M1 = zup M a 3 v1) => ?_)
  have hI3 : zI G M1 := hI.put e2 h0.2.2.2.2.1 rfl (by omega)
  have hK4 := hK0.put e2 h0.2.2.2.2.1 (by decide)
  refine q_aload_n C dX2_beginReplacing_5 (n := 6) rfl rfl ?_
  refine q_iconst C dX2_beginReplacing_6 (n := 7) rfl ?_
  refine q_putI C dX2_beginReplacing_7 (n := 10) rfl f_X2_25 h0.1 ⟨rfl, rfl⟩ (fun M5 (e6 : M5 = zup M1 a 4 0) => ?_)
  have hI7 : zI G M5 := hI3.put e6 h0.2.2.2.2.2.1 rfl (by omega)
  have hK8 := hK4.put e6 h0.2.2.2.2.2.1 (by decide)
  refine q_aload_n C dX2_beginReplacing_10 (n := 11) rfl rfl ?_
  refine q_iload_n C dX2_beginReplacing_11 (n := 12) rfl rfl ?_
  refine q_putI C dX2_beginReplacing_12 (n := 15) rfl f_X2_28 h0.1 ⟨rfl, rfl⟩ (fun M9 (e10 : M9 = zup M5 a 5 v2) => ?_)
  have hI11 : zI G M9 := hI7.put e10 h0.2.2.2.2.2.2.1 rfl (by omega)
  have hK12 := hK8.put e10 h0.2.2.2.2.2.2.1 (by decide)
  refine q_aload_n C dX2_beginReplacing_15 (n := 16) rfl rfl ?_
  refine q_iload_n C dX2_beginReplacing_16 (n := 17) rfl rfl ?_
  refine q_putI C dX2_beginReplacing_17 (n := 20) rfl f_X2_31 h0.1 ⟨rfl, rfl⟩ (fun M13 (e14 : M13 = zup M9 a 6 v3) => ?_)
  have hI15 : zI G M13 := hI11.put e14 h0.2.2.2.2.2.2.2.1 rfl (by omega)
  have hK16 := hK12.put e14 h0.2.2.2.2.2.2.2.1 (by decide)
  refine q_aload_n C dX2_beginReplacing_20 (n := 21) rfl rfl ?_
  refine q_iload C dX2_beginReplacing_21 (n := 23) rfl rfl ?_
  refine q_putI C dX2_beginReplacing_23 (n := 26) rfl f_X2_34 h0.1 ⟨rfl, rfl⟩ (fun M17 (e18 : M17 = zup M13 a 7 v4) => ?_)
  have hI19 : zI G M17 := hI15.put e18 h0.2.2.2.2.2.2.2.2.1 rfl (by omega)
  have hK20 := hK16.put e18 h0.2.2.2.2.2.2.2.2.1 (by decide)
  refine q_aload_n C dX2_beginReplacing_26 (n := 27) rfl rfl ?_
  refine q_getR C dX2_beginReplacing_27 (n := 30) rfl f_X2_52 h0.1 (hF _ _ _ h0.2.2.2.2.2.2.2.2.2.2.2.2.2.2.2.2.1) ?_
  refine q_iconst C dX2_beginReplacing_30 (n := 31) rfl ?_
  refine q_putI C dX2_beginReplacing_31 (n := 34) rfl f_X2_74 h0.2.2.2.2.2.2.2.2.2.2.2.2.2.2.2.2.2.1.1 ⟨rfl, rfl⟩ (fun M21 (e22 : M21 = zup M17 (a + 3) 3 0) => ?_)
  have hI23 : zI G M21 := hI19.put e22 h0.2.2.2.2.2.2.2.2.2.2.2.2.2.2.2.2.2.1.2.2.2.2.2.2.2.2.2.2 rfl (by omega)
  have hK24 := hK20.put e22 h0.2.2.2.2.2.2.2.2.2.2.2.2.2.2.2.2.2.1.2.2.2.2.2.2.2.2.2.2 (by decide)
  refine q_aload_n C dX2_beginReplacing_34 (n := 35) rfl rfl ?_
  refine q_iconst C dX2_beginReplacing_35 (n := 36) rfl ?_
  refine q_putZ C dX2_beginReplacing_36 (n := 39) rfl f_X2_56 h0.1 ⟨rfl, rfl⟩ (by omega) (fun M25 (e26 : M25 = zup M21 a 12 0) => ?_)
  have hI27 : zI G M25 := hI23.put e26 h0.2.2.2.2.2.2.2.2.2.2.2.2.2.2.2.2.2.2.1 rfl (by omega)
  have hK28 := hK24.put e26 h0.2.2.2.2.2.2.2.2.2.2.2.2.2.2.2.2.2.2.1 (by decide)
  refine q_aload_n C dX2_beginReplacing_39 (n := 40) rfl rfl ?_
  refine q_iconst C dX2_beginReplacing_40 (n := 41) rfl ?_
  refine q_putZ C dX2_beginReplacing_41 (n := 44) rfl f_X2_68 h0.1 ⟨rfl, rfl⟩ (by omega) (fun M29 (e30 : M29 = zup M25 a 16 0) => ?_)
  have hI31 : zI G M29 := hI27.put e30 h0.2.2.2.2.2.2.2.2.2.2.2.2.2.2.2.2.2.2.2.2.2.2.1 rfl (by omega)
  have hK32 := hK28.put e30 h0.2.2.2.2.2.2.2.2.2.2.2.2.2.2.2.2.2.2.2.2.2.2.1 (by decide)
  refine q_aload_n C dX2_beginReplacing_44 (n := 45) rfl rfl ?_
  refine q_iconst C dX2_beginReplacing_45 (n := 46) rfl ?_
  refine q_putI C dX2_beginReplacing_46 (n := 49) rfl f_X2_71 h0.1 ⟨rfl, rfl⟩ (fun M33 (e34 : M33 = zup M29 a 17 0) => ?_)
  have hI35 : zI G M33 := hI31.put e34 h0.2.2.2.2.2.2.2.2.2.2.2.2.2.2.2.2.2.2.2.2.2.2.2 rfl (by omega)
  have hK36 := hK32.put e34 h0.2.2.2.2.2.2.2.2.2.2.2.2.2.2.2.2.2.2.2.2.2.2.2 (by decide)
  exact q_vret C dX2_beginReplacing_49 ⟨rfl, rfl⟩ (by rw [hPo]; exact ⟨M33, J, rfl, rfl, hI35, hK36⟩)
theorem c_X2_beginItem {w : zWp} {T : zTl} {M : zMm} {J : zJm} {R : zRm'} {G : zGt} {F : zRm'} {a L : Nat} (hI : zI G M) (hF : zF F R) (h0 : zFrame T F G a L) (v1 : Int) (v2 : Int) (p1 : -2147483648 ≤ v1 ∧ v1 ≤ 2147483647) (p2 : -2147483648 ≤ v2 ∧ v2 ≤ 2147483647) (p3 : M a 4 ≤ 19) : zCt w 1 0 0 yX2_beginItem cX2_beginItem 3 none [.ref (w.2.1 + a), zi v1, zi v2] (T, M, J, R) (zPv T R G (fun M2 => (zKp G 1 M M2))) := by
  refine zCt.of rfl (Nat.le_of_ble_eq_true rfl) ?_
  intro p e s m args below meth c C
  obtain ⟨Po, hPo⟩ : ∃ Po, Po = zPv T R G (fun M2 => (zKp G 1 M M2)) := ⟨_, rfl⟩
  rw [← hPo]
  have hK0 : zKp G 1 M M := zKp.rf
  show zK w p e 1 0 0 s m args below meth c 3 T Po 0 [.ref (w.2.1 + a), zi v1, zi v2] [] (T, M, J, R)
  refine q_aload_n C dX2_beginItem_0 (n := 1) rfl rfl ?_
  refine q_dup C dX2_beginItem_1 (n := 2) rfl rfl ?_
  have g1 := zI.at hI h0.2.2.2.2.2.1
  refine q_getI C dX2_beginItem_2 (n := 5) rfl f_X2_25 h0.1 (v := M a 4) rfl ?_
  refine q_iconst C dX2_beginItem_5 (n := 6) rfl ?_
  refine q_iadd C dX2_beginItem_6 (n := 7) rfl (v := (M a 4) + 1) rfl ?_
  refine q_putI C dX2_beginItem_7 (n := 10) rfl f_X2_25 h0.1 ⟨rfl, rfl⟩ (fun M2 (e3 : M2 = zup M a 4 ((M a 4) + 1)) => ?_)
  have hI4 : zI G M2 := hI.put e3 h0.2.2.2.2.2.1 rfl (by omega)
  have hK5 := hK0.put e3 h0.2.2.2.2.2.1 (by decide)
  refine q_aload_n C dX2_beginItem_10 (n := 11) rfl rfl ?_
  refine q_iload_n C dX2_beginItem_11 (n := 12) rfl rfl ?_
  refine q_bipush C dX2_beginItem_12 (n := 14) rfl (x := 8) (by decide) ?_
  refine q_iand C dX2_beginItem_14 (n := 15) rfl (v := zand v1 8) rfl ?_
  have g6 := zand_r (x := v1) (k := 8) (by omega)
  have J_10 : ∀ (u7 : Int), (-2147483648 ≤ u7 ∧ u7 ≤ 2147483647) → (u7 = 0 ∨ u7 = 1) → zK w p e 1 0 0 s m args below meth c 3 T Po 30 [.ref (w.2.1 + a), zi v1, zi v2] [zi u7, .ref (w.2.1 + a)] (T, M2, J, R) := by
    intro u7 h8 h9
    refine q_putZ C dX2_beginItem_30 (n := 33) rfl f_X2_59 h0.1 ⟨rfl, rfl⟩ (by omega) (fun M11 (e12 : M11 = zup M2 a 13 u7) => ?_)
    have hI13 : zI G M11 := hI4.put e12 h0.2.2.2.2.2.2.2.2.2.2.2.2.2.2.2.2.2.2.2.1 rfl (by omega)
    have hK14 := hK5.put e12 h0.2.2.2.2.2.2.2.2.2.2.2.2.2.2.2.2.2.2.2.1 (by decide)
    refine q_aload_n C dX2_beginItem_33 (n := 34) rfl rfl ?_
    refine q_aload_n C dX2_beginItem_34 (n := 35) rfl rfl ?_
    refine q_getI C dX2_beginItem_35 (n := 38) rfl f_X2_59 h0.1 (v := u7) (zup_s e12) ?_
    refine q_putZ C dX2_beginItem_38 (n := 41) rfl f_X2_56 h0.1 ⟨rfl, rfl⟩ (by omega) (fun M15 (e16 : M15 = zup M11 a 12 u7) => ?_)
    have hI17 : zI G M15 := hI13.put e16 h0.2.2.2.2.2.2.2.2.2.2.2.2.2.2.2.2.2.2.1 rfl (by omega)
    have hK18 := hK14.put e16 h0.2.2.2.2.2.2.2.2.2.2.2.2.2.2.2.2.2.2.1 (by decide)
    refine q_aload_n C dX2_beginItem_41 (n := 42) rfl rfl ?_
    refine q_iload_n C dX2_beginItem_42 (n := 43) rfl rfl ?_
    refine q_iconst C dX2_beginItem_43 (n := 44) rfl ?_
    refine q_iand C dX2_beginItem_44 (n := 45) rfl (v := zand v1 1) rfl ?_
    have g19 := zand_r (x := v1) (k := 1) (by omega)
    refine q_if_eq C 52 dX2_beginItem_45 (n := 48) rfl rfl (by omega) (fun h20 => ?_) (fun h20 => ?_)
    · refine q_iconst C dX2_beginItem_52 (n := 53) rfl ?_
      refine q_putZ C dX2_beginItem_53 (n := 56) rfl f_X2_62 h0.1 ⟨rfl, rfl⟩ (by omega) (fun M21 (e22 : M21 = zup M15 a 14 0) => ?_)
      have hI23 : zI G M21 := hI17.put e22 h0.2.2.2.2.2.2.2.2.2.2.2.2.2.2.2.2.2.2.2.2.1 rfl (by omega)
      have hK24 := hK18.put e22 h0.2.2.2.2.2.2.2.2.2.2.2.2.2.2.2.2.2.2.2.2.1 (by decide)
      refine q_aload_n C dX2_beginItem_56 (n := 57) rfl rfl ?_
      refine q_iload_n C dX2_beginItem_57 (n := 58) rfl rfl ?_
      refine q_putI C dX2_beginItem_58 (n := 61) rfl f_X2_65 h0.1 ⟨rfl, rfl⟩ (fun M25 (e26 : M25 = zup M21 a 15 v2) => ?_)
      have hI27 : zI G M25 := hI23.put e26 h0.2.2.2.2.2.2.2.2.2.2.2.2.2.2.2.2.2.2.2.2.2.1 rfl (by omega)
      have hK28 := hK24.put e26 h0.2.2.2.2.2.2.2.2.2.2.2.2.2.2.2.2.2.2.2.2.2.1 (by decide)
      exact q_vret C dX2_beginItem_61 ⟨rfl, rfl⟩ (by rw [hPo]; exact ⟨M25, J, rfl, rfl, hI27, hK28⟩)
    · refine q_iconst C dX2_beginItem_48 (n := 49) rfl ?_
      refine q_goto C 53 dX2_beginItem_49 rfl ?_
      refine q_putZ C dX2_beginItem_53 (n := 56) rfl f_X2_62 h0.1 ⟨rfl, rfl⟩ (by omega) (fun M29 (e30 : M29 = zup M15 a 14 1) => ?_)
      have hI31 : zI G M29 := hI17.put e30 h0.2.2.2.2.2.2.2.2.2.2.2.2.2.2.2.2.2.2.2.2.1 rfl (by omega)
      have hK32 := hK18.put e30 h0.2.2.2.2.2.2.2.2.2.2.2.2.2.2.2.2.2.2.2.2.1 (by decide)
      refine q_aload_n C dX2_beginItem_56 (n := 57) rfl rfl ?_
      refine q_iload_n C dX2_beginItem_57 (n := 58) rfl rfl ?_
      refine q_putI C dX2_beginItem_58 (n := 61) rfl f_X2_65 h0.1 ⟨rfl, rfl⟩ (fun M33 (e34 : M33 = zup M29 a 15 v2) => ?_)
      have hI35 : zI G M33 := hI31.put e34 h0.2.2.2.2.2.2.2.2.2.2.2.2.2.2.2.2.2.2.2.2.2.1 rfl (by omega)
      have hK36 := hK32.put e34 h0.2.2.2.2.2.2.2.2.2.2.2.2.2.2.2.2.2.2.2.2.2.1 (by decide)
      exact q_vret C dX2_beginItem_61 ⟨rfl, rfl⟩ (by rw [hPo]; exact ⟨M33, J, rfl, rfl, hI35, hK36⟩)
  have J_37 : zK w p e 1 0 0 s m args below meth c 3 T Po 29 [.ref (w.2.1 + a), zi v1, zi v2] [.ref (w.2.1 + a)] (T, M2, J, R) := by
    refine q_iconst C dX2_beginItem_29 (n := 30) rfl ?_
    exact zK.weak (J_10 0 (by omega) (by omega)) (zwk_c (zwk_c (zwk_c zwk_e)))
  refine q_if_eq C 29 dX2_beginItem_15 (n := 18) rfl rfl (by omega) (fun h38 => ?_) (fun h38 => ?_)
  · exact zK.weak (J_37) (zwk_c (zwk_c (zwk_c zwk_e)))
  · refine q_aload_n C dX2_beginItem_18 (n := 19) rfl rfl ?_
    have g39 := zI.at hI h0.2.2.2.2.2.2.2.2.2.2.2.2.2.2.2.2.2.2.1
    refine q_getI C dX2_beginItem_19 (n := 22) rfl f_X2_56 h0.1 (v := M a 12) (zup_n e3 (by omega)) ?_
    refine q_if_eq C 29 dX2_beginItem_22 (n := 25) rfl rfl (by omega) (fun h40 => ?_) (fun h40 => ?_)
    · exact zK.weak (J_37) (zwk_c (zwk_c (zwk_c zwk_e)))
    · refine q_iconst C dX2_beginItem_25 (n := 26) rfl ?_
      refine q_goto C 30 dX2_beginItem_26 rfl ?_
      exact zK.weak (J_10 1 (by omega) (by omega)) (zwk_c (zwk_c (zwk_c zwk_e)))
theorem c_X2_put {w : zWp} {T : zTl} {M : zMm} {J : zJm} {R : zRm'} {G : zGt} {F : zRm'} {a L : Nat} (hI : zI G M) (hF : zF F R) (h0 : zFrame T F G a L) (v1 : Int) (v2 : Int) (v3 : Int) (p1 : 0 ≤ v1 ∧ v1 + zand v2 31 ≤ L ∧ zand v2 31 ≤ 30) (p2 : -2147483648 ≤ v2 ∧ v2 ≤ 2147483647) (p3 : -2147483648 ≤ v3 ∧ v3 ≤ 2147483647) : zCt w 2 0 0 yX2_put cX2_put 4 none [.ref (w.2.1 + a), zi v1, zi v2, zi v3] (T, M, J, R) (zPv T R G (fun M2 => (zKp G 4 M M2))) := by
  refine zCt.of rfl (Nat.le_of_ble_eq_true rfl) ?_
  intro p e s m args below meth c C
  obtain ⟨Po, hPo⟩ : ∃ Po, Po = zPv T R G (fun M2 => (zKp G 4 M M2)) := ⟨_, rfl⟩
  rw [← hPo]
  have hK0 : zKp G 4 M M := zKp.rf
  show zK w p e 2 0 0 s m args below meth c 4 T Po 0 [.ref (w.2.1 + a), zi v1, zi v2, zi v3] [] (T, M, J, R)
  refine q_aload_n C dX2_put_0 (n := 1) rfl rfl ?_
  refine q_getR C dX2_put_1 (n := 4) rfl f_X2_52 h0.1 (hF _ _ _ h0.2.2.2.2.2.2.2.2.2.2.2.2.2.2.2.2.1) ?_
  refine q_aload_n C dX2_put_4 (n := 5) rfl rfl ?_
  refine q_getR C dX2_put_5 (n := 8) rfl f_X2_52 h0.1 (hF _ _ _ h0.2.2.2.2.2.2.2.2.2.2.2.2.2.2.2.2.1) ?_
  have g1 := zI.at hI h0.2.2.2.2.2.2.2.2.2.2.2.2.2.2.2.2.2.1.2.2.2.2.2.2.2.2.2.2
  refine q_getI C dX2_put_8 (n := 11) rfl f_X2_74 h0.2.2.2.2.2.2.2.2.2.2.2.2.2.2.2.2.2.1.1 (v := M (a + 3) 3) rfl ?_
  refine q_bipush C dX2_put_11 (n := 13) rfl (x := 31) (by decide) ?_
  refine q_mmin C dX2_put_13 (n := 16) rfl x_X2_79 (by omega) (Nat.le_of_ble_eq_true rfl) (Nat.le_of_ble_eq_true rfl) ⟨Nat.le_refl _, Nat.le_refl _⟩ (fun x2 h3 h4 h5 => ?_)
  refine q_putI C dX2_put_16 (n := 19) rfl f_X2_74 h0.2.2.2.2.2.2.2.2.2.2.2.2.2.2.2.2.2.1.1 ⟨rfl, rfl⟩ (fun M6 (e7 : M6 = zup M (a + 3) 3 x2) => ?_)
  have hI8 : zI G M6 := hI.put e7 h0.2.2.2.2.2.2.2.2.2.2.2.2.2.2.2.2.2.1.2.2.2.2.2.2.2.2.2.2 rfl (by omega)
  have hK9 := hK0.put e7 h0.2.2.2.2.2.2.2.2.2.2.2.2.2.2.2.2.2.1.2.2.2.2.2.2.2.2.2.2 (by decide)
  refine q_aload_n C dX2_put_19 (n := 20) rfl rfl ?_
  refine q_getR C dX2_put_20 (n := 23) rfl f_X2_52 h0.1 (hF _ _ _ h0.2.2.2.2.2.2.2.2.2.2.2.2.2.2.2.2.1) ?_
  refine q_iload_n C dX2_put_23 (n := 24) rfl rfl ?_
  refine q_aload_n C dX2_put_24 (n := 25) rfl rfl ?_
  have g10 := zI.at hI h0.2.2.2.2.2.2.2.2.2.2.2.2.2.2.2.2.2.2.2.2.1
  refine q_getI C dX2_put_25 (n := 28) rfl f_X2_62 h0.1 (v := M a 14) (zup_p e7 (by omega) _) ?_
  have J_14 : ∀ (u11 : Int), (-2147483648 ≤ u11 ∧ u11 ≤ 2147483647) → (zand u11 31 = zand v2 31) → zK w p e 2 0 0 s m args below meth c 4 T Po 43 [.ref (w.2.1 + a), .null, .null, zi v3] [zi u11, zi v1, .ref (w.2.1 + (a + 3))] (T, M6, J, R) := by
    intro u11 h12 h13
    refine q_iload_n C dX2_put_43 (n := 44) rfl rfl ?_
    refine q_callVi C dX2_put_44 (n := 47) rfl m_X2_88 v_yX5_add h0.2.2.2.2.2.2.2.2.2.2.2.2.2.2.2.2.2.1.1 ⟨by decide, rfl⟩ (c_X5_add (w := w) (J := J) hI8 hF h0.2.2.2.2.2.2.2.2.2.2.2.2.2.2.2.2.2.1 v1 u11 v3 (by omega) (by omega) (by omega) (by omega)) (Nat.le_of_ble_eq_true rfl) rfl rfl (Nat.le_of_ble_eq_true rfl) ⟨Nat.le_refl _, Nat.le_refl _⟩ (fun x22 M18 J19  hI20 h21 => ?_)
    obtain ⟨hk23, h15, h16, h17⟩ := h21
    have hK24 := hK9.tr hk23 (by decide)
    have hz25 : M6 (a + 3) 3 = x2 := (zup_s e7)
    refine q_pop C dX2_put_47 (n := 48) rfl rfl ?_
    refine q_aload_n C dX2_put_48 (n := 49) rfl rfl ?_
    refine q_iconst C dX2_put_49 (n := 50) rfl ?_
    refine q_putZ C dX2_put_50 (n := 53) rfl f_X2_62 h0.1 ⟨rfl, rfl⟩ (by omega) (fun M26 (e27 : M26 = zup M18 a 14 0) => ?_)
    have hI28 : zI G M26 := hI20.put e27 h0.2.2.2.2.2.2.2.2.2.2.2.2.2.2.2.2.2.2.2.2.1 rfl (by omega)
    have hK29 := hK24.put e27 h0.2.2.2.2.2.2.2.2.2.2.2.2.2.2.2.2.2.2.2.2.1 (by decide)
    refine q_aload_n C dX2_put_53 (n := 54) rfl rfl ?_
    refine q_iconst C dX2_put_54 (n := 55) rfl ?_
    refine q_putZ C dX2_put_55 (n := 58) rfl f_X2_56 h0.1 ⟨rfl, rfl⟩ (by omega) (fun M30 (e31 : M30 = zup M26 a 12 1) => ?_)
    have hI32 : zI G M30 := hI28.put e31 h0.2.2.2.2.2.2.2.2.2.2.2.2.2.2.2.2.2.2.1 rfl (by omega)
    have hK33 := hK29.put e31 h0.2.2.2.2.2.2.2.2.2.2.2.2.2.2.2.2.2.2.1 (by decide)
    exact q_vret C dX2_put_58 ⟨rfl, rfl⟩ (by rw [hPo]; exact ⟨M30, J19, rfl, rfl, hI32, hK33⟩)
  refine q_if_eq C 42 dX2_put_28 (n := 31) rfl rfl (by omega) (fun h34 => ?_) (fun h34 => ?_)
  · refine q_iload_n C dX2_put_42 (n := 43) rfl rfl ?_
    exact zK.weak (J_14 v2 (by omega) (by omega)) (zwk_c (zwk_n (zwk_n (zwk_c zwk_e))))
  · refine q_iload_n C dX2_put_31 (n := 32) rfl rfl ?_
    refine q_aload_n C dX2_put_32 (n := 33) rfl rfl ?_
    have g35 := zI.at hI h0.2.2.2.2.2.2.2.2.2.2.2.2.2.2.2.2.2.2.2.2.2.1
    refine q_getI C dX2_put_33 (n := 36) rfl f_X2_65 h0.1 (v := M a 15) (zup_p e7 (by omega) _) ?_
    refine q_callSp C dX2_put_36 (n := 39) rfl m_X2_85 s_yX5_blankAs (c_X5_blankAs (w := w) (J := J) hI8 hF v2 (M a 15)) (Nat.le_of_ble_eq_true rfl) rfl rfl (Nat.le_of_ble_eq_true rfl) ⟨Nat.le_refl _, Nat.le_refl _⟩ (fun x38 h39 => ?_)
    obtain ⟨h36, h37⟩ := h39
    refine q_goto C 43 dX2_put_39 rfl ?_
    exact zK.weak (J_14 x38 (by omega) (by omega)) (zwk_c (zwk_n (zwk_n (zwk_c zwk_e))))
