def zLy (M : zMm) (a : Nat) (i : Int) : Prop := zLt M a (M a 23) i
theorem zLy.cg {M M2 : zMm} {a : Nat} {i : Int} (h : zLy M a i) (e : ∀ j, M2 (a + 10) j = M (a + 10) j) (e2 : ∀ j, M2 (a + 11) j = M (a + 11) j) (e3 : M2 a 23 = M a 23) : zLy M2 a i := by
  unfold zLy
  rw [e3]
  exact zLt.cg h e e2
theorem zLy.le {M : zMm} {a : Nat} {i i2 : Int} (h : zLy M a i) (hi : i ≤ i2) : zLy M a i2 := zLt.le h hi
theorem zLy.add {M M2 : zMm} {a : Nat} {i x n : Int} (h : zLy M a i) (hn : M a 23 = n) (n0 : 0 ≤ n) (i0 : 0 ≤ i) (x1 : 1 ≤ x) (e0 : M2 a 23 = n + 1) (e1 : ∀ j, j ≠ n → M2 (a + 10) j = M (a + 10) j) (e2 : ∀ j, j ≠ n → M2 (a + 11) j = M (a + 11) j) (g0 : M2 (a + 10) n = i) (g1 : M2 (a + 11) n = x) : zLy M2 a (i + x) := by
  unfold zLy
  unfold zLy at h
  rw [hn] at h
  rw [e0]
  intro t t0 t1
  by_cases q : t = n
  · subst q
    rw [g0, g1]
    exact ⟨i0, x1, Int.le_refl _, fun q => by omega⟩
  · obtain ⟨h1, h2, h3, h4⟩ := h t t0 (by omega)
    rw [e1 t q, e2 t q]
    refine ⟨h1, h2, by omega, fun q2 => ?_⟩
    by_cases q3 : t + 1 = n
    · rw [q3, g0]
      exact h3
    · rw [e1 _ q3]
      exact h4 (by omega)
theorem c_X12_copies {w : zWp} {T : zTl} {M : zMm} {J : zJm} {R : zRm'} {G : zGt} {F : zRm'} {a : Nat} {og lg : Int → Int} (hI : zI G M) (hF : zF F R) (h0 : zModel T F G a) (v1 : Int) (v2 : Int) (p1 : zOg M a og lg) (p2 : 0 ≤ v1 ∧ v1 ≤ 18599) (p3 : 0 ≤ v2 ∧ v2 ≤ 18599) (p4 : 440 ≤ v2) : zCt w 1 0 0 yX12_copies cX12_copies 3 none [.ref (w.2.1 + a), zi v1, zi v2] (T, M, J, R) (zPv T R G (fun M2 => (zMd a [9, 10, 11, 12, 13, 14, 15, 16] [] [] M M2) ∧ (zOg M2 a og lg))) := by
  refine zCt.of rfl (Nat.le_of_ble_eq_true rfl) ?_
  intro p e s m args below meth c C
  obtain ⟨Po, hPo⟩ : ∃ Po, Po = zPv T R G (fun M2 => (zMd a [9, 10, 11, 12, 13, 14, 15, 16] [] [] M M2) ∧ (zOg M2 a og lg)) := ⟨_, rfl⟩
  rw [← hPo]
  have hK0 : zMd a [9, 10, 11, 12, 13, 14, 15, 16] [] [] M M := zMd.rf
  show zK w p e 1 0 0 s m args below meth c 3 T Po 0 [.ref (w.2.1 + a), zi v1, zi v2] [] (T, M, J, R)
  refine q_aload_n C dX12_copies_0 (n := 1) rfl rfl ?_
  refine q_getR C dX12_copies_1 (n := 4) rfl f_X12_40 (zM0 h0) (hF _ _ _ (zM31 h0)) ?_
  refine q_iload_n C dX12_copies_4 (n := 5) rfl rfl ?_
  refine q_aload_n C dX12_copies_5 (n := 6) rfl rfl ?_
  refine q_getR C dX12_copies_6 (n := 9) rfl f_X12_40 (zM0 h0) (hF _ _ _ (zM31 h0)) ?_
  refine q_iload_n C dX12_copies_9 (n := 10) rfl rfl ?_
  have g1 := zI.at hI ((zM33 h0) v1)
  refine q_iald C dX12_copies_10 (n := 11) rfl (zM32 h0) (by omega) (v := M (a + 9) v1) rfl ?_
  refine q_iast C dX12_copies_11 (n := 12) rfl (zM32 h0) (by omega)  (fun M2 e3 => ?_)
  have hI4 : zI G M2 := hI.put e3 ((zM33 h0) v2) rfl (by omega)
  have hK5 := hK0.upA e3 rfl
  refine q_aload_n C dX12_copies_12 (n := 13) rfl rfl ?_
  refine q_getR C dX12_copies_13 (n := 16) rfl f_X12_43 (zM0 h0) (hF _ _ _ (zM34 h0)) ?_
  refine q_iload_n C dX12_copies_16 (n := 17) rfl rfl ?_
  refine q_aload_n C dX12_copies_17 (n := 18) rfl rfl ?_
  refine q_getR C dX12_copies_18 (n := 21) rfl f_X12_43 (zM0 h0) (hF _ _ _ (zM34 h0)) ?_
  refine q_iload_n C dX12_copies_21 (n := 22) rfl rfl ?_
  have g6 := zI.at hI ((zM36 h0) v1)
  refine q_iald C dX12_copies_22 (n := 23) rfl (zM35 h0) (by omega) (v := M (a + 10) v1) (zup_p e3 (by omega) _) ?_
  refine q_iast C dX12_copies_23 (n := 24) rfl (zM35 h0) (by omega)  (fun M7 e8 => ?_)
  have hp9 : zOg M2 a og lg := p1.cg (fun j => (zup_p e3 (by omega) _)) (fun j => (zup_p e3 (by omega) _))
  have hp10 : zOg M7 a og lg := hp9.up0 e8 (by omega)
  have hI11 : zI G M7 := hI4.put e8 ((zM36 h0) v2) rfl (by omega)
  have hK12 := hK5.upA e8 rfl
  refine q_aload_n C dX12_copies_24 (n := 25) rfl rfl ?_
  refine q_getR C dX12_copies_25 (n := 28) rfl f_X12_46 (zM0 h0) (hF _ _ _ (zM37 h0)) ?_
  refine q_iload_n C dX12_copies_28 (n := 29) rfl rfl ?_
  refine q_aload_n C dX12_copies_29 (n := 30) rfl rfl ?_
  refine q_getR C dX12_copies_30 (n := 33) rfl f_X12_46 (zM0 h0) (hF _ _ _ (zM37 h0)) ?_
  refine q_iload_n C dX12_copies_33 (n := 34) rfl rfl ?_
  have g13 := zI.at hI ((zM39 h0) v1)
  refine q_iald C dX12_copies_34 (n := 35) rfl (zM38 h0) (by omega) (v := M (a + 11) v1) ((zup_p e8 (by omega) _).trans (zup_p e3 (by omega) _)) ?_
  refine q_iast C dX12_copies_35 (n := 36) rfl (zM38 h0) (by omega)  (fun M14 e15 => ?_)
  have hp16 : zOg M14 a og lg := hp10.up1 e15 (by omega)
  have hI17 : zI G M14 := hI11.put e15 ((zM39 h0) v2) rfl (by omega)
  have hK18 := hK12.upA e15 rfl
  refine q_aload_n C dX12_copies_36 (n := 37) rfl rfl ?_
  refine q_getR C dX12_copies_37 (n := 40) rfl f_X12_49 (zM0 h0) (hF _ _ _ (zM40 h0)) ?_
  refine q_iload_n C dX12_copies_40 (n := 41) rfl rfl ?_
  refine q_aload_n C dX12_copies_41 (n := 42) rfl rfl ?_
  refine q_getR C dX12_copies_42 (n := 45) rfl f_X12_49 (zM0 h0) (hF _ _ _ (zM40 h0)) ?_
  refine q_iload_n C dX12_copies_45 (n := 46) rfl rfl ?_
  have g19 := zI.at hI ((zM42 h0) v1)
  refine q_iald C dX12_copies_46 (n := 47) rfl (zM41 h0) (by omega) (v := M (a + 12) v1) ((zup_p e15 (by omega) _).trans ((zup_p e8 (by omega) _).trans (zup_p e3 (by omega) _))) ?_
  refine q_iast C dX12_copies_47 (n := 48) rfl (zM41 h0) (by omega)  (fun M20 e21 => ?_)
  have hI22 : zI G M20 := hI17.put e21 ((zM42 h0) v2) rfl (by omega)
  have hK23 := hK18.upA e21 rfl
  refine q_aload_n C dX12_copies_48 (n := 49) rfl rfl ?_
  refine q_getR C dX12_copies_49 (n := 52) rfl f_X12_52 (zM0 h0) (hF _ _ _ (zM43 h0)) ?_
  refine q_iload_n C dX12_copies_52 (n := 53) rfl rfl ?_
  refine q_aload_n C dX12_copies_53 (n := 54) rfl rfl ?_
  refine q_getR C dX12_copies_54 (n := 57) rfl f_X12_52 (zM0 h0) (hF _ _ _ (zM43 h0)) ?_
  refine q_iload_n C dX12_copies_57 (n := 58) rfl rfl ?_
  have g24 := zI.at hI ((zM45 h0) v1)
  refine q_iald C dX12_copies_58 (n := 59) rfl (zM44 h0) (by omega) (v := M (a + 13) v1) ((zup_p e21 (by omega) _).trans ((zup_p e15 (by omega) _).trans ((zup_p e8 (by omega) _).trans (zup_p e3 (by omega) _)))) ?_
  refine q_iast C dX12_copies_59 (n := 60) rfl (zM44 h0) (by omega)  (fun M25 e26 => ?_)
  have hI27 : zI G M25 := hI22.put e26 ((zM45 h0) v2) rfl (by omega)
  have hK28 := hK23.upA e26 rfl
  refine q_aload_n C dX12_copies_60 (n := 61) rfl rfl ?_
  refine q_getR C dX12_copies_61 (n := 64) rfl f_X12_55 (zM0 h0) (hF _ _ _ (zM46 h0)) ?_
  refine q_iload_n C dX12_copies_64 (n := 65) rfl rfl ?_
  refine q_aload_n C dX12_copies_65 (n := 66) rfl rfl ?_
  refine q_getR C dX12_copies_66 (n := 69) rfl f_X12_55 (zM0 h0) (hF _ _ _ (zM46 h0)) ?_
  refine q_iload_n C dX12_copies_69 (n := 70) rfl rfl ?_
  have g29 := zI.at hI ((zM48 h0) v1)
  refine q_iald C dX12_copies_70 (n := 71) rfl (zM47 h0) (by omega) (v := M (a + 14) v1) ((zup_p e26 (by omega) _).trans ((zup_p e21 (by omega) _).trans ((zup_p e15 (by omega) _).trans ((zup_p e8 (by omega) _).trans (zup_p e3 (by omega) _))))) ?_
  refine q_iast C dX12_copies_71 (n := 72) rfl (zM47 h0) (by omega)  (fun M30 e31 => ?_)
  have hI32 : zI G M30 := hI27.put e31 ((zM48 h0) v2) rfl (by omega)
  have hK33 := hK28.upA e31 rfl
  refine q_aload_n C dX12_copies_72 (n := 73) rfl rfl ?_
  refine q_getR C dX12_copies_73 (n := 76) rfl f_X12_58 (zM0 h0) (hF _ _ _ (zM49 h0)) ?_
  refine q_iload_n C dX12_copies_76 (n := 77) rfl rfl ?_
  refine q_aload_n C dX12_copies_77 (n := 78) rfl rfl ?_
  refine q_getR C dX12_copies_78 (n := 81) rfl f_X12_58 (zM0 h0) (hF _ _ _ (zM49 h0)) ?_
  refine q_iload_n C dX12_copies_81 (n := 82) rfl rfl ?_
  have g34 := zI.at hI ((zM51 h0) v1)
  refine q_iald C dX12_copies_82 (n := 83) rfl (zM50 h0) (by omega) (v := M (a + 15) v1) ((zup_p e31 (by omega) _).trans ((zup_p e26 (by omega) _).trans ((zup_p e21 (by omega) _).trans ((zup_p e15 (by omega) _).trans ((zup_p e8 (by omega) _).trans (zup_p e3 (by omega) _)))))) ?_
  refine q_iast C dX12_copies_83 (n := 84) rfl (zM50 h0) (by omega)  (fun M35 e36 => ?_)
  have hI37 : zI G M35 := hI32.put e36 ((zM51 h0) v2) rfl (by omega)
  have hK38 := hK33.upA e36 rfl
  refine q_aload_n C dX12_copies_84 (n := 85) rfl rfl ?_
  refine q_getR C dX12_copies_85 (n := 88) rfl f_X12_61 (zM0 h0) (hF _ _ _ (zM52 h0)) ?_
  refine q_iload_n C dX12_copies_88 (n := 89) rfl rfl ?_
  refine q_aload_n C dX12_copies_89 (n := 90) rfl rfl ?_
  refine q_getR C dX12_copies_90 (n := 93) rfl f_X12_61 (zM0 h0) (hF _ _ _ (zM52 h0)) ?_
  refine q_iload_n C dX12_copies_93 (n := 94) rfl rfl ?_
  have g39 := zI.at hI ((zM54 h0) v1)
  refine q_iald C dX12_copies_94 (n := 95) rfl (zM53 h0) (by omega) (v := M (a + 16) v1) ((zup_p e36 (by omega) _).trans ((zup_p e31 (by omega) _).trans ((zup_p e26 (by omega) _).trans ((zup_p e21 (by omega) _).trans ((zup_p e15 (by omega) _).trans ((zup_p e8 (by omega) _).trans (zup_p e3 (by omega) _))))))) ?_
  refine q_iast C dX12_copies_95 (n := 96) rfl (zM53 h0) (by omega)  (fun M40 e41 => ?_)
  have hI42 : zI G M40 := hI37.put e41 ((zM54 h0) v2) rfl (by omega)
  have hK43 := hK38.upA e41 rfl
  have hp44 : zOg M40 a og lg := hp16.cg (fun j => ((zup_p e41 (by omega) _).trans ((zup_p e36 (by omega) _).trans ((zup_p e31 (by omega) _).trans ((zup_p e26 (by omega) _).trans (zup_p e21 (by omega) _)))))) (fun j => ((zup_p e41 (by omega) _).trans ((zup_p e36 (by omega) _).trans ((zup_p e31 (by omega) _).trans ((zup_p e26 (by omega) _).trans (zup_p e21 (by omega) _))))))
  exact q_vret C dX12_copies_96 ⟨rfl, rfl⟩ (by rw [hPo]; exact ⟨M40, J, rfl, rfl, hI42, hK43, hp44⟩)
theorem c_X12_asOf {w : zWp} {T : zTl} {M : zMm} {J : zJm} {R : zRm'} {G : zGt} {F : zRm'} {a : Nat} (hI : zI G M) (hF : zF F R) (h0 : zModel T F G a) (v1 : Int) (v2 : Int) (p1 : 0 ≤ v1 ∧ v1 ≤ 18599) (p2 : 0 ≤ v2 ∧ v2 ≤ 18599) : zCt w 1 0 0 yX12_asOf cX12_asOf 3 none [.ref (w.2.1 + a), zi v1, zi v2] (T, M, J, R) (zPv T R G (fun M2 => (zMd a [12, 13, 14] [] [] M M2))) := by
  refine zCt.of rfl (Nat.le_of_ble_eq_true rfl) ?_
  intro p e s m args below meth c C
  obtain ⟨Po, hPo⟩ : ∃ Po, Po = zPv T R G (fun M2 => (zMd a [12, 13, 14] [] [] M M2)) := ⟨_, rfl⟩
  rw [← hPo]
  have hK0 : zMd a [12, 13, 14] [] [] M M := zMd.rf
  show zK w p e 1 0 0 s m args below meth c 3 T Po 0 [.ref (w.2.1 + a), zi v1, zi v2] [] (T, M, J, R)
  refine q_aload_n C dX12_asOf_0 (n := 1) rfl rfl ?_
  refine q_getR C dX12_asOf_1 (n := 4) rfl f_X12_49 (zM0 h0) (hF _ _ _ (zM40 h0)) ?_
  refine q_iload_n C dX12_asOf_4 (n := 5) rfl rfl ?_
  refine q_aload_n C dX12_asOf_5 (n := 6) rfl rfl ?_
  refine q_getR C dX12_asOf_6 (n := 9) rfl f_X12_49 (zM0 h0) (hF _ _ _ (zM40 h0)) ?_
  refine q_iload_n C dX12_asOf_9 (n := 10) rfl rfl ?_
  have g1 := zI.at hI ((zM42 h0) v2)
  refine q_iald C dX12_asOf_10 (n := 11) rfl (zM41 h0) (by omega) (v := M (a + 12) v2) rfl ?_
  refine q_iast C dX12_asOf_11 (n := 12) rfl (zM41 h0) (by omega)  (fun M2 e3 => ?_)
  have hI4 : zI G M2 := hI.put e3 ((zM42 h0) v1) rfl (by omega)
  have hK5 := hK0.upA e3 rfl
  refine q_aload_n C dX12_asOf_12 (n := 13) rfl rfl ?_
  refine q_getR C dX12_asOf_13 (n := 16) rfl f_X12_52 (zM0 h0) (hF _ _ _ (zM43 h0)) ?_
  refine q_iload_n C dX12_asOf_16 (n := 17) rfl rfl ?_
  refine q_aload_n C dX12_asOf_17 (n := 18) rfl rfl ?_
  refine q_getR C dX12_asOf_18 (n := 21) rfl f_X12_52 (zM0 h0) (hF _ _ _ (zM43 h0)) ?_
  refine q_iload_n C dX12_asOf_21 (n := 22) rfl rfl ?_
  have g6 := zI.at hI ((zM45 h0) v2)
  refine q_iald C dX12_asOf_22 (n := 23) rfl (zM44 h0) (by omega) (v := M (a + 13) v2) (zup_p e3 (by omega) _) ?_
  refine q_iast C dX12_asOf_23 (n := 24) rfl (zM44 h0) (by omega)  (fun M7 e8 => ?_)
  have hI9 : zI G M7 := hI4.put e8 ((zM45 h0) v1) rfl (by omega)
  have hK10 := hK5.upA e8 rfl
  refine q_aload_n C dX12_asOf_24 (n := 25) rfl rfl ?_
  refine q_getR C dX12_asOf_25 (n := 28) rfl f_X12_55 (zM0 h0) (hF _ _ _ (zM46 h0)) ?_
  refine q_iload_n C dX12_asOf_28 (n := 29) rfl rfl ?_
  refine q_aload_n C dX12_asOf_29 (n := 30) rfl rfl ?_
  refine q_getR C dX12_asOf_30 (n := 33) rfl f_X12_55 (zM0 h0) (hF _ _ _ (zM46 h0)) ?_
  refine q_iload_n C dX12_asOf_33 (n := 34) rfl rfl ?_
  have g11 := zI.at hI ((zM48 h0) v2)
  refine q_iald C dX12_asOf_34 (n := 35) rfl (zM47 h0) (by omega) (v := M (a + 14) v2) ((zup_p e8 (by omega) _).trans (zup_p e3 (by omega) _)) ?_
  refine q_iast C dX12_asOf_35 (n := 36) rfl (zM47 h0) (by omega)  (fun M12 e13 => ?_)
  have hI14 : zI G M12 := hI9.put e13 ((zM48 h0) v1) rfl (by omega)
  have hK15 := hK10.upA e13 rfl
  exact q_vret C dX12_asOf_36 ⟨rfl, rfl⟩ (by rw [hPo]; exact ⟨M12, J, rfl, rfl, hI14, hK15⟩)
theorem c_X12_wordIn {w : zWp} {T : zTl} {M : zMm} {J : zJm} {R : zRm'} {G : zGt} {F : zRm'} {a q N tb : Nat} (hI : zI G M) (hF : zF F R) (h0 : zModel T F G a) (t_row : T[q]? = some (51, N)) (g_row : ∀ k, G q k = (tb, (-128), 127)) (v2 : Int) (v3 : Int) (p1 : N ≤ 1000000) (p2 : 0 ≤ v2 ∧ 0 ≤ v3 ∧ v2 + v3 ≤ N) : zCt w 1 0 0 yX12_wordIn cX12_wordIn 8 (some .int) [.ref (w.2.1 + a), .ref (w.2.1 + q), zi v2, zi v3] (T, M, J, R) (zPp T M J R (fun x => (-1 ≤ x ∧ x ≤ 60))) := by
  refine zCt.of rfl (Nat.le_of_ble_eq_true rfl) ?_
  intro p e s m args below meth c C
  obtain ⟨Po, hPo⟩ : ∃ Po, Po = zPp T M J R (fun x => (-1 ≤ x ∧ x ≤ 60)) := ⟨_, rfl⟩
  rw [← hPo]
  show zK w p e 1 0 0 s m args below meth c 8 T Po 0 [.ref (w.2.1 + a), .ref (w.2.1 + q), zi v2, zi v3, .null, .null, .null, .null] [] (T, M, J, R)
  refine q_iconst C dX12_wordIn_0 (n := 1) rfl ?_
  refine q_istore C [.ref (w.2.1 + a), .ref (w.2.1 + q), zi v2, zi v3, zi 0, .null, .null, .null] dX12_wordIn_1 (n := 3) rfl rfl rfl ?_
  refine q_iconst C dX12_wordIn_3 (n := 4) rfl ?_
  refine q_istore C [.ref (w.2.1 + a), .ref (w.2.1 + q), zi v2, zi v3, zi 0, zi 0, .null, .null] dX12_wordIn_4 (n := 6) rfl rfl rfl ?_
  refine q_iconst C dX12_wordIn_6 (n := 7) rfl ?_
  refine q_istore C [.ref (w.2.1 + a), .ref (w.2.1 + q), zi v2, zi v3, zi 0, zi 0, zi 1, .null] dX12_wordIn_7 (n := 9) rfl rfl rfl ?_
  refine q_iconst C dX12_wordIn_9 (n := 10) rfl ?_
  refine q_istore C [.ref (w.2.1 + a), .ref (w.2.1 + q), zi v2, zi v3, zi 0, zi 0, zi 1, zi 0] dX12_wordIn_10 (n := 12) rfl rfl rfl ?_
  have L_13 : ∀ n14 : Nat, ∀ (u1 : Int) (u2 : Int) (u3 : Int) (u4 : Int), (-2147483648 ≤ u1 ∧ u1 ≤ 2147483647) → (-2147483648 ≤ u2 ∧ u2 ≤ 2147483647) → (-2147483648 ≤ u3 ∧ u3 ≤ 2147483647) → (-2147483648 ≤ u4 ∧ u4 ≤ 2147483647) → (0 ≤ u4 ∧ u4 ≤ 53) → (0 ≤ u1 ∧ u1 ≤ u4) → (0 ≤ u2 ∧ u2 ≤ u4) → (u3 = 0 ∨ u3 = 1) → (53 - u4 + 1 ≤ (n14 : Int)) → zK w p e 1 0 0 s m args below meth c 8 T Po 12 [.null, .ref (w.2.1 + q), zi v2, zi v3, zi u1, zi u2, zi u3, zi u4] [] (T, M, J, R) := by
    intro n14
    induction n14 with
    | zero =>
      intro u1 u2 u3 u4 h5 h6 h7 h8 h9 h10 h11 h12 hm16
      exfalso
      omega
    | succ n14 ih15 =>
      intro u1 u2 u3 u4 h5 h6 h7 h8 h9 h10 h11 h12 hm16
      refine q_iload C dX12_wordIn_12 (n := 14) rfl rfl ?_
      refine q_gst C dX12_wordIn_14 (n := 17) rfl (k := 201) (by decide) ?_
      refine q_alenT C dX12_wordIn_17 (n := 18) rfl (k := 201) (N := 53) (by decide) ?_
      show zK w p e 1 0 0 s m args below meth c 8 T Po 18 [.null, .ref (w.2.1 + q), zi v2, zi v3, zi u1, zi u2, zi u3, zi u4] [zi 53, zi u4] (T, M, J, R)
      refine q_icmp_ge C 100 dX12_wordIn_18 (n := 21) rfl rfl (by omega) (fun h17 => ?_) (fun h17 => ?_)
      · refine q_iconst C dX12_wordIn_100 (n := 101) rfl ?_
        exact q_iret C dX12_wordIn_101 ⟨rfl, rfl⟩ (by rw [hPo]; exact ⟨(-1), rfl, rfl, by omega⟩)
      · refine q_gst C dX12_wordIn_21 (n := 24) rfl (k := 201) (by decide) ?_
        refine q_iload C dX12_wordIn_24 (n := 26) rfl rfl ?_
        refine q_baldT C dX12_wordIn_26 (n := 27) rfl (k := 201) (N := 53) (by decide) (by omega) (fun u18 h19 => ?_)
        refine q_bipush C dX12_wordIn_27 (n := 29) rfl (x := 32) (by decide) ?_
        have J_29 : ∀ (u20 : Int) (u21 : Int) (u22 : Int), (-2147483648 ≤ u20 ∧ u20 ≤ 2147483647) → (-2147483648 ≤ u21 ∧ u21 ≤ 2147483647) → (-2147483648 ≤ u22 ∧ u22 ≤ 2147483647) → (0 ≤ u20 ∧ u20 ≤ u4 + 1) → (0 ≤ u21 ∧ u21 ≤ u4 + 1) → (u22 = 0 ∨ u22 = 1) → zK w p e 1 0 0 s m args below meth c 8 T Po 94 [.null, .ref (w.2.1 + q), zi v2, zi v3, zi u20, zi u21, zi u22, zi u4] [] (T, M, J, R) := by
          intro u20 u21 u22 h23 h24 h25 h26 h27 h28
          refine q_iinc C [.null, .ref (w.2.1 + q), zi v2, zi v3, zi u20, zi u21, zi u22, zi (u4 + 1)] dX12_wordIn_94 (n := 97) rfl rfl rfl rfl ?_
          refine q_goto C 12 dX12_wordIn_97 rfl ?_
          exact zK.weak (ih15 u20 u21 u22 (u4 + 1) (by omega) (by omega) (by omega) (by omega) (by omega) (by omega) (by omega) (by omega) (by omega)) (zwk_n (zwk_c (zwk_c (zwk_c (zwk_c (zwk_c (zwk_c (zwk_c zwk_e))))))))
        refine q_icmp_ne C 58 dX12_wordIn_29 (n := 32) rfl rfl (by omega) (fun h30 => ?_) (fun h30 => ?_)
        · refine q_iload C dX12_wordIn_58 (n := 60) rfl rfl ?_
          have J_34 : ∀ (u31 : Int), (-2147483648 ≤ u31 ∧ u31 ≤ 2147483647) → (u31 = 0 ∨ u31 = 1) → zK w p e 1 0 0 s m args below meth c 8 T Po 89 [.null, .ref (w.2.1 + q), zi v2, zi v3, zi u1, zi u2, .null, zi u4] [zi u31] (T, M, J, R) := by
            intro u31 h32 h33
            refine q_istore C [.null, .ref (w.2.1 + q), zi v2, zi v3, zi u1, zi u2, zi u31, zi u4] dX12_wordIn_89 (n := 91) rfl rfl rfl ?_
            refine q_iinc C [.null, .ref (w.2.1 + q), zi v2, zi v3, zi u1, zi (u2 + 1), zi u31, zi u4] dX12_wordIn_91 (n := 94) rfl rfl rfl rfl ?_
            exact zK.weak (J_29 u1 (u2 + 1) u31 (by omega) (by omega) (by omega) (by omega) (by omega) (by omega)) (zwk_n (zwk_c (zwk_c (zwk_c (zwk_c (zwk_c (zwk_c (zwk_c zwk_e))))))))
          have J_35 : zK w p e 1 0 0 s m args below meth c 8 T Po 88 [.null, .ref (w.2.1 + q), zi v2, zi v3, zi u1, zi u2, .null, zi u4] [] (T, M, J, R) := by
            refine q_iconst C dX12_wordIn_88 (n := 89) rfl ?_
            exact zK.weak (J_34 0 (by omega) (by omega)) (zwk_n (zwk_c (zwk_c (zwk_c (zwk_c (zwk_c (zwk_n (zwk_c zwk_e))))))))
          refine q_if_eq C 88 dX12_wordIn_60 (n := 63) rfl rfl (by omega) (fun h36 => ?_) (fun h36 => ?_)
          · exact zK.weak (J_35) (zwk_n (zwk_c (zwk_c (zwk_c (zwk_c (zwk_c (zwk_n (zwk_c zwk_e))))))))
          · refine q_iload C dX12_wordIn_63 (n := 65) rfl rfl ?_
            refine q_iload_n C dX12_wordIn_65 (n := 66) rfl rfl ?_
            refine q_icmp_ge C 88 dX12_wordIn_66 (n := 69) rfl rfl (by omega) (fun h37 => ?_) (fun h37 => ?_)
            · exact zK.weak (J_35) (zwk_n (zwk_c (zwk_c (zwk_c (zwk_c (zwk_c (zwk_n (zwk_c zwk_e))))))))
            · refine q_aload_n C dX12_wordIn_69 (n := 70) rfl rfl ?_
              refine q_iload_n C dX12_wordIn_70 (n := 71) rfl rfl ?_
              refine q_iload C dX12_wordIn_71 (n := 73) rfl rfl ?_
              refine q_iadd C dX12_wordIn_73 (n := 74) rfl (v := v2 + u2) rfl ?_
              have g38 := zI.at hI (g_row (v2 + u2))
              refine q_bald C dX12_wordIn_74 (n := 75) rfl t_row (by omega) (v := M q (v2 + u2)) rfl ?_
              refine q_gst C dX12_wordIn_75 (n := 78) rfl (k := 201) (by decide) ?_
              refine q_iload C dX12_wordIn_78 (n := 80) rfl rfl ?_
              refine q_baldT C dX12_wordIn_80 (n := 81) rfl (k := 201) (N := 53) (by decide) (by omega) (fun u39 h40 => ?_)
              refine q_icmp_ne C 88 dX12_wordIn_81 (n := 84) rfl rfl (by omega) (fun h41 => ?_) (fun h41 => ?_)
              · exact zK.weak (J_35) (zwk_n (zwk_c (zwk_c (zwk_c (zwk_c (zwk_c (zwk_n (zwk_c zwk_e))))))))
              · refine q_iconst C dX12_wordIn_84 (n := 85) rfl ?_
                refine q_goto C 89 dX12_wordIn_85 rfl ?_
                exact zK.weak (J_34 1 (by omega) (by omega)) (zwk_n (zwk_c (zwk_c (zwk_c (zwk_c (zwk_c (zwk_n (zwk_c zwk_e))))))))
        · refine q_iload C dX12_wordIn_32 (n := 34) rfl rfl ?_
          have J_42 : zK w p e 1 0 0 s m args below meth c 8 T Po 46 [.null, .ref (w.2.1 + q), zi v2, zi v3, zi u1, .null, .null, zi u4] [] (T, M, J, R) := by
            refine q_iinc C [.null, .ref (w.2.1 + q), zi v2, zi v3, zi (u1 + 1), .null, .null, zi u4] dX12_wordIn_46 (n := 49) rfl rfl rfl rfl ?_
            refine q_iconst C dX12_wordIn_49 (n := 50) rfl ?_
            refine q_istore C [.null, .ref (w.2.1 + q), zi v2, zi v3, zi (u1 + 1), zi 0, .null, zi u4] dX12_wordIn_50 (n := 52) rfl rfl rfl ?_
            refine q_iconst C dX12_wordIn_52 (n := 53) rfl ?_
            refine q_istore C [.null, .ref (w.2.1 + q), zi v2, zi v3, zi (u1 + 1), zi 0, zi 1, zi u4] dX12_wordIn_53 (n := 55) rfl rfl rfl ?_
            refine q_goto C 94 dX12_wordIn_55 rfl ?_
            exact zK.weak (J_29 (u1 + 1) 0 1 (by omega) (by omega) (by omega) (by omega) (by omega) (by omega)) (zwk_n (zwk_c (zwk_c (zwk_c (zwk_c (zwk_c (zwk_c (zwk_c zwk_e))))))))
          refine q_if_eq C 46 dX12_wordIn_34 (n := 37) rfl rfl (by omega) (fun h43 => ?_) (fun h43 => ?_)
          · exact zK.weak (J_42) (zwk_n (zwk_c (zwk_c (zwk_c (zwk_c (zwk_n (zwk_n (zwk_c zwk_e))))))))
          · refine q_iload C dX12_wordIn_37 (n := 39) rfl rfl ?_
            refine q_iload_n C dX12_wordIn_39 (n := 40) rfl rfl ?_
            refine q_icmp_ne C 46 dX12_wordIn_40 (n := 43) rfl rfl (by omega) (fun h44 => ?_) (fun h44 => ?_)
            · exact zK.weak (J_42) (zwk_n (zwk_c (zwk_c (zwk_c (zwk_c (zwk_n (zwk_n (zwk_c zwk_e))))))))
            · refine q_iload C dX12_wordIn_43 (n := 45) rfl rfl ?_
              exact q_iret C dX12_wordIn_45 ⟨rfl, rfl⟩ (by rw [hPo]; exact ⟨u1, rfl, rfl, by omega⟩)
  exact zK.weak (L_13 _ 0 0 1 0 (by omega) (by omega) (by omega) (by omega) (by omega) (by omega) (by omega) (by omega) (Int.self_le_toNat _)) (zwk_n (zwk_c (zwk_c (zwk_c (zwk_c (zwk_c (zwk_c (zwk_c zwk_e))))))))
theorem c_X12_hashOf {w : zWp} {T : zTl} {M : zMm} {J : zJm} {R : zRm'} {G : zGt} {F : zRm'} {a : Nat} (hI : zI G M) (hF : zF F R) (h0 : zModel T F G a) (v1 : Int) (v2 : Int) (p1 : zFi M a) (p2 : 0 ≤ v1 ∧ v1 ≤ 3) (p3 : 0 ≤ v2 ∧ v2 < M (a + 2) (4 + v1) ∧ v2 ≤ 39) : zCt w 3 0 0 yX12_hashOf cX12_hashOf 6 (some .int) [.ref (w.2.1 + a), zi v1, zi v2] (T, M, J, R) (zPp T M J R (fun x => (-1 ≤ x ∧ x ≤ 439) ∧ (x < M (a + 2) (8 + 40 * v1 + v2) ∨ x = -1))) := by
  refine zCt.of rfl (Nat.le_of_ble_eq_true rfl) ?_
  intro p e s m args below meth c C
  obtain ⟨Po, hPo⟩ : ∃ Po, Po = zPp T M J R (fun x => (-1 ≤ x ∧ x ≤ 439) ∧ (x < M (a + 2) (8 + 40 * v1 + v2) ∨ x = -1)) := ⟨_, rfl⟩
  rw [← hPo]
  show zK w p e 3 0 0 s m args below meth c 6 T Po 0 [.ref (w.2.1 + a), zi v1, zi v2, .null, .null, .null] [] (T, M, J, R)
  refine q_aload_n C dX12_hashOf_0 (n := 1) rfl rfl ?_
  refine q_iload_n C dX12_hashOf_1 (n := 2) rfl rfl ?_
  refine q_iload_n C dX12_hashOf_2 (n := 3) rfl rfl ?_
  refine q_callVp C dX12_hashOf_3 (n := 6) rfl m_X12_321 v_yX12_beginOf (zM0 h0) ⟨by decide, rfl⟩ (c_X12_beginOf (w := w) (J := J) hI hF h0 v1 v2 p1 (by omega) (by omega)) (Nat.le_of_ble_eq_true rfl) rfl rfl (Nat.le_of_ble_eq_true rfl) ⟨Nat.le_refl _, Nat.le_refl _⟩ (fun x4 h5 => ?_)
  obtain ⟨h1, h2, h3⟩ := h5
  refine q_istore_n C [.ref (w.2.1 + a), zi v1, zi v2, zi x4, .null, .null] dX12_hashOf_6 (n := 7) rfl rfl rfl ?_
  refine q_aload_n C dX12_hashOf_7 (n := 8) rfl rfl ?_
  refine q_iload_n C dX12_hashOf_8 (n := 9) rfl rfl ?_
  refine q_iload_n C dX12_hashOf_9 (n := 10) rfl rfl ?_
  refine q_callVp C dX12_hashOf_10 (n := 13) rfl m_X12_289 v_yX12_lengthOf (zM0 h0) ⟨by decide, rfl⟩ (c_X12_lengthOf (w := w) (J := J) hI hF h0 v1 v2 (by omega) (by omega)) (Nat.le_of_ble_eq_true rfl) rfl rfl (Nat.le_of_ble_eq_true rfl) ⟨Nat.le_refl _, Nat.le_refl _⟩ (fun x8 h9 => ?_)
  obtain ⟨h6, h7⟩ := h9
  refine q_istore C [.ref (w.2.1 + a), zi v1, zi v2, zi x4, zi x8, .null] dX12_hashOf_13 (n := 15) rfl rfl rfl ?_
  refine q_iconst C dX12_hashOf_15 (n := 16) rfl ?_
  refine q_istore C [.ref (w.2.1 + a), zi v1, zi v2, zi x4, zi x8, zi 0] dX12_hashOf_16 (n := 18) rfl rfl rfl ?_
  have L_13 : ∀ n14 : Nat, ∀ (u10 : Int), (-2147483648 ≤ u10 ∧ u10 ≤ 2147483647) → (0 ≤ u10 ∧ u10 ≤ x8) → (x8 - u10 + 1 ≤ (n14 : Int)) → zK w p e 3 0 0 s m args below meth c 6 T Po 18 [.ref (w.2.1 + a), .null, .null, zi x4, zi x8, zi u10] [] (T, M, J, R) := by
    intro n14
    induction n14 with
    | zero =>
      intro u10 h11 h12 hm16
      exfalso
      omega
    | succ n14 ih15 =>
      intro u10 h11 h12 hm16
      refine q_iload C dX12_hashOf_18 (n := 20) rfl rfl ?_
      refine q_iload C dX12_hashOf_20 (n := 22) rfl rfl ?_
      have J_17 : zK w p e 3 0 0 s m args below meth c 6 T Po 45 [.ref (w.2.1 + a), .null, .null, zi x4, zi x8, zi u10] [] (T, M, J, R) := by
        refine q_iload C dX12_hashOf_45 (n := 47) rfl rfl ?_
        refine q_iload C dX12_hashOf_47 (n := 49) rfl rfl ?_
        refine q_icmp_ge C 96 dX12_hashOf_49 (n := 52) rfl rfl (by omega) (fun h18 => ?_) (fun h18 => ?_)
        · refine q_iconst C dX12_hashOf_96 (n := 97) rfl ?_
          exact q_iret C dX12_hashOf_97 ⟨rfl, rfl⟩ (by rw [hPo]; exact ⟨(-1), rfl, rfl, by omega, by omega⟩)
        · refine q_aload_n C dX12_hashOf_52 (n := 53) rfl rfl ?_
          refine q_getR C dX12_hashOf_53 (n := 56) rfl f_X12_24 (zM0 h0) (hF _ _ _ (zM13 h0)) ?_
          refine q_iload_n C dX12_hashOf_56 (n := 57) rfl rfl ?_
          refine q_iload C dX12_hashOf_57 (n := 59) rfl rfl ?_
          refine q_iadd C dX12_hashOf_59 (n := 60) rfl (v := x4 + u10) rfl ?_
          have g19 := zI.at hI ((zM15 h0) (x4 + u10))
          refine q_bald C dX12_hashOf_60 (n := 61) rfl (zM14 h0) (by omega) (v := M (a + 4) (x4 + u10)) rfl ?_
          refine q_bipush C dX12_hashOf_61 (n := 63) rfl (x := 35) (by decide) ?_
          refine q_icmp_ne C 96 dX12_hashOf_63 (n := 66) rfl rfl (by omega) (fun h20 => ?_) (fun h20 => ?_)
          · refine q_iconst C dX12_hashOf_96 (n := 97) rfl ?_
            exact q_iret C dX12_hashOf_97 ⟨rfl, rfl⟩ (by rw [hPo]; exact ⟨(-1), rfl, rfl, by omega, by omega⟩)
          · refine q_iload C dX12_hashOf_66 (n := 68) rfl rfl ?_
            refine q_iconst C dX12_hashOf_68 (n := 69) rfl ?_
            refine q_iadd C dX12_hashOf_69 (n := 70) rfl (v := u10 + 1) rfl ?_
            refine q_iload C dX12_hashOf_70 (n := 72) rfl rfl ?_
            refine q_icmp_eq C 91 dX12_hashOf_72 (n := 75) rfl rfl (by omega) (fun h21 => ?_) (fun h21 => ?_)
            · refine q_iload C dX12_hashOf_91 (n := 93) rfl rfl ?_
              refine q_goto C 97 dX12_hashOf_93 rfl ?_
              exact q_iret C dX12_hashOf_97 ⟨rfl, rfl⟩ (by rw [hPo]; exact ⟨u10, rfl, rfl, by omega, by omega⟩)
            · refine q_aload_n C dX12_hashOf_75 (n := 76) rfl rfl ?_
              refine q_getR C dX12_hashOf_76 (n := 79) rfl f_X12_24 (zM0 h0) (hF _ _ _ (zM13 h0)) ?_
              refine q_iload_n C dX12_hashOf_79 (n := 80) rfl rfl ?_
              refine q_iload C dX12_hashOf_80 (n := 82) rfl rfl ?_
              refine q_iadd C dX12_hashOf_82 (n := 83) rfl (v := x4 + u10) rfl ?_
              refine q_iconst C dX12_hashOf_83 (n := 84) rfl ?_
              refine q_iadd C dX12_hashOf_84 (n := 85) rfl (v := (x4 + u10) + 1) rfl ?_
              have g22 := zI.at hI ((zM15 h0) ((x4 + u10) + 1))
              refine q_bald C dX12_hashOf_85 (n := 86) rfl (zM14 h0) (by omega) (v := M (a + 4) ((x4 + u10) + 1)) rfl ?_
              refine q_bipush C dX12_hashOf_86 (n := 88) rfl (x := 35) (by decide) ?_
              refine q_icmp_eq C 96 dX12_hashOf_88 (n := 91) rfl rfl (by omega) (fun h23 => ?_) (fun h23 => ?_)
              · refine q_iconst C dX12_hashOf_96 (n := 97) rfl ?_
                exact q_iret C dX12_hashOf_97 ⟨rfl, rfl⟩ (by rw [hPo]; exact ⟨(-1), rfl, rfl, by omega, by omega⟩)
              · refine q_iload C dX12_hashOf_91 (n := 93) rfl rfl ?_
                refine q_goto C 97 dX12_hashOf_93 rfl ?_
                exact q_iret C dX12_hashOf_97 ⟨rfl, rfl⟩ (by rw [hPo]; exact ⟨u10, rfl, rfl, by omega, by omega⟩)
      refine q_icmp_ge C 45 dX12_hashOf_22 (n := 25) rfl rfl (by omega) (fun h24 => ?_) (fun h24 => ?_)
      · exact zK.weak (J_17) (zwk_c (zwk_n (zwk_n (zwk_c (zwk_c (zwk_c zwk_e))))))
      · refine q_aload_n C dX12_hashOf_25 (n := 26) rfl rfl ?_
        refine q_getR C dX12_hashOf_26 (n := 29) rfl f_X12_24 (zM0 h0) (hF _ _ _ (zM13 h0)) ?_
        refine q_iload_n C dX12_hashOf_29 (n := 30) rfl rfl ?_
        refine q_iload C dX12_hashOf_30 (n := 32) rfl rfl ?_
        refine q_iadd C dX12_hashOf_32 (n := 33) rfl (v := x4 + u10) rfl ?_
        have g25 := zI.at hI ((zM15 h0) (x4 + u10))
        refine q_bald C dX12_hashOf_33 (n := 34) rfl (zM14 h0) (by omega) (v := M (a + 4) (x4 + u10)) rfl ?_
        refine q_bipush C dX12_hashOf_34 (n := 36) rfl (x := 32) (by decide) ?_
        refine q_icmp_ne C 45 dX12_hashOf_36 (n := 39) rfl rfl (by omega) (fun h26 => ?_) (fun h26 => ?_)
        · exact zK.weak (J_17) (zwk_c (zwk_n (zwk_n (zwk_c (zwk_c (zwk_c zwk_e))))))
        · refine q_iinc C [.ref (w.2.1 + a), .null, .null, zi x4, zi x8, zi (u10 + 1)] dX12_hashOf_39 (n := 42) rfl rfl rfl rfl ?_
          refine q_goto C 18 dX12_hashOf_42 rfl ?_
          exact zK.weak (ih15 (u10 + 1) (by omega) (by omega) (by omega)) (zwk_c (zwk_n (zwk_n (zwk_c (zwk_c (zwk_c zwk_e))))))
  exact zK.weak (L_13 _ 0 (by omega) (by omega) (Int.self_le_toNat _)) (zwk_c (zwk_n (zwk_n (zwk_c (zwk_c (zwk_c zwk_e))))))
theorem c_X12_roleOf {w : zWp} {T : zTl} {M : zMm} {J : zJm} {R : zRm'} {G : zGt} {F : zRm'} {a : Nat} (hI : zI G M) (hF : zF F R) (h0 : zModel T F G a) (v1 : Int) (v2 : Int) (p1 : zFi M a) (p2 : 0 ≤ v1 ∧ v1 ≤ 3) (p3 : 0 ≤ v2 ∧ v2 < M (a + 2) (4 + v1) ∧ v2 ≤ 39) : zCt w 4 0 0 yX12_roleOf cX12_roleOf 9 (some .int) [.ref (w.2.1 + a), zi v1, zi v2] (T, M, J, R) (zPp T M J R (fun x => (0 ≤ x ∧ x ≤ 4))) := by
  refine zCt.of rfl (Nat.le_of_ble_eq_true rfl) ?_
  intro p e s m args below meth c C
  obtain ⟨Po, hPo⟩ : ∃ Po, Po = zPp T M J R (fun x => (0 ≤ x ∧ x ≤ 4)) := ⟨_, rfl⟩
  rw [← hPo]
  show zK w p e 4 0 0 s m args below meth c 9 T Po 0 [.ref (w.2.1 + a), zi v1, zi v2, .null, .null, .null, .null, .null, .null] [] (T, M, J, R)
  refine q_aload_n C dX12_roleOf_0 (n := 1) rfl rfl ?_
  refine q_iload_n C dX12_roleOf_1 (n := 2) rfl rfl ?_
  refine q_iload_n C dX12_roleOf_2 (n := 3) rfl rfl ?_
  refine q_callVp C dX12_roleOf_3 (n := 6) rfl m_X12_330 v_yX12_hashOf (zM0 h0) ⟨by decide, rfl⟩ (c_X12_hashOf (w := w) (J := J) hI hF h0 v1 v2 p1 (by omega) (by omega)) (Nat.le_of_ble_eq_true rfl) rfl rfl (Nat.le_of_ble_eq_true rfl) ⟨Nat.le_refl _, Nat.le_refl _⟩ (fun x3 h4 => ?_)
  obtain ⟨h1, h2⟩ := h4
  refine q_istore_n C [.ref (w.2.1 + a), zi v1, zi v2, zi x3, .null, .null, .null, .null, .null] dX12_roleOf_6 (n := 7) rfl rfl rfl ?_
  refine q_iload_n C dX12_roleOf_7 (n := 8) rfl rfl ?_
  refine q_if_ge C 13 dX12_roleOf_8 (n := 11) rfl rfl (by omega) (fun h5 => ?_) (fun h5 => ?_)
  · refine q_aload_n C dX12_roleOf_13 (n := 14) rfl rfl ?_
    refine q_iload_n C dX12_roleOf_14 (n := 15) rfl rfl ?_
    refine q_iload_n C dX12_roleOf_15 (n := 16) rfl rfl ?_
    refine q_callVp C dX12_roleOf_16 (n := 19) rfl m_X12_321 v_yX12_beginOf (zM0 h0) ⟨by decide, rfl⟩ (c_X12_beginOf (w := w) (J := J) hI hF h0 v1 v2 p1 (by omega) (by omega)) (Nat.le_of_ble_eq_true rfl) rfl rfl (Nat.le_of_ble_eq_true rfl) ⟨Nat.le_refl _, Nat.le_refl _⟩ (fun x9 h10 => ?_)
    obtain ⟨h6, h7, h8⟩ := h10
    refine q_istore C [.ref (w.2.1 + a), zi v1, zi v2, zi x3, zi x9, .null, .null, .null, .null] dX12_roleOf_19 (n := 21) rfl rfl rfl ?_
    refine q_aload_n C dX12_roleOf_21 (n := 22) rfl rfl ?_
    refine q_iload_n C dX12_roleOf_22 (n := 23) rfl rfl ?_
    refine q_iload_n C dX12_roleOf_23 (n := 24) rfl rfl ?_
    refine q_callVp C dX12_roleOf_24 (n := 27) rfl m_X12_289 v_yX12_lengthOf (zM0 h0) ⟨by decide, rfl⟩ (c_X12_lengthOf (w := w) (J := J) hI hF h0 v1 v2 (by omega) (by omega)) (Nat.le_of_ble_eq_true rfl) rfl rfl (Nat.le_of_ble_eq_true rfl) ⟨Nat.le_refl _, Nat.le_refl _⟩ (fun x13 h14 => ?_)
    obtain ⟨h11, h12⟩ := h14
    refine q_istore C [.ref (w.2.1 + a), zi v1, zi v2, zi x3, zi x9, zi x13, .null, .null, .null] dX12_roleOf_27 (n := 29) rfl rfl rfl ?_
    refine q_iload_n C dX12_roleOf_29 (n := 30) rfl rfl ?_
    refine q_iconst C dX12_roleOf_30 (n := 31) rfl ?_
    refine q_iadd C dX12_roleOf_31 (n := 32) rfl (v := x3 + 1) rfl ?_
    refine q_istore C [.ref (w.2.1 + a), zi v1, zi v2, zi x3, zi x9, zi x13, zi (x3 + 1), .null, .null] dX12_roleOf_32 (n := 34) rfl rfl rfl ?_
    have L_18 : ∀ n19 : Nat, ∀ (u15 : Int), (-2147483648 ≤ u15 ∧ u15 ≤ 2147483647) → (0 ≤ u15 ∧ u15 ≤ x13) → (x13 - u15 + 1 ≤ (n19 : Int)) → zK w p e 4 0 0 s m args below meth c 9 T Po 34 [.ref (w.2.1 + a), .null, .null, .null, zi x9, zi x13, zi u15, .null, .null] [] (T, M, J, R) := by
      intro n19
      induction n19 with
      | zero =>
        intro u15 h16 h17 hm21
        exfalso
        omega
      | succ n19 ih20 =>
        intro u15 h16 h17 hm21
        refine q_iload C dX12_roleOf_34 (n := 36) rfl rfl ?_
        refine q_iload C dX12_roleOf_36 (n := 38) rfl rfl ?_
        have J_22 : zK w p e 4 0 0 s m args below meth c 9 T Po 62 [.ref (w.2.1 + a), .null, .null, .null, zi x9, zi x13, zi u15, .null, .null] [] (T, M, J, R) := by
          refine q_iload C dX12_roleOf_62 (n := 64) rfl rfl ?_
          refine q_istore C [.ref (w.2.1 + a), .null, .null, .null, zi x9, zi x13, zi u15, zi u15, .null] dX12_roleOf_64 (n := 66) rfl rfl rfl ?_
          have L_26 : ∀ n27 : Nat, ∀ (u23 : Int), (-2147483648 ≤ u23 ∧ u23 ≤ 2147483647) → (u15 ≤ u23 ∧ u23 ≤ x13) → (x13 - u23 + 1 ≤ (n27 : Int)) → zK w p e 4 0 0 s m args below meth c 9 T Po 66 [.ref (w.2.1 + a), .null, .null, .null, zi x9, zi x13, zi u15, zi u23, .null] [] (T, M, J, R) := by
            intro n27
            induction n27 with
            | zero =>
              intro u23 h24 h25 hm29
              exfalso
              omega
            | succ n27 ih28 =>
              intro u23 h24 h25 hm29
              refine q_iload C dX12_roleOf_66 (n := 68) rfl rfl ?_
              refine q_iload C dX12_roleOf_68 (n := 70) rfl rfl ?_
              have J_30 : zK w p e 4 0 0 s m args below meth c 9 T Po 111 [.ref (w.2.1 + a), .null, .null, .null, zi x9, .null, zi u15, zi u23, .null] [] (T, M, J, R) := by
                refine q_aload_n C dX12_roleOf_111 (n := 112) rfl rfl ?_
                refine q_aload_n C dX12_roleOf_112 (n := 113) rfl rfl ?_
                refine q_getR C dX12_roleOf_113 (n := 116) rfl f_X12_24 (zM0 h0) (hF _ _ _ (zM13 h0)) ?_
                refine q_iload C dX12_roleOf_116 (n := 118) rfl rfl ?_
                refine q_iload C dX12_roleOf_118 (n := 120) rfl rfl ?_
                refine q_iadd C dX12_roleOf_120 (n := 121) rfl (v := x9 + u15) rfl ?_
                refine q_iload C dX12_roleOf_121 (n := 123) rfl rfl ?_
                refine q_iload C dX12_roleOf_123 (n := 125) rfl rfl ?_
                refine q_isub C dX12_roleOf_125 (n := 126) rfl (v := u23 - u15) rfl ?_
                refine q_callVp C dX12_roleOf_126 (n := 129) rfl m_X12_333 v_yX12_wordIn (zM0 h0) ⟨by decide, rfl⟩ (c_X12_wordIn (w := w) (J := J) hI hF h0 (zM14 h0) (zM15 h0) (x9 + u15) (u23 - u15) (by omega) (by omega)) (Nat.le_of_ble_eq_true rfl) rfl rfl (Nat.le_of_ble_eq_true rfl) ⟨Nat.le_refl _, Nat.le_refl _⟩ (fun x32 h33 => ?_)
                refine q_istore C [.ref (w.2.1 + a), .null, .null, .null, zi x9, .null, zi u15, zi u23, zi x32] dX12_roleOf_129 (n := 131) rfl rfl rfl ?_
                refine q_iload C dX12_roleOf_131 (n := 133) rfl rfl ?_
                refine q_iconst C dX12_roleOf_133 (n := 134) rfl ?_
                refine q_icmp_eq C 149 dX12_roleOf_134 (n := 137) rfl rfl (by omega) (fun h34 => ?_) (fun h34 => ?_)
                · refine q_iconst C dX12_roleOf_149 (n := 150) rfl ?_
                  refine q_goto C 187 dX12_roleOf_150 rfl ?_
                  exact q_iret C dX12_roleOf_187 ⟨rfl, rfl⟩ (by rw [hPo]; exact ⟨1, rfl, rfl, by omega⟩)
                · refine q_iload C dX12_roleOf_137 (n := 139) rfl rfl ?_
                  refine q_iconst C dX12_roleOf_139 (n := 140) rfl ?_
                  refine q_icmp_eq C 149 dX12_roleOf_140 (n := 143) rfl rfl (by omega) (fun h35 => ?_) (fun h35 => ?_)
                  · refine q_iconst C dX12_roleOf_149 (n := 150) rfl ?_
                    refine q_goto C 187 dX12_roleOf_150 rfl ?_
                    exact q_iret C dX12_roleOf_187 ⟨rfl, rfl⟩ (by rw [hPo]; exact ⟨1, rfl, rfl, by omega⟩)
                  · refine q_iload C dX12_roleOf_143 (n := 145) rfl rfl ?_
                    refine q_iconst C dX12_roleOf_145 (n := 146) rfl ?_
                    refine q_icmp_ne C 153 dX12_roleOf_146 (n := 149) rfl rfl (by omega) (fun h36 => ?_) (fun h36 => ?_)
                    · refine q_iload C dX12_roleOf_153 (n := 155) rfl rfl ?_
                      refine q_bipush C dX12_roleOf_155 (n := 157) rfl (x := 6) (by decide) ?_
                      refine q_icmp_ne C 164 dX12_roleOf_157 (n := 160) rfl rfl (by omega) (fun h37 => ?_) (fun h37 => ?_)
                      · refine q_iload C dX12_roleOf_164 (n := 166) rfl rfl ?_
                        refine q_bipush C dX12_roleOf_166 (n := 168) rfl (x := 7) (by decide) ?_
                        refine q_icmp_ne C 175 dX12_roleOf_168 (n := 171) rfl rfl (by omega) (fun h38 => ?_) (fun h38 => ?_)
                        · refine q_iload C dX12_roleOf_175 (n := 177) rfl rfl ?_
                          refine q_bipush C dX12_roleOf_177 (n := 179) rfl (x := 8) (by decide) ?_
                          refine q_icmp_ne C 186 dX12_roleOf_179 (n := 182) rfl rfl (by omega) (fun h39 => ?_) (fun h39 => ?_)
                          · refine q_iconst C dX12_roleOf_186 (n := 187) rfl ?_
                            exact q_iret C dX12_roleOf_187 ⟨rfl, rfl⟩ (by rw [hPo]; exact ⟨0, rfl, rfl, by omega⟩)
                          · refine q_iconst C dX12_roleOf_182 (n := 183) rfl ?_
                            refine q_goto C 187 dX12_roleOf_183 rfl ?_
                            exact q_iret C dX12_roleOf_187 ⟨rfl, rfl⟩ (by rw [hPo]; exact ⟨4, rfl, rfl, by omega⟩)
                        · refine q_iconst C dX12_roleOf_171 (n := 172) rfl ?_
                          refine q_goto C 187 dX12_roleOf_172 rfl ?_
                          exact q_iret C dX12_roleOf_187 ⟨rfl, rfl⟩ (by rw [hPo]; exact ⟨3, rfl, rfl, by omega⟩)
                      · refine q_iconst C dX12_roleOf_160 (n := 161) rfl ?_
                        refine q_goto C 187 dX12_roleOf_161 rfl ?_
                        exact q_iret C dX12_roleOf_187 ⟨rfl, rfl⟩ (by rw [hPo]; exact ⟨2, rfl, rfl, by omega⟩)
                    · refine q_iconst C dX12_roleOf_149 (n := 150) rfl ?_
                      refine q_goto C 187 dX12_roleOf_150 rfl ?_
                      exact q_iret C dX12_roleOf_187 ⟨rfl, rfl⟩ (by rw [hPo]; exact ⟨1, rfl, rfl, by omega⟩)
              refine q_icmp_ge C 111 dX12_roleOf_70 (n := 73) rfl rfl (by omega) (fun h40 => ?_) (fun h40 => ?_)
              · exact zK.weak (J_30) (zwk_c (zwk_n (zwk_n (zwk_n (zwk_c (zwk_n (zwk_c (zwk_c (zwk_n zwk_e)))))))))
              · refine q_aload_n C dX12_roleOf_73 (n := 74) rfl rfl ?_
                refine q_getR C dX12_roleOf_74 (n := 77) rfl f_X12_24 (zM0 h0) (hF _ _ _ (zM13 h0)) ?_
                refine q_iload C dX12_roleOf_77 (n := 79) rfl rfl ?_
                refine q_iload C dX12_roleOf_79 (n := 81) rfl rfl ?_
                refine q_iadd C dX12_roleOf_81 (n := 82) rfl (v := x9 + u23) rfl ?_
                have g41 := zI.at hI ((zM15 h0) (x9 + u23))
                refine q_bald C dX12_roleOf_82 (n := 83) rfl (zM14 h0) (by omega) (v := M (a + 4) (x9 + u23)) rfl ?_
                refine q_callSp C dX12_roleOf_83 (n := 86) rfl m_X12_304 s_yX12_isStart (c_X12_isStart (w := w) (J := J) hI hF (M (a + 4) (x9 + u23)) (by omega)) (Nat.le_of_ble_eq_true rfl) rfl rfl (Nat.le_of_ble_eq_true rfl) ⟨Nat.le_refl _, Nat.le_refl _⟩ (fun x43 h44 => ?_)
                have J_45 : zK w p e 4 0 0 s m args below meth c 9 T Po 105 [.ref (w.2.1 + a), .null, .null, .null, zi x9, zi x13, zi u15, zi u23, .null] [] (T, M, J, R) := by
                  refine q_iinc C [.ref (w.2.1 + a), .null, .null, .null, zi x9, zi x13, zi u15, zi (u23 + 1), .null] dX12_roleOf_105 (n := 108) rfl rfl rfl rfl ?_
                  refine q_goto C 66 dX12_roleOf_108 rfl ?_
                  exact zK.weak (ih28 (u23 + 1) (by omega) (by omega) (by omega)) (zwk_c (zwk_n (zwk_n (zwk_n (zwk_c (zwk_c (zwk_c (zwk_c (zwk_n zwk_e)))))))))
                refine q_if_ne C 105 dX12_roleOf_86 (n := 89) rfl rfl (by omega) (fun h46 => ?_) (fun h46 => ?_)
                · exact zK.weak (J_45) (zwk_c (zwk_n (zwk_n (zwk_n (zwk_c (zwk_c (zwk_c (zwk_c (zwk_n zwk_e)))))))))
                · refine q_aload_n C dX12_roleOf_89 (n := 90) rfl rfl ?_
                  refine q_getR C dX12_roleOf_90 (n := 93) rfl f_X12_24 (zM0 h0) (hF _ _ _ (zM13 h0)) ?_
                  refine q_iload C dX12_roleOf_93 (n := 95) rfl rfl ?_
                  refine q_iload C dX12_roleOf_95 (n := 97) rfl rfl ?_
                  refine q_iadd C dX12_roleOf_97 (n := 98) rfl (v := x9 + u23) rfl ?_
                  refine q_bald C dX12_roleOf_98 (n := 99) rfl (zM14 h0) (by omega) (v := M (a + 4) (x9 + u23)) rfl ?_
                  refine q_callSp C dX12_roleOf_99 (n := 102) rfl m_X12_307 s_yX12_isDigit (c_X12_isDigit (w := w) (J := J) hI hF (M (a + 4) (x9 + u23)) (by omega)) (Nat.le_of_ble_eq_true rfl) rfl rfl (Nat.le_of_ble_eq_true rfl) ⟨Nat.le_refl _, Nat.le_refl _⟩ (fun x49 h50 => ?_)
                  obtain ⟨h47, h48⟩ := h50
                  refine q_if_eq C 111 dX12_roleOf_102 (n := 105) rfl rfl (by omega) (fun h51 => ?_) (fun h51 => ?_)
                  · exact zK.weak (J_30) (zwk_c (zwk_n (zwk_n (zwk_n (zwk_c (zwk_n (zwk_c (zwk_c (zwk_n zwk_e)))))))))
                  · exact zK.weak (J_45) (zwk_c (zwk_n (zwk_n (zwk_n (zwk_c (zwk_c (zwk_c (zwk_c (zwk_n zwk_e)))))))))
          exact zK.weak (L_26 _ u15 (by omega) (by omega) (Int.self_le_toNat _)) (zwk_c (zwk_n (zwk_n (zwk_n (zwk_c (zwk_c (zwk_c (zwk_c (zwk_n zwk_e)))))))))
        refine q_icmp_ge C 62 dX12_roleOf_38 (n := 41) rfl rfl (by omega) (fun h52 => ?_) (fun h52 => ?_)
        · exact zK.weak (J_22) (zwk_c (zwk_n (zwk_n (zwk_n (zwk_c (zwk_c (zwk_c (zwk_n (zwk_n zwk_e)))))))))
        · refine q_aload_n C dX12_roleOf_41 (n := 42) rfl rfl ?_
          refine q_getR C dX12_roleOf_42 (n := 45) rfl f_X12_24 (zM0 h0) (hF _ _ _ (zM13 h0)) ?_
          refine q_iload C dX12_roleOf_45 (n := 47) rfl rfl ?_
          refine q_iload C dX12_roleOf_47 (n := 49) rfl rfl ?_
          refine q_iadd C dX12_roleOf_49 (n := 50) rfl (v := x9 + u15) rfl ?_
          have g53 := zI.at hI ((zM15 h0) (x9 + u15))
          refine q_bald C dX12_roleOf_50 (n := 51) rfl (zM14 h0) (by omega) (v := M (a + 4) (x9 + u15)) rfl ?_
          refine q_bipush C dX12_roleOf_51 (n := 53) rfl (x := 32) (by decide) ?_
          refine q_icmp_ne C 62 dX12_roleOf_53 (n := 56) rfl rfl (by omega) (fun h54 => ?_) (fun h54 => ?_)
          · exact zK.weak (J_22) (zwk_c (zwk_n (zwk_n (zwk_n (zwk_c (zwk_c (zwk_c (zwk_n (zwk_n zwk_e)))))))))
          · refine q_iinc C [.ref (w.2.1 + a), .null, .null, .null, zi x9, zi x13, zi (u15 + 1), .null, .null] dX12_roleOf_56 (n := 59) rfl rfl rfl rfl ?_
            refine q_goto C 34 dX12_roleOf_59 rfl ?_
            exact zK.weak (ih20 (u15 + 1) (by omega) (by omega) (by omega)) (zwk_c (zwk_n (zwk_n (zwk_n (zwk_c (zwk_c (zwk_c (zwk_n (zwk_n zwk_e)))))))))
    exact zK.weak (L_18 _ (x3 + 1) (by omega) (by omega) (Int.self_le_toNat _)) (zwk_c (zwk_n (zwk_n (zwk_n (zwk_c (zwk_c (zwk_c (zwk_n (zwk_n zwk_e)))))))))
  · refine q_iconst C dX12_roleOf_11 (n := 12) rfl ?_
    exact q_iret C dX12_roleOf_12 ⟨rfl, rfl⟩ (by rw [hPo]; exact ⟨0, rfl, rfl, by omega⟩)
theorem c_X12_behindOf {w : zWp} {T : zTl} {M : zMm} {J : zJm} {R : zRm'} {G : zGt} {F : zRm'} {a : Nat} (hI : zI G M) (hF : zF F R) (h0 : zModel T F G a) (v1 : Int) (v2 : Int) (p1 : zFi M a) (p2 : 0 ≤ v1 ∧ v1 ≤ 3) (p3 : 0 ≤ v2 ∧ v2 < M (a + 2) (4 + v1) ∧ v2 ≤ 39) : zCt w 5 0 0 yX12_behindOf cX12_behindOf 6 (some .int) [.ref (w.2.1 + a), zi v1, zi v2] (T, M, J, R) (zPp T M J R (fun x => (-1 ≤ x ∧ x ≤ 39 ∧ x < M (a + 2) (4 + v1)))) := by
  refine zCt.of rfl (Nat.le_of_ble_eq_true rfl) ?_
  intro p e s m args below meth c C
  obtain ⟨Po, hPo⟩ : ∃ Po, Po = zPp T M J R (fun x => (-1 ≤ x ∧ x ≤ 39 ∧ x < M (a + 2) (4 + v1))) := ⟨_, rfl⟩
  rw [← hPo]
  show zK w p e 5 0 0 s m args below meth c 6 T Po 0 [.ref (w.2.1 + a), zi v1, zi v2, .null, .null, .null] [] (T, M, J, R)
  refine q_aload_n C dX12_behindOf_0 (n := 1) rfl rfl ?_
  refine q_iload_n C dX12_behindOf_1 (n := 2) rfl rfl ?_
  refine q_iload_n C dX12_behindOf_2 (n := 3) rfl rfl ?_
  refine q_callVp C dX12_behindOf_3 (n := 6) rfl m_X12_337 v_yX12_roleOf (zM0 h0) ⟨by decide, rfl⟩ (c_X12_roleOf (w := w) (J := J) hI hF h0 v1 v2 p1 (by omega) (by omega)) (Nat.le_of_ble_eq_true rfl) rfl rfl (Nat.le_of_ble_eq_true rfl) ⟨Nat.le_refl _, Nat.le_refl _⟩ (fun x2 h3 => ?_)
  refine q_iconst C dX12_behindOf_6 (n := 7) rfl ?_
  refine q_icmp_ne C 12 dX12_behindOf_7 (n := 10) rfl rfl (by omega) (fun h4 => ?_) (fun h4 => ?_)
  · refine q_iconst C dX12_behindOf_12 (n := 13) rfl ?_
    refine q_istore_n C [.ref (w.2.1 + a), zi v1, zi v2, zi 0, .null, .null] dX12_behindOf_13 (n := 14) rfl rfl rfl ?_
    refine q_iload_n C dX12_behindOf_14 (n := 15) rfl rfl ?_
    refine q_iconst C dX12_behindOf_15 (n := 16) rfl ?_
    refine q_iadd C dX12_behindOf_16 (n := 17) rfl (v := v2 + 1) rfl ?_
    refine q_istore C [.ref (w.2.1 + a), zi v1, zi v2, zi 0, zi (v2 + 1), .null] dX12_behindOf_17 (n := 19) rfl rfl rfl ?_
    have L_11 : ∀ n12 : Nat, ∀ (u5 : Int) (u6 : Int), (-2147483648 ≤ u5 ∧ u5 ≤ 2147483647) → (-2147483648 ≤ u6 ∧ u6 ≤ 2147483647) → (0 ≤ u6 ∧ u6 ≤ 40) → (-u6 ≤ u5 ∧ u5 ≤ u6) → (40 - u6 + 1 ≤ (n12 : Int)) → zK w p e 5 0 0 s m args below meth c 6 T Po 19 [.ref (w.2.1 + a), zi v1, .null, zi u5, zi u6, .null] [] (T, M, J, R) := by
      intro n12
      induction n12 with
      | zero =>
        intro u5 u6 h7 h8 h9 h10 hm14
        exfalso
        omega
      | succ n12 ih13 =>
        intro u5 u6 h7 h8 h9 h10 hm14
        refine q_iload C dX12_behindOf_19 (n := 21) rfl rfl ?_
        refine q_aload_n C dX12_behindOf_21 (n := 22) rfl rfl ?_
        refine q_iload_n C dX12_behindOf_22 (n := 23) rfl rfl ?_
        refine q_callVp C dX12_behindOf_23 (n := 26) rfl m_X12_285 v_yX12_linesOf (zM0 h0) ⟨by decide, rfl⟩ (c_X12_linesOf (w := w) (J := J) hI hF h0 v1 (by omega)) (Nat.le_of_ble_eq_true rfl) rfl rfl (Nat.le_of_ble_eq_true rfl) ⟨Nat.le_refl _, Nat.le_refl _⟩ (fun x17 h18 => ?_)
        obtain ⟨h15, h16⟩ := h18
        refine q_icmp_ge C 81 dX12_behindOf_26 (n := 29) rfl rfl (by omega) (fun h19 => ?_) (fun h19 => ?_)
        · refine q_iconst C dX12_behindOf_81 (n := 82) rfl ?_
          exact q_iret C dX12_behindOf_82 ⟨rfl, rfl⟩ (by rw [hPo]; exact ⟨(-1), rfl, rfl, by omega⟩)
        · refine q_aload_n C dX12_behindOf_29 (n := 30) rfl rfl ?_
          refine q_iload_n C dX12_behindOf_30 (n := 31) rfl rfl ?_
          refine q_iload C dX12_behindOf_31 (n := 33) rfl rfl ?_
          refine q_callVp C dX12_behindOf_33 (n := 36) rfl m_X12_337 v_yX12_roleOf (zM0 h0) ⟨by decide, rfl⟩ (c_X12_roleOf (w := w) (J := J) hI hF h0 v1 u6 p1 (by omega) (by omega)) (Nat.le_of_ble_eq_true rfl) rfl rfl (Nat.le_of_ble_eq_true rfl) ⟨Nat.le_refl _, Nat.le_refl _⟩ (fun x21 h22 => ?_)
          refine q_istore C [.ref (w.2.1 + a), zi v1, .null, zi u5, zi u6, zi x21] dX12_behindOf_36 (n := 38) rfl rfl rfl ?_
          refine q_iload_n C dX12_behindOf_38 (n := 39) rfl rfl ?_
          have J_23 : zK w p e 5 0 0 s m args below meth c 6 T Po 51 [.ref (w.2.1 + a), zi v1, .null, zi u5, zi u6, zi x21] [] (T, M, J, R) := by
            refine q_iload_n C dX12_behindOf_51 (n := 52) rfl rfl ?_
            refine q_iload C dX12_behindOf_52 (n := 54) rfl rfl ?_
            refine q_iconst C dX12_behindOf_54 (n := 55) rfl ?_
            have J_27 : ∀ (u24 : Int), (-2147483648 ≤ u24 ∧ u24 ≤ 2147483647) → (-1 ≤ u24 ∧ u24 ≤ 1) → zK w p e 5 0 0 s m args below meth c 6 T Po 73 [.ref (w.2.1 + a), zi v1, .null, .null, zi u6, .null] [zi u24, zi u5] (T, M, J, R) := by
              intro u24 h25 h26
              refine q_iadd C dX12_behindOf_73 (n := 74) rfl (v := u5 + u24) rfl ?_
              refine q_istore_n C [.ref (w.2.1 + a), zi v1, .null, zi (u5 + u24), zi u6, .null] dX12_behindOf_74 (n := 75) rfl rfl rfl ?_
              refine q_iinc C [.ref (w.2.1 + a), zi v1, .null, zi (u5 + u24), zi (u6 + 1), .null] dX12_behindOf_75 (n := 78) rfl rfl rfl rfl ?_
              refine q_goto C 19 dX12_behindOf_78 rfl ?_
              exact zK.weak (ih13 (u5 + u24) (u6 + 1) (by omega) (by omega) (by omega) (by omega) (by omega)) (zwk_c (zwk_c (zwk_n (zwk_c (zwk_c (zwk_n zwk_e))))))
            refine q_icmp_ne C 62 dX12_behindOf_55 (n := 58) rfl rfl (by omega) (fun h28 => ?_) (fun h28 => ?_)
            · refine q_iload C dX12_behindOf_62 (n := 64) rfl rfl ?_
              refine q_iconst C dX12_behindOf_64 (n := 65) rfl ?_
              refine q_icmp_ne C 72 dX12_behindOf_65 (n := 68) rfl rfl (by omega) (fun h29 => ?_) (fun h29 => ?_)
              · refine q_iconst C dX12_behindOf_72 (n := 73) rfl ?_
                exact zK.weak (J_27 0 (by omega) (by omega)) (zwk_c (zwk_c (zwk_n (zwk_n (zwk_c (zwk_n zwk_e))))))
              · refine q_iconst C dX12_behindOf_68 (n := 69) rfl ?_
                refine q_goto C 73 dX12_behindOf_69 rfl ?_
                exact zK.weak (J_27 (-1) (by omega) (by omega)) (zwk_c (zwk_c (zwk_n (zwk_n (zwk_c (zwk_n zwk_e))))))
            · refine q_iconst C dX12_behindOf_58 (n := 59) rfl ?_
              refine q_goto C 73 dX12_behindOf_59 rfl ?_
              exact zK.weak (J_27 1 (by omega) (by omega)) (zwk_c (zwk_c (zwk_n (zwk_n (zwk_c (zwk_n zwk_e))))))
          refine q_if_ne C 51 dX12_behindOf_39 (n := 42) rfl rfl (by omega) (fun h30 => ?_) (fun h30 => ?_)
          · exact zK.weak (J_23) (zwk_c (zwk_c (zwk_n (zwk_c (zwk_c (zwk_c zwk_e))))))
          · refine q_iload C dX12_behindOf_42 (n := 44) rfl rfl ?_
            refine q_iconst C dX12_behindOf_44 (n := 45) rfl ?_
            refine q_icmp_le C 51 dX12_behindOf_45 (n := 48) rfl rfl (by omega) (fun h31 => ?_) (fun h31 => ?_)
            · exact zK.weak (J_23) (zwk_c (zwk_c (zwk_n (zwk_c (zwk_c (zwk_c zwk_e))))))
            · refine q_iload C dX12_behindOf_48 (n := 50) rfl rfl ?_
              exact q_iret C dX12_behindOf_50 ⟨rfl, rfl⟩ (by rw [hPo]; exact ⟨u6, rfl, rfl, by omega⟩)
    exact zK.weak (L_11 _ 0 (v2 + 1) (by omega) (by omega) (by omega) (by omega) (Int.self_le_toNat _)) (zwk_c (zwk_c (zwk_n (zwk_c (zwk_c (zwk_n zwk_e))))))
  · refine q_iconst C dX12_behindOf_10 (n := 11) rfl ?_
    exact q_iret C dX12_behindOf_11 ⟨rfl, rfl⟩ (by rw [hPo]; exact ⟨(-1), rfl, rfl, by omega⟩)
theorem c_X12_openAt {w : zWp} {T : zTl} {M : zMm} {J : zJm} {R : zRm'} {G : zGt} {F : zRm'} {a : Nat} (hI : zI G M) (hF : zF F R) (h0 : zModel T F G a) (v1 : Int) (v2 : Int) (p1 : zFi M a) (p2 : 0 ≤ v1 ∧ v1 ≤ 3) (p3 : 0 ≤ v2 ∧ v2 < M (a + 2) (4 + v1) ∧ v2 ≤ 39) : zCt w 5 0 0 yX12_openAt cX12_openAt 6 (some .int) [.ref (w.2.1 + a), zi v1, zi v2] (T, M, J, R) (zPp T M J R (fun x => (0 ≤ x ∧ x ≤ 40))) := by
  refine zCt.of rfl (Nat.le_of_ble_eq_true rfl) ?_
  intro p e s m args below meth c C
  obtain ⟨Po, hPo⟩ : ∃ Po, Po = zPp T M J R (fun x => (0 ≤ x ∧ x ≤ 40)) := ⟨_, rfl⟩
  rw [← hPo]
  show zK w p e 5 0 0 s m args below meth c 6 T Po 0 [.ref (w.2.1 + a), zi v1, zi v2, .null, .null, .null] [] (T, M, J, R)
  refine q_iconst C dX12_openAt_0 (n := 1) rfl ?_
  refine q_istore_n C [.ref (w.2.1 + a), zi v1, zi v2, zi 0, .null, .null] dX12_openAt_1 (n := 2) rfl rfl rfl ?_
  refine q_iconst C dX12_openAt_2 (n := 3) rfl ?_
  refine q_istore C [.ref (w.2.1 + a), zi v1, zi v2, zi 0, zi 0, .null] dX12_openAt_3 (n := 5) rfl rfl rfl ?_
  have L_7 : ∀ n8 : Nat, ∀ (u1 : Int) (u2 : Int), (-2147483648 ≤ u1 ∧ u1 ≤ 2147483647) → (-2147483648 ≤ u2 ∧ u2 ≤ 2147483647) → (0 ≤ u2 ∧ u2 ≤ v2) → (0 ≤ u1 ∧ u1 ≤ u2) → (40 - u2 + 1 ≤ (n8 : Int)) → zK w p e 5 0 0 s m args below meth c 6 T Po 5 [.ref (w.2.1 + a), zi v1, zi v2, zi u1, zi u2, .null] [] (T, M, J, R) := by
    intro n8
    induction n8 with
    | zero =>
      intro u1 u2 h3 h4 h5 h6 hm10
      exfalso
      omega
    | succ n8 ih9 =>
      intro u1 u2 h3 h4 h5 h6 hm10
      refine q_iload C dX12_openAt_5 (n := 7) rfl rfl ?_
      refine q_iload_n C dX12_openAt_7 (n := 8) rfl rfl ?_
      refine q_icmp_ge C 54 dX12_openAt_8 (n := 11) rfl rfl (by omega) (fun h11 => ?_) (fun h11 => ?_)
      · refine q_iload_n C dX12_openAt_54 (n := 55) rfl rfl ?_
        exact q_iret C dX12_openAt_55 ⟨rfl, rfl⟩ (by rw [hPo]; exact ⟨u1, rfl, rfl, by omega⟩)
      · refine q_aload_n C dX12_openAt_11 (n := 12) rfl rfl ?_
        refine q_iload_n C dX12_openAt_12 (n := 13) rfl rfl ?_
        refine q_iload C dX12_openAt_13 (n := 15) rfl rfl ?_
        refine q_callVp C dX12_openAt_15 (n := 18) rfl m_X12_337 v_yX12_roleOf (zM0 h0) ⟨by decide, rfl⟩ (c_X12_roleOf (w := w) (J := J) hI hF h0 v1 u2 p1 (by omega) (by omega)) (Nat.le_of_ble_eq_true rfl) rfl rfl (Nat.le_of_ble_eq_true rfl) ⟨Nat.le_refl _, Nat.le_refl _⟩ (fun x13 h14 => ?_)
        refine q_istore C [.ref (w.2.1 + a), zi v1, zi v2, zi u1, zi u2, zi x13] dX12_openAt_18 (n := 20) rfl rfl rfl ?_
        refine q_iload_n C dX12_openAt_20 (n := 21) rfl rfl ?_
        refine q_iload C dX12_openAt_21 (n := 23) rfl rfl ?_
        refine q_iconst C dX12_openAt_23 (n := 24) rfl ?_
        have J_18 : ∀ (u15 : Int), (-2147483648 ≤ u15 ∧ u15 ≤ 2147483647) → (0 ≤ u1 + u15 ∧ u15 ≤ 1) → zK w p e 5 0 0 s m args below meth c 6 T Po 46 [.ref (w.2.1 + a), zi v1, zi v2, .null, zi u2, .null] [zi u15, zi u1] (T, M, J, R) := by
          intro u15 h16 h17
          refine q_iadd C dX12_openAt_46 (n := 47) rfl (v := u1 + u15) rfl ?_
          refine q_istore_n C [.ref (w.2.1 + a), zi v1, zi v2, zi (u1 + u15), zi u2, .null] dX12_openAt_47 (n := 48) rfl rfl rfl ?_
          refine q_iinc C [.ref (w.2.1 + a), zi v1, zi v2, zi (u1 + u15), zi (u2 + 1), .null] dX12_openAt_48 (n := 51) rfl rfl rfl rfl ?_
          refine q_goto C 5 dX12_openAt_51 rfl ?_
          exact zK.weak (ih9 (u1 + u15) (u2 + 1) (by omega) (by omega) (by omega) (by omega) (by omega)) (zwk_c (zwk_c (zwk_c (zwk_c (zwk_c (zwk_n zwk_e))))))
        refine q_icmp_ne C 31 dX12_openAt_24 (n := 27) rfl rfl (by omega) (fun h19 => ?_) (fun h19 => ?_)
        · refine q_iload C dX12_openAt_31 (n := 33) rfl rfl ?_
          refine q_iconst C dX12_openAt_33 (n := 34) rfl ?_
          have J_20 : zK w p e 5 0 0 s m args below meth c 6 T Po 45 [.ref (w.2.1 + a), zi v1, zi v2, .null, zi u2, .null] [zi u1] (T, M, J, R) := by
            refine q_iconst C dX12_openAt_45 (n := 46) rfl ?_
            exact zK.weak (J_18 0 (by omega) (by omega)) (zwk_c (zwk_c (zwk_c (zwk_n (zwk_c (zwk_n zwk_e))))))
          refine q_icmp_ne C 45 dX12_openAt_34 (n := 37) rfl rfl (by omega) (fun h21 => ?_) (fun h21 => ?_)
          · exact zK.weak (J_20) (zwk_c (zwk_c (zwk_c (zwk_n (zwk_c (zwk_n zwk_e))))))
          · refine q_iload_n C dX12_openAt_37 (n := 38) rfl rfl ?_
            refine q_if_le C 45 dX12_openAt_38 (n := 41) rfl rfl (by omega) (fun h22 => ?_) (fun h22 => ?_)
            · exact zK.weak (J_20) (zwk_c (zwk_c (zwk_c (zwk_n (zwk_c (zwk_n zwk_e))))))
            · refine q_iconst C dX12_openAt_41 (n := 42) rfl ?_
              refine q_goto C 46 dX12_openAt_42 rfl ?_
              exact zK.weak (J_18 (-1) (by omega) (by omega)) (zwk_c (zwk_c (zwk_c (zwk_n (zwk_c (zwk_n zwk_e))))))
        · refine q_iconst C dX12_openAt_27 (n := 28) rfl ?_
          refine q_goto C 46 dX12_openAt_28 rfl ?_
          exact zK.weak (J_18 1 (by omega) (by omega)) (zwk_c (zwk_c (zwk_c (zwk_n (zwk_c (zwk_n zwk_e))))))
  exact zK.weak (L_7 _ 0 0 (by omega) (by omega) (by omega) (by omega) (Int.self_le_toNat _)) (zwk_c (zwk_c (zwk_c (zwk_c (zwk_c (zwk_n zwk_e))))))
theorem c_X12_nextOf {w : zWp} {T : zTl} {M : zMm} {J : zJm} {R : zRm'} {G : zGt} {F : zRm'} {a : Nat} (hI : zI G M) (hF : zF F R) (h0 : zModel T F G a) (v1 : Int) (v2 : Int) (p1 : zFi M a) (p2 : -2147483648 ≤ v1 ∧ v1 ≤ 2147483647) (p3 : -2147483648 ≤ v2 ∧ v2 ≤ 2147483647) : zCt w 6 0 0 yX12_nextOf cX12_nextOf 4 (some .int) [.ref (w.2.1 + a), zi v1, zi v2] (T, M, J, R) (zPi T R G (fun x M2 => (zMd a [] [0] [] M M2))) := by
  refine zCt.of rfl (Nat.le_of_ble_eq_true rfl) ?_
  intro p e s m args below meth c C
  obtain ⟨Po, hPo⟩ : ∃ Po, Po = zPi T R G (fun x M2 => (zMd a [] [0] [] M M2)) := ⟨_, rfl⟩
  rw [← hPo]
  have hK0 : zMd a [] [0] [] M M := zMd.rf
  show zK w p e 6 0 0 s m args below meth c 4 T Po 0 [.ref (w.2.1 + a), zi v1, zi v2, .null] [] (T, M, J, R)
  refine q_aload_n C dX12_nextOf_0 (n := 1) rfl rfl ?_
  refine q_iconst C dX12_nextOf_1 (n := 2) rfl ?_
  refine q_putI C dX12_nextOf_2 (n := 5) rfl f_X12_1 (zM0 h0) ⟨rfl, rfl⟩ (fun M1 (e2 : M1 = zup M a 0 0) => ?_)
  have hI3 : zI G M1 := hI.put e2 (zM1 h0) rfl (by omega)
  have hK4 := hK0.upS e2 rfl
  refine q_aload_n C dX12_nextOf_5 (n := 6) rfl rfl ?_
  refine q_iload_n C dX12_nextOf_6 (n := 7) rfl rfl ?_
  refine q_iload_n C dX12_nextOf_7 (n := 8) rfl rfl ?_
  refine q_callVp C dX12_nextOf_8 (n := 11) rfl m_X12_324 v_yX12_isLine (zM0 h0) ⟨by decide, rfl⟩ (c_X12_isLine (w := w) (J := J) hI3 hF h0 v1 v2 (by omega) (by omega)) (Nat.le_of_ble_eq_true rfl) rfl rfl (Nat.le_of_ble_eq_true rfl) ⟨Nat.le_refl _, Nat.le_refl _⟩ (fun x7 h8 => ?_)
  obtain ⟨h5, h6⟩ := h8
  have hz9 : M1 (a + 2) (4 + v1) = M (a + 2) (4 + v1) := (zup_p e2 (by omega) _)
  refine q_if_ne C 16 dX12_nextOf_11 (n := 14) rfl rfl (by omega) (fun h10 => ?_) (fun h10 => ?_)
  · refine q_aload_n C dX12_nextOf_16 (n := 17) rfl rfl ?_
    refine q_iload_n C dX12_nextOf_17 (n := 18) rfl rfl ?_
    refine q_iload_n C dX12_nextOf_18 (n := 19) rfl rfl ?_
    have hp11 : zFi M1 a := p1.cg (fun j => (zup_p e2 (by omega) _))
    refine q_callVp C dX12_nextOf_19 (n := 22) rfl m_X12_337 v_yX12_roleOf (zM0 h0) ⟨by decide, rfl⟩ (c_X12_roleOf (w := w) (J := J) hI3 hF h0 v1 v2 hp11 (by omega) (by have hz12 : M1 (a + 2) (4 + v1) = M (a + 2) (4 + v1) := (zup_p e2 (by omega) _); omega)) (Nat.le_of_ble_eq_true rfl) rfl rfl (Nat.le_of_ble_eq_true rfl) ⟨Nat.le_refl _, Nat.le_refl _⟩ (fun x14 h15 => ?_)
    refine q_istore_n C [.ref (w.2.1 + a), zi v1, zi v2, zi x14] dX12_nextOf_22 (n := 23) rfl rfl rfl ?_
    refine q_iload_n C dX12_nextOf_23 (n := 24) rfl rfl ?_
    refine q_if_eq C 41 dX12_nextOf_24 (n := 27) rfl rfl (by omega) (fun h16 => ?_) (fun h16 => ?_)
    · refine q_iconst C dX12_nextOf_41 (n := 42) rfl ?_
      exact q_iret C dX12_nextOf_42 ⟨rfl, rfl⟩ (by rw [hPo]; exact ⟨(-1), M1, J, rfl, rfl, hI3, hK4⟩)
    · refine q_iload_n C dX12_nextOf_27 (n := 28) rfl rfl ?_
      refine q_iconst C dX12_nextOf_28 (n := 29) rfl ?_
      have J_17 : zK w p e 6 0 0 s m args below meth c 4 T Po 43 [.ref (w.2.1 + a), zi v1, zi v2, .null] [] (T, M1, J, R) := by
        refine q_aload_n C dX12_nextOf_43 (n := 44) rfl rfl ?_
        refine q_iload_n C dX12_nextOf_44 (n := 45) rfl rfl ?_
        refine q_iload_n C dX12_nextOf_45 (n := 46) rfl rfl ?_
        refine q_callVp C dX12_nextOf_46 (n := 49) rfl m_X12_343 v_yX12_behindOf (zM0 h0) ⟨by decide, rfl⟩ (c_X12_behindOf (w := w) (J := J) hI3 hF h0 v1 v2 hp11 (by omega) (by have hz18 : M1 (a + 2) (4 + v1) = M (a + 2) (4 + v1) := (zup_p e2 (by omega) _); omega)) (Nat.le_of_ble_eq_true rfl) rfl rfl (Nat.le_of_ble_eq_true rfl) ⟨Nat.le_refl _, Nat.le_refl _⟩ (fun x20 h21 => ?_)
        have hz22 : M1 (a + 2) (4 + v1) = M (a + 2) (4 + v1) := (zup_p e2 (by omega) _)
        exact q_iret C dX12_nextOf_49 ⟨rfl, rfl⟩ (by rw [hPo]; exact ⟨x20, M1, J, rfl, rfl, hI3, hK4⟩)
      refine q_icmp_le C 43 dX12_nextOf_29 (n := 32) rfl rfl (by omega) (fun h23 => ?_) (fun h23 => ?_)
      · exact zK.weak (J_17) (zwk_c (zwk_c (zwk_c (zwk_n zwk_e))))
      · refine q_aload_n C dX12_nextOf_32 (n := 33) rfl rfl ?_
        refine q_iload_n C dX12_nextOf_33 (n := 34) rfl rfl ?_
        refine q_iload_n C dX12_nextOf_34 (n := 35) rfl rfl ?_
        refine q_callVp C dX12_nextOf_35 (n := 38) rfl m_X12_340 v_yX12_openAt (zM0 h0) ⟨by decide, rfl⟩ (c_X12_openAt (w := w) (J := J) hI3 hF h0 v1 v2 hp11 (by omega) (by have hz24 : M1 (a + 2) (4 + v1) = M (a + 2) (4 + v1) := (zup_p e2 (by omega) _); omega)) (Nat.le_of_ble_eq_true rfl) rfl rfl (Nat.le_of_ble_eq_true rfl) ⟨Nat.le_refl _, Nat.le_refl _⟩ (fun x26 h27 => ?_)
        refine q_if_ne C 43 dX12_nextOf_38 (n := 41) rfl rfl (by omega) (fun h28 => ?_) (fun h28 => ?_)
        · exact zK.weak (J_17) (zwk_c (zwk_c (zwk_c (zwk_n zwk_e))))
        · refine q_iconst C dX12_nextOf_41 (n := 42) rfl ?_
          exact q_iret C dX12_nextOf_42 ⟨rfl, rfl⟩ (by rw [hPo]; exact ⟨(-1), M1, J, rfl, rfl, hI3, hK4⟩)
  · refine q_iconst C dX12_nextOf_14 (n := 15) rfl ?_
    exact q_iret C dX12_nextOf_15 ⟨rfl, rfl⟩ (by rw [hPo]; exact ⟨(-1), M1, J, rfl, rfl, hI3, hK4⟩)
theorem c_X12_isBlankLine {w : zWp} {T : zTl} {M : zMm} {J : zJm} {R : zRm'} {G : zGt} {F : zRm'} {a : Nat} (hI : zI G M) (hF : zF F R) (h0 : zModel T F G a) (v1 : Int) (v2 : Int) (p1 : zFi M a) (p2 : 0 ≤ v1 ∧ v1 ≤ 3) (p3 : 0 ≤ v2 ∧ v2 < M (a + 2) (4 + v1) ∧ v2 ≤ 39) : zCt w 3 0 0 yX12_isBlankLine cX12_isBlankLine 5 (some .boolean) [.ref (w.2.1 + a), zi v1, zi v2] (T, M, J, R) (zPp T M J R (fun x => (x = 0 ∨ x = 1))) := by
  refine zCt.of rfl (Nat.le_of_ble_eq_true rfl) ?_
  intro p e s m args below meth c C
  obtain ⟨Po, hPo⟩ : ∃ Po, Po = zPp T M J R (fun x => (x = 0 ∨ x = 1)) := ⟨_, rfl⟩
  rw [← hPo]
  show zK w p e 3 0 0 s m args below meth c 5 T Po 0 [.ref (w.2.1 + a), zi v1, zi v2, .null, .null] [] (T, M, J, R)
  refine q_aload_n C dX12_isBlankLine_0 (n := 1) rfl rfl ?_
  refine q_iload_n C dX12_isBlankLine_1 (n := 2) rfl rfl ?_
  refine q_iload_n C dX12_isBlankLine_2 (n := 3) rfl rfl ?_
  refine q_callVp C dX12_isBlankLine_3 (n := 6) rfl m_X12_321 v_yX12_beginOf (zM0 h0) ⟨by decide, rfl⟩ (c_X12_beginOf (w := w) (J := J) hI hF h0 v1 v2 p1 (by omega) (by omega)) (Nat.le_of_ble_eq_true rfl) rfl rfl (Nat.le_of_ble_eq_true rfl) ⟨Nat.le_refl _, Nat.le_refl _⟩ (fun x4 h5 => ?_)
  obtain ⟨h1, h2, h3⟩ := h5
  refine q_istore_n C [.ref (w.2.1 + a), zi v1, zi v2, zi x4, .null] dX12_isBlankLine_6 (n := 7) rfl rfl rfl ?_
  refine q_iconst C dX12_isBlankLine_7 (n := 8) rfl ?_
  refine q_istore C [.ref (w.2.1 + a), zi v1, zi v2, zi x4, zi 0] dX12_isBlankLine_8 (n := 10) rfl rfl rfl ?_
  have L_9 : ∀ n10 : Nat, ∀ (u6 : Int), (-2147483648 ≤ u6 ∧ u6 ≤ 2147483647) → (0 ≤ u6 ∧ u6 ≤ 440) → (440 - u6 + 1 ≤ (n10 : Int)) → zK w p e 3 0 0 s m args below meth c 5 T Po 10 [.ref (w.2.1 + a), zi v1, zi v2, zi x4, zi u6] [] (T, M, J, R) := by
    intro n10
    induction n10 with
    | zero =>
      intro u6 h7 h8 hm12
      exfalso
      omega
    | succ n10 ih11 =>
      intro u6 h7 h8 hm12
      refine q_iload C dX12_isBlankLine_10 (n := 12) rfl rfl ?_
      refine q_aload_n C dX12_isBlankLine_12 (n := 13) rfl rfl ?_
      refine q_iload_n C dX12_isBlankLine_13 (n := 14) rfl rfl ?_
      refine q_iload_n C dX12_isBlankLine_14 (n := 15) rfl rfl ?_
      refine q_callVp C dX12_isBlankLine_15 (n := 18) rfl m_X12_289 v_yX12_lengthOf (zM0 h0) ⟨by decide, rfl⟩ (c_X12_lengthOf (w := w) (J := J) hI hF h0 v1 v2 (by omega) (by omega)) (Nat.le_of_ble_eq_true rfl) rfl rfl (Nat.le_of_ble_eq_true rfl) ⟨Nat.le_refl _, Nat.le_refl _⟩ (fun x15 h16 => ?_)
      obtain ⟨h13, h14⟩ := h16
      refine q_icmp_ge C 43 dX12_isBlankLine_18 (n := 21) rfl rfl (by omega) (fun h17 => ?_) (fun h17 => ?_)
      · refine q_iconst C dX12_isBlankLine_43 (n := 44) rfl ?_
        exact q_zret C dX12_isBlankLine_44 ⟨rfl, rfl⟩ (by omega) (by rw [hPo]; exact ⟨1, rfl, rfl, by omega⟩)
      · refine q_aload_n C dX12_isBlankLine_21 (n := 22) rfl rfl ?_
        refine q_getR C dX12_isBlankLine_22 (n := 25) rfl f_X12_24 (zM0 h0) (hF _ _ _ (zM13 h0)) ?_
        refine q_iload_n C dX12_isBlankLine_25 (n := 26) rfl rfl ?_
        refine q_iload C dX12_isBlankLine_26 (n := 28) rfl rfl ?_
        refine q_iadd C dX12_isBlankLine_28 (n := 29) rfl (v := x4 + u6) rfl ?_
        have g18 := zI.at hI ((zM15 h0) (x4 + u6))
        refine q_bald C dX12_isBlankLine_29 (n := 30) rfl (zM14 h0) (by omega) (v := M (a + 4) (x4 + u6)) rfl ?_
        refine q_bipush C dX12_isBlankLine_30 (n := 32) rfl (x := 32) (by decide) ?_
        refine q_icmp_eq C 37 dX12_isBlankLine_32 (n := 35) rfl rfl (by omega) (fun h19 => ?_) (fun h19 => ?_)
        · refine q_iinc C [.ref (w.2.1 + a), zi v1, zi v2, zi x4, zi (u6 + 1)] dX12_isBlankLine_37 (n := 40) rfl rfl rfl rfl ?_
          refine q_goto C 10 dX12_isBlankLine_40 rfl ?_
          exact zK.weak (ih11 (u6 + 1) (by omega) (by omega) (by omega)) (zwk_c (zwk_c (zwk_c (zwk_c (zwk_c zwk_e)))))
        · refine q_iconst C dX12_isBlankLine_35 (n := 36) rfl ?_
          exact q_zret C dX12_isBlankLine_36 ⟨rfl, rfl⟩ (by omega) (by rw [hPo]; exact ⟨0, rfl, rfl, by omega⟩)
  exact zK.weak (L_9 _ 0 (by omega) (by omega) (Int.self_le_toNat _)) (zwk_c (zwk_c (zwk_c (zwk_c (zwk_c zwk_e)))))
theorem c_X12_lexesPool {w : zWp} {T : zTl} {M : zMm} {J : zJm} {R : zRm'} {G : zGt} {F : zRm'} {a : Nat} (hI : zI G M) (hF : zF F R) (h0 : zModel T F G a) (v1 : Int) (v2 : Int) (v3 : Int) (p1 : 0 ≤ v1 ∧ v1 ≤ 440) (p2 : -1 ≤ v2 ∧ v2 ≤ 3) (p3 : -1 ≤ v3 ∧ v3 ≤ 39) : zCt w 3 0 0 yX12_lexesPool cX12_lexesPool 7 (some .boolean) [.ref (w.2.1 + a), zi v1, zi v2, zi v3] (T, M, J, R) (zPi T R G (fun x M2 => (zMd a [9, 10, 11, 12, 13, 14, 15, 16] [23, 24, 25, 26, 27, 28, 29, 34] [(18, 11), (18, 12), (18, 13), (18, 14)] M M2) ∧ (x = 0 ∨ x = 1) ∧ (M2 a 25 = 440) ∧ (M2 a 26 = 3500) ∧ (M2 a 24 = v1) ∧ (M2 a 28 = v2) ∧ (M2 a 29 = v3) ∧ (zLy M2 a 440))) := by
  refine zCt.of rfl (Nat.le_of_ble_eq_true rfl) ?_
  intro p e s m args below meth c C
  obtain ⟨Po, hPo⟩ : ∃ Po, Po = zPi T R G (fun x M2 => (zMd a [9, 10, 11, 12, 13, 14, 15, 16] [23, 24, 25, 26, 27, 28, 29, 34] [(18, 11), (18, 12), (18, 13), (18, 14)] M M2) ∧ (x = 0 ∨ x = 1) ∧ (M2 a 25 = 440) ∧ (M2 a 26 = 3500) ∧ (M2 a 24 = v1) ∧ (M2 a 28 = v2) ∧ (M2 a 29 = v3) ∧ (zLy M2 a 440)) := ⟨_, rfl⟩
  rw [← hPo]
  have hK0 : zMd a [9, 10, 11, 12, 13, 14, 15, 16] [23, 24, 25, 26, 27, 28, 29, 34] [(18, 11), (18, 12), (18, 13), (18, 14)] M M := zMd.rf
  show zK w p e 3 0 0 s m args below meth c 7 T Po 0 [.ref (w.2.1 + a), zi v1, zi v2, zi v3, .null, .null, .null] [] (T, M, J, R)
  refine q_aload_n C dX12_lexesPool_0 (n := 1) rfl rfl ?_
  refine q_iconst C dX12_lexesPool_1 (n := 2) rfl ?_
  refine q_putI C dX12_lexesPool_2 (n := 5) rfl f_X12_355 (zM0 h0) ⟨rfl, rfl⟩ (fun M1 (e2 : M1 = zup M a 23 0) => ?_)
  have hI3 : zI G M1 := hI.put e2 (zM58 h0) rfl (by omega)
  have hK4 := hK0.upS e2 rfl
  refine q_aload_n C dX12_lexesPool_5 (n := 6) rfl rfl ?_
  refine q_iload_n C dX12_lexesPool_6 (n := 7) rfl rfl ?_
  refine q_putI C dX12_lexesPool_7 (n := 10) rfl f_X12_391 (zM0 h0) ⟨rfl, rfl⟩ (fun M5 (e6 : M5 = zup M1 a 24 v1) => ?_)
  have hI7 : zI G M5 := hI3.put e6 (zM59 h0) rfl (by omega)
  have hK8 := hK4.upS e6 rfl
  refine q_aload_n C dX12_lexesPool_10 (n := 11) rfl rfl ?_
  refine q_sipush C dX12_lexesPool_11 (n := 14) rfl (x := 440) (by decide) ?_
  refine q_putI C dX12_lexesPool_14 (n := 17) rfl f_X12_394 (zM0 h0) ⟨rfl, rfl⟩ (fun M9 (e10 : M9 = zup M5 a 25 440) => ?_)
  have hI11 : zI G M9 := hI7.put e10 (zM60 h0) rfl (by omega)
  have hK12 := hK8.upS e10 rfl
  refine q_aload_n C dX12_lexesPool_17 (n := 18) rfl rfl ?_
  refine q_sipush C dX12_lexesPool_18 (n := 21) rfl (x := 3500) (by decide) ?_
  refine q_putI C dX12_lexesPool_21 (n := 24) rfl f_X12_397 (zM0 h0) ⟨rfl, rfl⟩ (fun M13 (e14 : M13 = zup M9 a 26 3500) => ?_)
  have hI15 : zI G M13 := hI11.put e14 (zM61 h0) rfl (by omega)
  have hK16 := hK12.upS e14 rfl
  refine q_aload_n C dX12_lexesPool_24 (n := 25) rfl rfl ?_
  refine q_iload_n C dX12_lexesPool_25 (n := 26) rfl rfl ?_
  refine q_putI C dX12_lexesPool_26 (n := 29) rfl f_X12_385 (zM0 h0) ⟨rfl, rfl⟩ (fun M17 (e18 : M17 = zup M13 a 27 v1) => ?_)
  have hI19 : zI G M17 := hI15.put e18 (zM62 h0) rfl (by omega)
  have hK20 := hK16.upS e18 rfl
  refine q_aload_n C dX12_lexesPool_29 (n := 30) rfl rfl ?_
  refine q_iload_n C dX12_lexesPool_30 (n := 31) rfl rfl ?_
  refine q_putI C dX12_lexesPool_31 (n := 34) rfl f_X12_379 (zM0 h0) ⟨rfl, rfl⟩ (fun M21 (e22 : M21 = zup M17 a 28 v2) => ?_)
  have hI23 : zI G M21 := hI19.put e22 (zM63 h0) rfl (by omega)
  have hK24 := hK20.upS e22 rfl
  refine q_aload_n C dX12_lexesPool_34 (n := 35) rfl rfl ?_
  refine q_iload_n C dX12_lexesPool_35 (n := 36) rfl rfl ?_
  refine q_putI C dX12_lexesPool_36 (n := 39) rfl f_X12_382 (zM0 h0) ⟨rfl, rfl⟩ (fun M25 (e26 : M25 = zup M21 a 29 v3) => ?_)
  have hI27 : zI G M25 := hI23.put e26 (zM64 h0) rfl (by omega)
  have hK28 := hK24.upS e26 rfl
  refine q_iconst C dX12_lexesPool_39 (n := 40) rfl ?_
  refine q_istore C [.ref (w.2.1 + a), zi v1, zi v2, zi v3, zi 0, .null, .null] dX12_lexesPool_40 (n := 42) rfl rfl rfl ?_
  have L_40 : ∀ n41 : Nat, ∀ (u29 : Int) (M31 : zMm) (J32 : zJm), zI G M31 → zMd a [9, 10, 11, 12, 13, 14, 15, 16] [23, 24, 25, 26, 27, 28, 29, 34] [(18, 11), (18, 12), (18, 13), (18, 14)] M M31 → zMd a [9, 10, 11, 12, 13, 14, 15, 16] [23, 34] [] M25 M31 → (-2147483648 ≤ u29 ∧ u29 ≤ 2147483647) → (0 ≤ u29 ∧ u29 ≤ v1) → (M31 a 23 ≤ u29) → (zLy M31 a u29) → (v1 - u29 + 1 ≤ (n41 : Int)) → zK w p e 3 0 0 s m args below meth c 7 T Po 42 [.ref (w.2.1 + a), zi v1, zi v2, zi v3, zi u29, .null, .null] [] (T, M31, J32, R) := by
    intro n41
    induction n41 with
    | zero =>
      intro u29 M31 J32 hI33 hK34 hK35 h36 h37 h38 h39 hm43
      exfalso
      omega
    | succ n41 ih42 =>
      intro u29 M31 J32 hI33 hK34 hK35 h36 h37 h38 h39 hm43
      refine q_iload C dX12_lexesPool_42 (n := 44) rfl rfl ?_
      refine q_iload_n C dX12_lexesPool_44 (n := 45) rfl rfl ?_
      refine q_icmp_ge C 216 dX12_lexesPool_45 (n := 48) rfl rfl (by omega) (fun h44 => ?_) (fun h44 => ?_)
      · refine q_iconst C dX12_lexesPool_216 (n := 217) rfl ?_
        exact q_zret C dX12_lexesPool_217 ⟨rfl, rfl⟩ (by omega) (by rw [hPo]; exact ⟨1, M31, J32, rfl, rfl, hI33, hK34, by omega, by have hz45 : M31 a 25 = 440 := ((hK35.getS rfl rfl).trans ((zup_n e26 (by omega)).trans ((zup_n e22 (by omega)).trans ((zup_n e18 (by omega)).trans ((zup_n e14 (by omega)).trans (zup_s e10)))))); omega, by have hz46 : M31 a 26 = 3500 := ((hK35.getS rfl rfl).trans ((zup_n e26 (by omega)).trans ((zup_n e22 (by omega)).trans ((zup_n e18 (by omega)).trans (zup_s e14))))); omega, by have hz47 : M31 a 24 = v1 := ((hK35.getS rfl rfl).trans ((zup_n e26 (by omega)).trans ((zup_n e22 (by omega)).trans ((zup_n e18 (by omega)).trans ((zup_n e14 (by omega)).trans ((zup_n e10 (by omega)).trans (zup_s e6))))))); omega, by have hz48 : M31 a 28 = v2 := ((hK35.getS rfl rfl).trans ((zup_n e26 (by omega)).trans (zup_s e22))); omega, by have hz49 : M31 a 29 = v3 := ((hK35.getS rfl rfl).trans (zup_s e26)); omega, (h39.le (by omega))⟩)
      · refine q_aload_n C dX12_lexesPool_48 (n := 49) rfl rfl ?_
        refine q_getR C dX12_lexesPool_49 (n := 52) rfl f_X12_65 (zM0 h0) (hF _ _ _ (zM55 h0)) ?_
        refine q_iload C dX12_lexesPool_52 (n := 54) rfl rfl ?_
        have g50 := zI.at hI ((zM57 h0) u29)
        refine q_bald C dX12_lexesPool_54 (n := 55) rfl (zM56 h0) (by omega) (v := M (a + 17) u29) ((hK35.getA rfl rfl rfl).trans ((zup_p e26 (by omega) _).trans ((zup_p e22 (by omega) _).trans ((zup_p e18 (by omega) _).trans ((zup_p e14 (by omega) _).trans ((zup_p e10 (by omega) _).trans ((zup_p e6 (by omega) _).trans (zup_p e2 (by omega) _)))))))) ?_
        refine q_bipush C dX12_lexesPool_55 (n := 57) rfl (x := 32) (by decide) ?_
        refine q_icmp_ne C 66 dX12_lexesPool_57 (n := 60) rfl rfl (by omega) (fun h51 => ?_) (fun h51 => ?_)
        · refine q_aload_n C dX12_lexesPool_66 (n := 67) rfl rfl ?_
          refine q_iload C dX12_lexesPool_67 (n := 69) rfl rfl ?_
          refine q_iload_n C dX12_lexesPool_69 (n := 70) rfl rfl ?_
          refine q_callVi C dX12_lexesPool_70 (n := 73) rfl m_X12_400 v_yX12_lexAt (zM0 h0) ⟨by decide, rfl⟩ (c_X12_lexAt (w := w) (J := J32) hI33 hF h0 u29 v1 (by omega)) (Nat.le_of_ble_eq_true rfl) rfl rfl (Nat.le_of_ble_eq_true rfl) ⟨Nat.le_refl _, Nat.le_refl _⟩ (fun x57 M53 J54  hI55 h56 => ?_)
          obtain ⟨hk58, h52⟩ := h56
          have hK59 := hK34.tr hk58 rfl rfl rfl
          have hK60 := hK35.tr hk58 rfl rfl rfl
          refine q_istore C [.ref (w.2.1 + a), zi v1, zi v2, zi v3, zi u29, zi x57, .null] dX12_lexesPool_73 (n := 75) rfl rfl rfl ?_
          refine q_iload C dX12_lexesPool_75 (n := 77) rfl rfl ?_
          have J_61 : zK w p e 3 0 0 s m args below meth c 7 T Po 87 [.ref (w.2.1 + a), .null, zi v2, zi v3, zi u29, .null, .null] [] (T, M53, J54, R) := by
            refine q_aload_n C dX12_lexesPool_87 (n := 88) rfl rfl ?_
            refine q_iconst C dX12_lexesPool_88 (n := 89) rfl ?_
            refine q_iload_n C dX12_lexesPool_89 (n := 90) rfl rfl ?_
            refine q_iload_n C dX12_lexesPool_90 (n := 91) rfl rfl ?_
            refine q_iload C dX12_lexesPool_91 (n := 93) rfl rfl ?_
            refine q_callVi C dX12_lexesPool_93 (n := 96) rfl m_X12_373 v_yX12_bad (zM0 h0) ⟨by decide, rfl⟩ (c_X12_bad (w := w) (J := J54) hI55 hF h0 1 v2 v3 u29 (by omega) (by omega) (by omega) (by omega)) (Nat.le_of_ble_eq_true rfl) rfl rfl (Nat.le_of_ble_eq_true rfl) ⟨Nat.le_refl _, Nat.le_refl _⟩ (fun x68 M64 J65  hI66 h67 => ?_)
            obtain ⟨hk69, h62, h63⟩ := h67
            have hK70 := hK59.tr hk69 rfl rfl rfl
            have hp76 : zLy M64 a u29 := h39.cg (fun j => ((hk69.getA rfl rfl rfl).trans (hk58.getA rfl rfl rfl))) (fun j => ((hk69.getA rfl rfl rfl).trans (hk58.getA rfl rfl rfl))) ((hk69.getS rfl rfl).trans (hk58.getS rfl rfl))
            exact q_zret C dX12_lexesPool_96 ⟨rfl, rfl⟩ (by omega) (by rw [hPo]; exact ⟨x68, M64, J65, rfl, rfl, hI66, hK70, by omega, by have hz71 : M64 a 25 = 440 := ((hk69.getS rfl rfl).trans ((hk58.getS rfl rfl).trans ((hK35.getS rfl rfl).trans ((zup_n e26 (by omega)).trans ((zup_n e22 (by omega)).trans ((zup_n e18 (by omega)).trans ((zup_n e14 (by omega)).trans (zup_s e10)))))))); omega, by have hz72 : M64 a 26 = 3500 := ((hk69.getS rfl rfl).trans ((hk58.getS rfl rfl).trans ((hK35.getS rfl rfl).trans ((zup_n e26 (by omega)).trans ((zup_n e22 (by omega)).trans ((zup_n e18 (by omega)).trans (zup_s e14))))))); omega, by have hz73 : M64 a 24 = v1 := ((hk69.getS rfl rfl).trans ((hk58.getS rfl rfl).trans ((hK35.getS rfl rfl).trans ((zup_n e26 (by omega)).trans ((zup_n e22 (by omega)).trans ((zup_n e18 (by omega)).trans ((zup_n e14 (by omega)).trans ((zup_n e10 (by omega)).trans (zup_s e6))))))))); omega, by have hz74 : M64 a 28 = v2 := ((hk69.getS rfl rfl).trans ((hk58.getS rfl rfl).trans ((hK35.getS rfl rfl).trans ((zup_n e26 (by omega)).trans (zup_s e22))))); omega, by have hz75 : M64 a 29 = v3 := ((hk69.getS rfl rfl).trans ((hk58.getS rfl rfl).trans ((hK35.getS rfl rfl).trans (zup_s e26)))); omega, (hp76.le (by omega))⟩)
          refine q_if_eq C 87 dX12_lexesPool_77 (n := 80) rfl rfl (by omega) (fun h77 => ?_) (fun h77 => ?_)
          · exact zK.weak (J_61) (zwk_c (zwk_n (zwk_c (zwk_c (zwk_c (zwk_n (zwk_n zwk_e)))))))
          · refine q_iload C dX12_lexesPool_80 (n := 82) rfl rfl ?_
            refine q_bipush C dX12_lexesPool_82 (n := 84) rfl (x := 30) (by decide) ?_
            refine q_icmp_le C 97 dX12_lexesPool_84 (n := 87) rfl rfl (by omega) (fun h78 => ?_) (fun h78 => ?_)
            · refine q_aload_n C dX12_lexesPool_97 (n := 98) rfl rfl ?_
              have g79 := zI.at hI33 (zM58 h0)
              refine q_getI C dX12_lexesPool_98 (n := 101) rfl f_X12_355 (zM0 h0) (v := M31 a 23) (hk58.getS rfl rfl) ?_
              refine q_istore C [.ref (w.2.1 + a), zi v1, zi v2, zi v3, zi u29, zi x57, zi (M31 a 23)] dX12_lexesPool_101 (n := 103) rfl rfl rfl ?_
              refine q_aload_n C dX12_lexesPool_103 (n := 104) rfl rfl ?_
              refine q_getR C dX12_lexesPool_104 (n := 107) rfl f_X12_40 (zM0 h0) (hF _ _ _ (zM31 h0)) ?_
              refine q_iload C dX12_lexesPool_107 (n := 109) rfl rfl ?_
              refine q_aload_n C dX12_lexesPool_109 (n := 110) rfl rfl ?_
              have g80 := zI.at hI55 (zM77 h0)
              refine q_getI C dX12_lexesPool_110 (n := 113) rfl f_X12_388 (zM0 h0) (v := M53 a 34) rfl ?_
              refine q_iast C dX12_lexesPool_113 (n := 114) rfl (zM32 h0) (by omega)  (fun M81 e82 => ?_)
              have hI83 : zI G M81 := hI55.put e82 ((zM33 h0) (M31 a 23)) rfl (by omega)
              have hK84 := hK59.upA e82 rfl
              have hK85 := hK60.upA e82 rfl
              refine q_aload_n C dX12_lexesPool_114 (n := 115) rfl rfl ?_
              refine q_getR C dX12_lexesPool_115 (n := 118) rfl f_X12_43 (zM0 h0) (hF _ _ _ (zM34 h0)) ?_
              refine q_iload C dX12_lexesPool_118 (n := 120) rfl rfl ?_
              refine q_iload C dX12_lexesPool_120 (n := 122) rfl rfl ?_
              refine q_iast C dX12_lexesPool_122 (n := 123) rfl (zM35 h0) (by omega)  (fun M86 e87 => ?_)
              have hI88 : zI G M86 := hI83.put e87 ((zM36 h0) (M31 a 23)) rfl (by omega)
              have hK89 := hK84.upA e87 rfl
              have hK90 := hK85.upA e87 rfl
              refine q_aload_n C dX12_lexesPool_123 (n := 124) rfl rfl ?_
              refine q_getR C dX12_lexesPool_124 (n := 127) rfl f_X12_46 (zM0 h0) (hF _ _ _ (zM37 h0)) ?_
              refine q_iload C dX12_lexesPool_127 (n := 129) rfl rfl ?_
              refine q_iload C dX12_lexesPool_129 (n := 131) rfl rfl ?_
              refine q_iast C dX12_lexesPool_131 (n := 132) rfl (zM38 h0) (by omega)  (fun M91 e92 => ?_)
              have hI93 : zI G M91 := hI88.put e92 ((zM39 h0) (M31 a 23)) rfl (by omega)
              have hK94 := hK89.upA e92 rfl
              have hK95 := hK90.upA e92 rfl
              refine q_aload_n C dX12_lexesPool_132 (n := 133) rfl rfl ?_
              refine q_getR C dX12_lexesPool_133 (n := 136) rfl f_X12_49 (zM0 h0) (hF _ _ _ (zM40 h0)) ?_
              refine q_iload C dX12_lexesPool_136 (n := 138) rfl rfl ?_
              refine q_iload_n C dX12_lexesPool_138 (n := 139) rfl rfl ?_
              refine q_iast C dX12_lexesPool_139 (n := 140) rfl (zM41 h0) (by omega)  (fun M96 e97 => ?_)
              have hI98 : zI G M96 := hI93.put e97 ((zM42 h0) (M31 a 23)) rfl (by omega)
              have hK99 := hK94.upA e97 rfl
              have hK100 := hK95.upA e97 rfl
              refine q_aload_n C dX12_lexesPool_140 (n := 141) rfl rfl ?_
              refine q_getR C dX12_lexesPool_141 (n := 144) rfl f_X12_52 (zM0 h0) (hF _ _ _ (zM43 h0)) ?_
              refine q_iload C dX12_lexesPool_144 (n := 146) rfl rfl ?_
              refine q_iload_n C dX12_lexesPool_146 (n := 147) rfl rfl ?_
              refine q_iast C dX12_lexesPool_147 (n := 148) rfl (zM44 h0) (by omega)  (fun M101 e102 => ?_)
              have hI103 : zI G M101 := hI98.put e102 ((zM45 h0) (M31 a 23)) rfl (by omega)
              have hK104 := hK99.upA e102 rfl
              have hK105 := hK100.upA e102 rfl
              refine q_aload_n C dX12_lexesPool_148 (n := 149) rfl rfl ?_
              refine q_getR C dX12_lexesPool_149 (n := 152) rfl f_X12_55 (zM0 h0) (hF _ _ _ (zM46 h0)) ?_
              refine q_iload C dX12_lexesPool_152 (n := 154) rfl rfl ?_
              refine q_iload C dX12_lexesPool_154 (n := 156) rfl rfl ?_
              refine q_iast C dX12_lexesPool_156 (n := 157) rfl (zM47 h0) (by omega)  (fun M106 e107 => ?_)
              have hI108 : zI G M106 := hI103.put e107 ((zM48 h0) (M31 a 23)) rfl (by omega)
              have hK109 := hK104.upA e107 rfl
              have hK110 := hK105.upA e107 rfl
              refine q_aload_n C dX12_lexesPool_157 (n := 158) rfl rfl ?_
              refine q_getR C dX12_lexesPool_158 (n := 161) rfl f_X12_58 (zM0 h0) (hF _ _ _ (zM49 h0)) ?_
              refine q_iload C dX12_lexesPool_161 (n := 163) rfl rfl ?_
              refine q_iconst C dX12_lexesPool_163 (n := 164) rfl ?_
              refine q_iast C dX12_lexesPool_164 (n := 165) rfl (zM50 h0) (by omega)  (fun M111 e112 => ?_)
              have hI113 : zI G M111 := hI108.put e112 ((zM51 h0) (M31 a 23)) rfl (by omega)
              have hK114 := hK109.upA e112 rfl
              have hK115 := hK110.upA e112 rfl
              refine q_aload_n C dX12_lexesPool_165 (n := 166) rfl rfl ?_
              refine q_getR C dX12_lexesPool_166 (n := 169) rfl f_X12_61 (zM0 h0) (hF _ _ _ (zM52 h0)) ?_
              refine q_iload C dX12_lexesPool_169 (n := 171) rfl rfl ?_
              refine q_iload C dX12_lexesPool_171 (n := 173) rfl rfl ?_
              have J_119 : ∀ (u116 : Int), (-2147483648 ≤ u116 ∧ u116 ≤ 2147483647) → (u116 = 0 ∨ u116 = 1) → zK w p e 3 0 0 s m args below meth c 7 T Po 195 [.ref (w.2.1 + a), zi v1, zi v2, zi v3, zi u29, zi x57, .null] [zi u116, zi (M31 a 23), .ref (w.2.1 + (a + 16))] (T, M111, J54, R) := by
                intro u116 h117 h118
                refine q_iast C dX12_lexesPool_195 (n := 196) rfl (zM53 h0) (by omega)  (fun M120 e121 => ?_)
                have hI122 : zI G M120 := hI113.put e121 ((zM54 h0) (M31 a 23)) rfl (by omega)
                have hK123 := hK114.upA e121 rfl
                have hK124 := hK115.upA e121 rfl
                refine q_aload_n C dX12_lexesPool_196 (n := 197) rfl rfl ?_
                refine q_dup C dX12_lexesPool_197 (n := 198) rfl rfl ?_
                refine q_getI C dX12_lexesPool_198 (n := 201) rfl f_X12_355 (zM0 h0) (v := M31 a 23) ((zup_p e121 (by omega) _).trans ((zup_p e112 (by omega) _).trans ((zup_p e107 (by omega) _).trans ((zup_p e102 (by omega) _).trans ((zup_p e97 (by omega) _).trans ((zup_p e92 (by omega) _).trans ((zup_p e87 (by omega) _).trans ((zup_p e82 (by omega) _).trans (hk58.getS rfl rfl))))))))) ?_
                refine q_iconst C dX12_lexesPool_201 (n := 202) rfl ?_
                refine q_iadd C dX12_lexesPool_202 (n := 203) rfl (v := (M31 a 23) + 1) rfl ?_
                refine q_putI C dX12_lexesPool_203 (n := 206) rfl f_X12_355 (zM0 h0) ⟨rfl, rfl⟩ (fun M125 (e126 : M125 = zup M120 a 23 ((M31 a 23) + 1)) => ?_)
                have hI127 : zI G M125 := hI122.put e126 (zM58 h0) rfl (by omega)
                have hK128 := hK123.upS e126 rfl
                have hK129 := hK124.upS e126 rfl
                have hp130 : zLy M125 a (u29 + x57) := h39.add (n := (M31 a 23)) (by omega) (by omega) (by omega) (by omega) (zup_s e126) (fun j hj => ((zup_p e126 (by omega) _).trans ((zup_p e121 (by omega) _).trans ((zup_p e112 (by omega) _).trans ((zup_p e107 (by omega) _).trans ((zup_p e102 (by omega) _).trans ((zup_p e97 (by omega) _).trans ((zup_p e92 (by omega) _).trans ((zup_n e87 (by omega)).trans ((zup_p e82 (by omega) _).trans (hk58.getA rfl rfl rfl))))))))))) (fun j hj => ((zup_p e126 (by omega) _).trans ((zup_p e121 (by omega) _).trans ((zup_p e112 (by omega) _).trans ((zup_p e107 (by omega) _).trans ((zup_p e102 (by omega) _).trans ((zup_p e97 (by omega) _).trans ((zup_n e92 (by omega)).trans ((zup_p e87 (by omega) _).trans ((zup_p e82 (by omega) _).trans (hk58.getA rfl rfl rfl))))))))))) ((zup_p e126 (by omega) _).trans ((zup_p e121 (by omega) _).trans ((zup_p e112 (by omega) _).trans ((zup_p e107 (by omega) _).trans ((zup_p e102 (by omega) _).trans ((zup_p e97 (by omega) _).trans ((zup_p e92 (by omega) _).trans (zup_s e87)))))))) ((zup_p e126 (by omega) _).trans ((zup_p e121 (by omega) _).trans ((zup_p e112 (by omega) _).trans ((zup_p e107 (by omega) _).trans ((zup_p e102 (by omega) _).trans ((zup_p e97 (by omega) _).trans (zup_s e92)))))))
                refine q_iload C dX12_lexesPool_206 (n := 208) rfl rfl ?_
                refine q_iload C dX12_lexesPool_208 (n := 210) rfl rfl ?_
                refine q_iadd C dX12_lexesPool_210 (n := 211) rfl (v := u29 + x57) rfl ?_
                refine q_istore C [.ref (w.2.1 + a), zi v1, zi v2, zi v3, zi (u29 + x57), zi x57, .null] dX12_lexesPool_211 (n := 213) rfl rfl rfl ?_
                refine q_goto C 42 dX12_lexesPool_213 rfl ?_
                exact zK.weak (ih42 (u29 + x57) M125 J54 hI127 hK128 hK129 (by omega) (by omega) (by have hz131 : M125 a 23 = (M31 a 23) + 1 := (zup_s e126); omega) (hp130.le (by omega)) (by omega)) (zwk_c (zwk_c (zwk_c (zwk_c (zwk_c (zwk_n (zwk_n zwk_e)))))))
              have J_132 : zK w p e 3 0 0 s m args below meth c 7 T Po 194 [.ref (w.2.1 + a), zi v1, zi v2, zi v3, zi u29, zi x57, .null] [zi (M31 a 23), .ref (w.2.1 + (a + 16))] (T, M111, J54, R) := by
                refine q_iconst C dX12_lexesPool_194 (n := 195) rfl ?_
                exact zK.weak (J_119 0 (by omega) (by omega)) (zwk_c (zwk_c (zwk_c (zwk_c (zwk_c (zwk_c (zwk_n zwk_e)))))))
              refine q_if_le C 194 dX12_lexesPool_173 (n := 176) rfl rfl (by omega) (fun h133 => ?_) (fun h133 => ?_)
              · exact zK.weak (J_132) (zwk_c (zwk_c (zwk_c (zwk_c (zwk_c (zwk_c (zwk_n zwk_e)))))))
              · refine q_aload_n C dX12_lexesPool_176 (n := 177) rfl rfl ?_
                refine q_getR C dX12_lexesPool_177 (n := 180) rfl f_X12_65 (zM0 h0) (hF _ _ _ (zM55 h0)) ?_
                refine q_iload C dX12_lexesPool_180 (n := 182) rfl rfl ?_
                refine q_iconst C dX12_lexesPool_182 (n := 183) rfl ?_
                refine q_isub C dX12_lexesPool_183 (n := 184) rfl (v := u29 - 1) rfl ?_
                have g134 := zI.at hI ((zM57 h0) (u29 - 1))
                refine q_bald C dX12_lexesPool_184 (n := 185) rfl (zM56 h0) (by omega) (v := M (a + 17) (u29 - 1)) ((zup_p e112 (by omega) _).trans ((zup_p e107 (by omega) _).trans ((zup_p e102 (by omega) _).trans ((zup_p e97 (by omega) _).trans ((zup_p e92 (by omega) _).trans ((zup_p e87 (by omega) _).trans ((zup_p e82 (by omega) _).trans ((hk58.getA rfl rfl rfl).trans ((hK35.getA rfl rfl rfl).trans ((zup_p e26 (by omega) _).trans ((zup_p e22 (by omega) _).trans ((zup_p e18 (by omega) _).trans ((zup_p e14 (by omega) _).trans ((zup_p e10 (by omega) _).trans ((zup_p e6 (by omega) _).trans (zup_p e2 (by omega) _)))))))))))))))) ?_
                refine q_bipush C dX12_lexesPool_185 (n := 187) rfl (x := 32) (by decide) ?_
                refine q_icmp_ne C 194 dX12_lexesPool_187 (n := 190) rfl rfl (by omega) (fun h135 => ?_) (fun h135 => ?_)
                · exact zK.weak (J_132) (zwk_c (zwk_c (zwk_c (zwk_c (zwk_c (zwk_c (zwk_n zwk_e)))))))
                · refine q_iconst C dX12_lexesPool_190 (n := 191) rfl ?_
                  refine q_goto C 195 dX12_lexesPool_191 rfl ?_
                  exact zK.weak (J_119 1 (by omega) (by omega)) (zwk_c (zwk_c (zwk_c (zwk_c (zwk_c (zwk_c (zwk_n zwk_e)))))))
            · exact zK.weak (J_61) (zwk_c (zwk_n (zwk_c (zwk_c (zwk_c (zwk_n (zwk_n zwk_e)))))))
        · refine q_iinc C [.ref (w.2.1 + a), zi v1, zi v2, zi v3, zi (u29 + 1), .null, .null] dX12_lexesPool_60 (n := 63) rfl rfl rfl rfl ?_
          refine q_goto C 42 dX12_lexesPool_63 rfl ?_
          exact zK.weak (ih42 (u29 + 1) M31 J32 hI33 hK34 hK35 (by omega) (by omega) (by omega) (h39.le (by omega)) (by omega)) (zwk_c (zwk_c (zwk_c (zwk_c (zwk_c (zwk_n (zwk_n zwk_e)))))))
  exact zK.weak (L_40 _ 0 M25 J hI27 hK28 (zMd.rf : zMd a [9, 10, 11, 12, 13, 14, 15, 16] [23, 34] [] M25 M25) (by omega) (by omega) (by have hz136 : M25 a 23 = 0 := ((zup_n e26 (by omega)).trans ((zup_n e22 (by omega)).trans ((zup_n e18 (by omega)).trans ((zup_n e14 (by omega)).trans ((zup_n e10 (by omega)).trans ((zup_n e6 (by omega)).trans (zup_s e2))))))); omega) (by unfold zLy; rw [((zup_n e26 (by omega)).trans ((zup_n e22 (by omega)).trans ((zup_n e18 (by omega)).trans ((zup_n e14 (by omega)).trans ((zup_n e10 (by omega)).trans ((zup_n e6 (by omega)).trans (zup_s e2)))))))]; exact zLt.zero) (Int.self_le_toNat _)) (zwk_c (zwk_c (zwk_c (zwk_c (zwk_c (zwk_n (zwk_n zwk_e)))))))
