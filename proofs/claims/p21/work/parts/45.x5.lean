theorem zMu_begin {M M2 : zMm} {a : Nat} {n : Int} (n0 : 0 ≤ n) (e24 : ∀ j, M2 (a + 24) j = M (a + 24) j) (e25 : ∀ j, M2 (a + 25) j = M (a + 25) j) (e57 : M2 a 57 = M a 57) (e58 : M2 a 58 = M a 58) (e62 : M2 a 62 = M a 62 + 1) (ec : ∀ j, j ≠ n → M2 (a + 31) j = M (a + 31) j) (e0 : M2 (a + 31) n = 0) : zMu M2 a (n + 1) = zMu M a n - 27550 := by
  have z1 := zSum_s (g := M2 (a + 31)) (b := 0) (i := n) n0
  rw [Int.zero_add, e0, zSum_cg (g := M2 (a + 31)) (h := M (a + 31)) n.toNat (fun i hi => ec _ (by omega))] at z1
  unfold zMu
  rw [funext e24, funext e25, e57, e58, e62, z1]
  omega
def zAg (M : zMm) (a : Nat) (mp : Int → Int) (f A0 m : Int) : Prop := ∀ p, 0 ≤ p → p < mp m → A0 ≤ M (a + 33) (5 * f + p) ∧ M (a + 33) (5 * f + p) ≤ M (a + 33) (5 * f + p + 1) ∧ M (a + 33) (5 * f + p + 1) ≤ M a 59
theorem zAg.cg {M M2 : zMm} {a : Nat} {mp : Int → Int} {f A0 m : Int} (h : zAg M a mp f A0 m) (e33 : ∀ j, M2 (a + 33) j = M (a + 33) j) (e59 : M2 a 59 = M a 59) : zAg M2 a mp f A0 m := fun p p0 p1 => by
  rw [e33, e33, e59]
  exact h p p0 p1
theorem c_X12_newPiece {w : zWp} {T : zTl} {M : zMm} {J : zJm} {R : zRm'} {G : zGt} {F : zRm'} {a : Nat} {mb mp : Int → Int} {n A0 v u z : Int} (hI : zI G M) (hF : zF F R) (h0 : zModel T F G a) (v1 : Int) (p1 : zX M a mb mp n A0 v u z) (p2 : M a 57 + 1 = n ∧ 1 ≤ u) (p3 : v1 = 0 ∨ v1 = 1) : zCt w 1 0 0 yX12_newPiece cX12_newPiece 2 none [.ref (w.2.1 + a), zi v1] (T, M, J, R) (zPv T R G (fun M2 => (zMd a [37, 38, 39] [60] [] M M2) ∧ (zX M2 a mb mp n A0 v (u - 1) z) ∧ (M2 (a + 38) (M2 a 60 - 1) = 0) ∧ (M2 a 60 = M a 60 + 1))) := by
  refine zCt.of rfl (Nat.le_of_ble_eq_true rfl) ?_
  intro p e s m args below meth c C
  obtain ⟨Po, hPo⟩ : ∃ Po, Po = zPv T R G (fun M2 => (zMd a [37, 38, 39] [60] [] M M2) ∧ (zX M2 a mb mp n A0 v (u - 1) z) ∧ (M2 (a + 38) (M2 a 60 - 1) = 0) ∧ (M2 a 60 = M a 60 + 1)) := ⟨_, rfl⟩
  rw [← hPo]
  have hK0 : zMd a [37, 38, 39] [60] [] M M := zMd.rf
  have gx0 := zX.num p1
  show zK w p e 1 0 0 s m args below meth c 2 T Po 0 [.ref (w.2.1 + a), zi v1] [] (T, M, J, R)
  refine q_aload_n C dX12_newPiece_0 (n := 1) rfl rfl ?_
  refine q_getR C dX12_newPiece_1 (n := 4) rfl f_X12_125 (zM0 h0) (hF _ _ _ (zM124 h0)) ?_
  refine q_aload_n C dX12_newPiece_4 (n := 5) rfl rfl ?_
  have g1 := zI.at hI (zM145 h0)
  refine q_getI C dX12_newPiece_5 (n := 8) rfl f_X12_458 (zM0 h0) (v := M a 60) rfl ?_
  refine q_aload_n C dX12_newPiece_8 (n := 9) rfl rfl ?_
  have g2 := zI.at hI (zM61 h0)
  refine q_getI C dX12_newPiece_9 (n := 12) rfl f_X12_397 (zM0 h0) (v := M a 26) rfl ?_
  refine q_iast C dX12_newPiece_12 (n := 13) rfl (zM125 h0) (by omega)  (fun M3 e4 => ?_)
  have hI5 : zI G M3 := hI.put e4 ((zM126 h0) (M a 60)) rfl (by omega)
  have hK6 := hK0.upA e4 rfl
  refine q_aload_n C dX12_newPiece_13 (n := 14) rfl rfl ?_
  refine q_getR C dX12_newPiece_14 (n := 17) rfl f_X12_128 (zM0 h0) (hF _ _ _ (zM127 h0)) ?_
  refine q_aload_n C dX12_newPiece_17 (n := 18) rfl rfl ?_
  refine q_getI C dX12_newPiece_18 (n := 21) rfl f_X12_458 (zM0 h0) (v := M a 60) (zup_p e4 (by omega) _) ?_
  refine q_iconst C dX12_newPiece_21 (n := 22) rfl ?_
  refine q_iast C dX12_newPiece_22 (n := 23) rfl (zM128 h0) (by omega)  (fun M7 e8 => ?_)
  have hI9 : zI G M7 := hI5.put e8 ((zM129 h0) (M a 60)) rfl (by omega)
  have hK10 := hK6.upA e8 rfl
  refine q_aload_n C dX12_newPiece_23 (n := 24) rfl rfl ?_
  refine q_getR C dX12_newPiece_24 (n := 27) rfl f_X12_131 (zM0 h0) (hF _ _ _ (zM130 h0)) ?_
  refine q_aload_n C dX12_newPiece_27 (n := 28) rfl rfl ?_
  refine q_getI C dX12_newPiece_28 (n := 31) rfl f_X12_458 (zM0 h0) (v := M a 60) ((zup_p e8 (by omega) _).trans (zup_p e4 (by omega) _)) ?_
  refine q_iload_n C dX12_newPiece_31 (n := 32) rfl rfl ?_
  refine q_if_eq C 39 dX12_newPiece_32 (n := 35) rfl rfl (by omega) (fun h11 => ?_) (fun h11 => ?_)
  · refine q_iconst C dX12_newPiece_39 (n := 40) rfl ?_
    refine q_iast C dX12_newPiece_40 (n := 41) rfl (zM131 h0) (by omega)  (fun M12 e13 => ?_)
    have hI14 : zI G M12 := hI9.put e13 ((zM132 h0) (M a 60)) rfl (by omega)
    have hK15 := hK10.upA e13 rfl
    refine q_aload_n C dX12_newPiece_41 (n := 42) rfl rfl ?_
    refine q_dup C dX12_newPiece_42 (n := 43) rfl rfl ?_
    refine q_getI C dX12_newPiece_43 (n := 46) rfl f_X12_458 (zM0 h0) (v := M a 60) ((zup_p e13 (by omega) _).trans ((zup_p e8 (by omega) _).trans (zup_p e4 (by omega) _))) ?_
    refine q_iconst C dX12_newPiece_46 (n := 47) rfl ?_
    refine q_iadd C dX12_newPiece_47 (n := 48) rfl (v := (M a 60) + 1) rfl ?_
    refine q_putI C dX12_newPiece_48 (n := 51) rfl f_X12_458 (zM0 h0) ⟨rfl, rfl⟩ (fun M16 (e17 : M16 = zup M12 a 60 ((M a 60) + 1)) => ?_)
    have hI18 : zI G M16 := hI14.put e17 (zM145 h0) rfl (by omega)
    have hK19 := hK15.upS e17 rfl
    have hx20 : zX M16 a mb mp n A0 v (u - 1) z := zY.cgr (Y_piece p1 (by omega) (by omega)) ((zup_n e17 (by omega)).trans ((zup_p e13 (by omega) _).trans ((zup_p e8 (by omega) _).trans (zup_p e4 (by omega) _)))) ((zup_n e17 (by omega)).trans ((zup_p e13 (by omega) _).trans ((zup_p e8 (by omega) _).trans (zup_p e4 (by omega) _)))) ((zup_n e17 (by omega)).trans ((zup_p e13 (by omega) _).trans ((zup_p e8 (by omega) _).trans (zup_p e4 (by omega) _)))) ((zup_n e17 (by omega)).trans ((zup_p e13 (by omega) _).trans ((zup_p e8 (by omega) _).trans (zup_p e4 (by omega) _)))) (by have hw : M16 a 60 = (M a 60) + 1 := (zup_s e17); omega) ((zup_n e17 (by omega)).trans ((zup_p e13 (by omega) _).trans ((zup_p e8 (by omega) _).trans (zup_p e4 (by omega) _)))) ((zup_n e17 (by omega)).trans ((zup_p e13 (by omega) _).trans ((zup_p e8 (by omega) _).trans (zup_p e4 (by omega) _)))) ((zup_n e17 (by omega)).trans ((zup_p e13 (by omega) _).trans ((zup_p e8 (by omega) _).trans (zup_p e4 (by omega) _)))) ((zup_n e17 (by omega)).trans ((zup_p e13 (by omega) _).trans ((zup_p e8 (by omega) _).trans (zup_p e4 (by omega) _)))) (funext fun j => ((zup_p e17 (by omega) _).trans ((zup_p e13 (by omega) _).trans ((zup_p e8 (by omega) _).trans (zup_p e4 (by omega) _))))) (funext fun j => ((zup_p e17 (by omega) _).trans ((zup_p e13 (by omega) _).trans ((zup_p e8 (by omega) _).trans (zup_p e4 (by omega) _))))) (funext fun j => ((zup_p e17 (by omega) _).trans ((zup_p e13 (by omega) _).trans ((zup_p e8 (by omega) _).trans (zup_p e4 (by omega) _))))) (funext fun j => ((zup_p e17 (by omega) _).trans ((zup_p e13 (by omega) _).trans ((zup_p e8 (by omega) _).trans (zup_p e4 (by omega) _))))) (funext fun j => ((zup_p e17 (by omega) _).trans ((zup_p e13 (by omega) _).trans ((zup_p e8 (by omega) _).trans (zup_p e4 (by omega) _))))) (funext fun j => ((zup_p e17 (by omega) _).trans ((zup_p e13 (by omega) _).trans ((zup_p e8 (by omega) _).trans (zup_p e4 (by omega) _))))) (funext fun j => ((zup_p e17 (by omega) _).trans ((zup_p e13 (by omega) _).trans ((zup_p e8 (by omega) _).trans (zup_p e4 (by omega) _))))) (funext fun j => ((zup_p e17 (by omega) _).trans ((zup_p e13 (by omega) _).trans ((zup_p e8 (by omega) _).trans (zup_p e4 (by omega) _))))) (funext fun j => ((zup_p e17 (by omega) _).trans ((zup_p e13 (by omega) _).trans ((zup_p e8 (by omega) _).trans (zup_p e4 (by omega) _))))) (funext fun j => ((zup_p e17 (by omega) _).trans ((zup_p e13 (by omega) _).trans ((zup_p e8 (by omega) _).trans (zup_p e4 (by omega) _))))) (funext fun j => ((zup_p e17 (by omega) _).trans ((zup_p e13 (by omega) _).trans ((zup_p e8 (by omega) _).trans (zup_p e4 (by omega) _))))) (funext fun j => by by_cases q : j = (M a 60); (rw [q, yup_s]; have hw : M16 (a + 37) (M a 60) = M a 26 := ((zup_p e17 (by omega) _).trans ((zup_p e13 (by omega) _).trans ((zup_p e8 (by omega) _).trans (zup_e e4 (by omega))))); omega); (rw [yup_n q]; exact ((zup_p e17 (by omega) _).trans ((zup_p e13 (by omega) _).trans ((zup_p e8 (by omega) _).trans (zup_n e4 (by omega))))))) (funext fun j => by by_cases q : j = (M a 60); (rw [q, yup_s]; have hw : M16 (a + 38) (M a 60) = 0 := ((zup_p e17 (by omega) _).trans ((zup_p e13 (by omega) _).trans (zup_e e8 (by omega)))); omega); (rw [yup_n q]; exact ((zup_p e17 (by omega) _).trans ((zup_p e13 (by omega) _).trans ((zup_n e8 (by omega)).trans (zup_p e4 (by omega) _))))))
    exact q_vret C dX12_newPiece_51 ⟨rfl, rfl⟩ (by rw [hPo]; exact ⟨M16, J, rfl, rfl, hI18, hK19, hx20, (by have hw : M16 a 60 = M a 60 + 1 := (zup_s e17); rw [hw, show M a 60 + 1 - 1 = M a 60 by omega]; exact ((zup_p e17 (by omega) _).trans ((zup_p e13 (by omega) _).trans (zup_s e8)))), by have hz21 : M16 a 60 = (M a 60) + 1 := (zup_s e17); omega⟩)
  · refine q_iconst C dX12_newPiece_35 (n := 36) rfl ?_
    refine q_goto C 40 dX12_newPiece_36 rfl ?_
    refine q_iast C dX12_newPiece_40 (n := 41) rfl (zM131 h0) (by omega)  (fun M22 e23 => ?_)
    have hI24 : zI G M22 := hI9.put e23 ((zM132 h0) (M a 60)) rfl (by omega)
    have hK25 := hK10.upA e23 rfl
    refine q_aload_n C dX12_newPiece_41 (n := 42) rfl rfl ?_
    refine q_dup C dX12_newPiece_42 (n := 43) rfl rfl ?_
    refine q_getI C dX12_newPiece_43 (n := 46) rfl f_X12_458 (zM0 h0) (v := M a 60) ((zup_p e23 (by omega) _).trans ((zup_p e8 (by omega) _).trans (zup_p e4 (by omega) _))) ?_
    refine q_iconst C dX12_newPiece_46 (n := 47) rfl ?_
    refine q_iadd C dX12_newPiece_47 (n := 48) rfl (v := (M a 60) + 1) rfl ?_
    refine q_putI C dX12_newPiece_48 (n := 51) rfl f_X12_458 (zM0 h0) ⟨rfl, rfl⟩ (fun M26 (e27 : M26 = zup M22 a 60 ((M a 60) + 1)) => ?_)
    have hI28 : zI G M26 := hI24.put e27 (zM145 h0) rfl (by omega)
    have hK29 := hK25.upS e27 rfl
    have hx30 : zX M26 a mb mp n A0 v (u - 1) z := zY.cgr (Y_piece p1 (by omega) (by omega)) ((zup_n e27 (by omega)).trans ((zup_p e23 (by omega) _).trans ((zup_p e8 (by omega) _).trans (zup_p e4 (by omega) _)))) ((zup_n e27 (by omega)).trans ((zup_p e23 (by omega) _).trans ((zup_p e8 (by omega) _).trans (zup_p e4 (by omega) _)))) ((zup_n e27 (by omega)).trans ((zup_p e23 (by omega) _).trans ((zup_p e8 (by omega) _).trans (zup_p e4 (by omega) _)))) ((zup_n e27 (by omega)).trans ((zup_p e23 (by omega) _).trans ((zup_p e8 (by omega) _).trans (zup_p e4 (by omega) _)))) (by have hw : M26 a 60 = (M a 60) + 1 := (zup_s e27); omega) ((zup_n e27 (by omega)).trans ((zup_p e23 (by omega) _).trans ((zup_p e8 (by omega) _).trans (zup_p e4 (by omega) _)))) ((zup_n e27 (by omega)).trans ((zup_p e23 (by omega) _).trans ((zup_p e8 (by omega) _).trans (zup_p e4 (by omega) _)))) ((zup_n e27 (by omega)).trans ((zup_p e23 (by omega) _).trans ((zup_p e8 (by omega) _).trans (zup_p e4 (by omega) _)))) ((zup_n e27 (by omega)).trans ((zup_p e23 (by omega) _).trans ((zup_p e8 (by omega) _).trans (zup_p e4 (by omega) _)))) (funext fun j => ((zup_p e27 (by omega) _).trans ((zup_p e23 (by omega) _).trans ((zup_p e8 (by omega) _).trans (zup_p e4 (by omega) _))))) (funext fun j => ((zup_p e27 (by omega) _).trans ((zup_p e23 (by omega) _).trans ((zup_p e8 (by omega) _).trans (zup_p e4 (by omega) _))))) (funext fun j => ((zup_p e27 (by omega) _).trans ((zup_p e23 (by omega) _).trans ((zup_p e8 (by omega) _).trans (zup_p e4 (by omega) _))))) (funext fun j => ((zup_p e27 (by omega) _).trans ((zup_p e23 (by omega) _).trans ((zup_p e8 (by omega) _).trans (zup_p e4 (by omega) _))))) (funext fun j => ((zup_p e27 (by omega) _).trans ((zup_p e23 (by omega) _).trans ((zup_p e8 (by omega) _).trans (zup_p e4 (by omega) _))))) (funext fun j => ((zup_p e27 (by omega) _).trans ((zup_p e23 (by omega) _).trans ((zup_p e8 (by omega) _).trans (zup_p e4 (by omega) _))))) (funext fun j => ((zup_p e27 (by omega) _).trans ((zup_p e23 (by omega) _).trans ((zup_p e8 (by omega) _).trans (zup_p e4 (by omega) _))))) (funext fun j => ((zup_p e27 (by omega) _).trans ((zup_p e23 (by omega) _).trans ((zup_p e8 (by omega) _).trans (zup_p e4 (by omega) _))))) (funext fun j => ((zup_p e27 (by omega) _).trans ((zup_p e23 (by omega) _).trans ((zup_p e8 (by omega) _).trans (zup_p e4 (by omega) _))))) (funext fun j => ((zup_p e27 (by omega) _).trans ((zup_p e23 (by omega) _).trans ((zup_p e8 (by omega) _).trans (zup_p e4 (by omega) _))))) (funext fun j => ((zup_p e27 (by omega) _).trans ((zup_p e23 (by omega) _).trans ((zup_p e8 (by omega) _).trans (zup_p e4 (by omega) _))))) (funext fun j => by by_cases q : j = (M a 60); (rw [q, yup_s]; have hw : M26 (a + 37) (M a 60) = M a 26 := ((zup_p e27 (by omega) _).trans ((zup_p e23 (by omega) _).trans ((zup_p e8 (by omega) _).trans (zup_e e4 (by omega))))); omega); (rw [yup_n q]; exact ((zup_p e27 (by omega) _).trans ((zup_p e23 (by omega) _).trans ((zup_p e8 (by omega) _).trans (zup_n e4 (by omega))))))) (funext fun j => by by_cases q : j = (M a 60); (rw [q, yup_s]; have hw : M26 (a + 38) (M a 60) = 0 := ((zup_p e27 (by omega) _).trans ((zup_p e23 (by omega) _).trans (zup_e e8 (by omega)))); omega); (rw [yup_n q]; exact ((zup_p e27 (by omega) _).trans ((zup_p e23 (by omega) _).trans ((zup_n e8 (by omega)).trans (zup_p e4 (by omega) _))))))
    exact q_vret C dX12_newPiece_51 ⟨rfl, rfl⟩ (by rw [hPo]; exact ⟨M26, J, rfl, rfl, hI28, hK29, hx30, (by have hw : M26 a 60 = M a 60 + 1 := (zup_s e27); rw [hw, show M a 60 + 1 - 1 = M a 60 by omega]; exact ((zup_p e27 (by omega) _).trans ((zup_p e23 (by omega) _).trans (zup_s e8)))), by have hz31 : M26 a 60 = (M a 60) + 1 := (zup_s e27); omega⟩)
theorem c_X12_blanks {w : zWp} {T : zTl} {M : zMm} {J : zJm} {R : zRm'} {G : zGt} {F : zRm'} {a : Nat} (hI : zI G M) (hF : zF F R) (h0 : zModel T F G a) (v1 : Int) (p1 : 1 ≤ M a 60) (p2 : -2147483648 ≤ v1 ∧ v1 ≤ 2147483647) : zCt w 1 0 0 yX12_blanks cX12_blanks 2 none [.ref (w.2.1 + a), zi v1] (T, M, J, R) (zPv T R G (fun M2 => (zMd a [16] [] [] M M2))) := by
  refine zCt.of rfl (Nat.le_of_ble_eq_true rfl) ?_
  intro p e s m args below meth c C
  obtain ⟨Po, hPo⟩ : ∃ Po, Po = zPv T R G (fun M2 => (zMd a [16] [] [] M M2)) := ⟨_, rfl⟩
  rw [← hPo]
  have hK0 : zMd a [16] [] [] M M := zMd.rf
  show zK w p e 1 0 0 s m args below meth c 2 T Po 0 [.ref (w.2.1 + a), zi v1] [] (T, M, J, R)
  refine q_aload_n C dX12_blanks_0 (n := 1) rfl rfl ?_
  refine q_getR C dX12_blanks_1 (n := 4) rfl f_X12_128 (zM0 h0) (hF _ _ _ (zM127 h0)) ?_
  refine q_aload_n C dX12_blanks_4 (n := 5) rfl rfl ?_
  have g1 := zI.at hI (zM145 h0)
  refine q_getI C dX12_blanks_5 (n := 8) rfl f_X12_458 (zM0 h0) (v := M a 60) rfl ?_
  refine q_iconst C dX12_blanks_8 (n := 9) rfl ?_
  refine q_isub C dX12_blanks_9 (n := 10) rfl (v := (M a 60) - 1) rfl ?_
  have g2 := zI.at hI ((zM129 h0) ((M a 60) - 1))
  refine q_iald C dX12_blanks_10 (n := 11) rfl (zM128 h0) (by omega) (v := M (a + 38) ((M a 60) - 1)) rfl ?_
  refine q_if_le C 31 dX12_blanks_11 (n := 14) rfl rfl (by omega) (fun h3 => ?_) (fun h3 => ?_)
  · exact q_vret C dX12_blanks_31 ⟨rfl, rfl⟩ (by rw [hPo]; exact ⟨M, J, rfl, rfl, hI, hK0⟩)
  · refine q_aload_n C dX12_blanks_14 (n := 15) rfl rfl ?_
    refine q_getR C dX12_blanks_15 (n := 18) rfl f_X12_61 (zM0 h0) (hF _ _ _ (zM52 h0)) ?_
    refine q_aload_n C dX12_blanks_18 (n := 19) rfl rfl ?_
    refine q_getR C dX12_blanks_19 (n := 22) rfl f_X12_125 (zM0 h0) (hF _ _ _ (zM124 h0)) ?_
    refine q_aload_n C dX12_blanks_22 (n := 23) rfl rfl ?_
    refine q_getI C dX12_blanks_23 (n := 26) rfl f_X12_458 (zM0 h0) (v := M a 60) rfl ?_
    refine q_iconst C dX12_blanks_26 (n := 27) rfl ?_
    refine q_isub C dX12_blanks_27 (n := 28) rfl (v := (M a 60) - 1) rfl ?_
    have g4 := zI.at hI ((zM126 h0) ((M a 60) - 1))
    refine q_iald C dX12_blanks_28 (n := 29) rfl (zM125 h0) (by omega) (v := M (a + 37) ((M a 60) - 1)) rfl ?_
    refine q_iload_n C dX12_blanks_29 (n := 30) rfl rfl ?_
    refine q_iast C dX12_blanks_30 (n := 31) rfl (zM53 h0) (by omega)  (fun M5 e6 => ?_)
    have hI7 : zI G M5 := hI.put e6 ((zM54 h0) (M (a + 37) ((M a 60) - 1))) rfl (by omega)
    have hK8 := hK0.upA e6 rfl
    exact q_vret C dX12_blanks_31 ⟨rfl, rfl⟩ (by rw [hPo]; exact ⟨M5, J, rfl, rfl, hI7, hK8⟩)
theorem c_X12_laysToken {w : zWp} {T : zTl} {M : zMm} {J : zJm} {R : zRm'} {G : zGt} {F : zRm'} {a : Nat} {mb mp og lg : Int → Int} {n A0 v u z : Int} (hI : zI G M) (hF : zF F R) (h0 : zModel T F G a) (v1 : Int) (v2 : Int) (v3 : Int) (v4 : Int) (f : Int) (pp : Int) (p1 : zX M a mb mp n A0 v u z) (p2 : zOg M a og lg) (p3 : M a 57 = f) (p4 : M a 60 = pp) (p5 : n = f + 1 ∧ 1 ≤ z) (p6 : M (a + 38) (pp - 1) = 0) (p7 : M (a + 34) f < pp) (p8 : 0 ≤ v1 ∧ v1 ≤ 3) (p9 : -7531 ≤ v2 ∧ v2 ≤ 61970) (p10 : 0 ≤ v3 ∧ v3 ≤ 30) (p11 : -2147483648 ≤ v4 ∧ v4 ≤ 2147483647) : zCt w 2 0 0 yX12_laysToken cX12_laysToken 5 none [.ref (w.2.1 + a), zi v1, zi v2, zi v3, zi v4] (T, M, J, R) (zPv T R G (fun M2 => (zMd a [9, 10, 11, 12, 13, 14, 15, 16, 36, 38] [26] [] M M2) ∧ (zX M2 a mb mp n A0 v u (z - 1)) ∧ (zOg M2 a og lg))) := by
  refine zCt.of rfl (Nat.le_of_ble_eq_true rfl) ?_
  intro p e s m args below meth c C
  obtain ⟨Po, hPo⟩ : ∃ Po, Po = zPv T R G (fun M2 => (zMd a [9, 10, 11, 12, 13, 14, 15, 16, 36, 38] [26] [] M M2) ∧ (zX M2 a mb mp n A0 v u (z - 1)) ∧ (zOg M2 a og lg)) := ⟨_, rfl⟩
  rw [← hPo]
  subst p3
  subst p4
  have hK0 : zMd a [9, 10, 11, 12, 13, 14, 15, 16, 36, 38] [26] [] M M := zMd.rf
  have gx0 := zX.num p1
  have gc := zX.clz p1 (f := M a 57) rfl (by omega)
  have gp := zX.pcs p1 (g := M a 57) (by omega) (by omega) (by omega)
  show zK w p e 2 0 0 s m args below meth c 5 T Po 0 [.ref (w.2.1 + a), zi v1, zi v2, zi v3, zi v4] [] (T, M, J, R)
  refine q_aload_n C dX12_laysToken_0 (n := 1) rfl rfl ?_
  refine q_getR C dX12_laysToken_1 (n := 4) rfl f_X12_40 (zM0 h0) (hF _ _ _ (zM31 h0)) ?_
  refine q_aload_n C dX12_laysToken_4 (n := 5) rfl rfl ?_
  have g1 := zI.at hI (zM61 h0)
  refine q_getI C dX12_laysToken_5 (n := 8) rfl f_X12_397 (zM0 h0) (v := M a 26) rfl ?_
  refine q_iload_n C dX12_laysToken_8 (n := 9) rfl rfl ?_
  refine q_iast C dX12_laysToken_9 (n := 10) rfl (zM32 h0) (by omega)  (fun M2 e3 => ?_)
  have hI4 : zI G M2 := hI.put e3 ((zM33 h0) (M a 26)) rfl (by omega)
  have hK5 := hK0.upA e3 rfl
  refine q_aload_n C dX12_laysToken_10 (n := 11) rfl rfl ?_
  refine q_getR C dX12_laysToken_11 (n := 14) rfl f_X12_43 (zM0 h0) (hF _ _ _ (zM34 h0)) ?_
  refine q_aload_n C dX12_laysToken_14 (n := 15) rfl rfl ?_
  refine q_getI C dX12_laysToken_15 (n := 18) rfl f_X12_397 (zM0 h0) (v := M a 26) (zup_p e3 (by omega) _) ?_
  refine q_iload_n C dX12_laysToken_18 (n := 19) rfl rfl ?_
  refine q_iast C dX12_laysToken_19 (n := 20) rfl (zM35 h0) (by omega)  (fun M6 e7 => ?_)
  have hp8 : zOg M2 a og lg := p2.cg (fun j => (zup_p e3 (by omega) _)) (fun j => (zup_p e3 (by omega) _))
  have hp9 : zOg M6 a og lg := hp8.up0 e7 (by omega)
  have hI10 : zI G M6 := hI4.put e7 ((zM36 h0) (M a 26)) rfl (by omega)
  have hK11 := hK5.upA e7 rfl
  refine q_aload_n C dX12_laysToken_20 (n := 21) rfl rfl ?_
  refine q_getR C dX12_laysToken_21 (n := 24) rfl f_X12_46 (zM0 h0) (hF _ _ _ (zM37 h0)) ?_
  refine q_aload_n C dX12_laysToken_24 (n := 25) rfl rfl ?_
  refine q_getI C dX12_laysToken_25 (n := 28) rfl f_X12_397 (zM0 h0) (v := M a 26) ((zup_p e7 (by omega) _).trans (zup_p e3 (by omega) _)) ?_
  refine q_iload_n C dX12_laysToken_28 (n := 29) rfl rfl ?_
  refine q_iast C dX12_laysToken_29 (n := 30) rfl (zM38 h0) (by omega)  (fun M12 e13 => ?_)
  have hp14 : zOg M12 a og lg := hp9.up1 e13 (by omega)
  have hI15 : zI G M12 := hI10.put e13 ((zM39 h0) (M a 26)) rfl (by omega)
  have hK16 := hK11.upA e13 rfl
  refine q_aload_n C dX12_laysToken_30 (n := 31) rfl rfl ?_
  refine q_aload_n C dX12_laysToken_31 (n := 32) rfl rfl ?_
  refine q_getI C dX12_laysToken_32 (n := 35) rfl f_X12_397 (zM0 h0) (v := M a 26) ((zup_p e13 (by omega) _).trans ((zup_p e7 (by omega) _).trans (zup_p e3 (by omega) _))) ?_
  refine q_aload_n C dX12_laysToken_35 (n := 36) rfl rfl ?_
  refine q_getR C dX12_laysToken_36 (n := 39) rfl f_X12_101 (zM0 h0) (hF _ _ _ (zM100 h0)) ?_
  refine q_aload_n C dX12_laysToken_39 (n := 40) rfl rfl ?_
  have g17 := zI.at hI (zM142 h0)
  refine q_getI C dX12_laysToken_40 (n := 43) rfl f_X12_448 (zM0 h0) (v := M a 57) ((zup_p e13 (by omega) _).trans ((zup_p e7 (by omega) _).trans (zup_p e3 (by omega) _))) ?_
  have g18 := zI.at hI ((zM102 h0) (M a 57))
  refine q_iald C dX12_laysToken_43 (n := 44) rfl (zM101 h0) (by omega) (v := M (a + 29) (M a 57)) ((zup_p e13 (by omega) _).trans ((zup_p e7 (by omega) _).trans (zup_p e3 (by omega) _))) ?_
  refine q_callVv C dX12_laysToken_44 (n := 47) rfl m_X12_540 v_yX12_asOf (zM0 h0) ⟨by decide, rfl⟩ (c_X12_asOf (w := w) (J := J) hI15 hF h0 (M a 26) (M (a + 29) (M a 57)) (by omega) (by omega)) (Nat.le_of_ble_eq_true rfl) rfl rfl (Nat.le_of_ble_eq_true rfl) ⟨Nat.le_refl _, Nat.le_refl _⟩ (fun M19 J20  hI21 h22 => ?_)
  have hK24 := hK16.tr h22 rfl rfl rfl
  refine q_aload_n C dX12_laysToken_47 (n := 48) rfl rfl ?_
  refine q_getR C dX12_laysToken_48 (n := 51) rfl f_X12_58 (zM0 h0) (hF _ _ _ (zM49 h0)) ?_
  refine q_aload_n C dX12_laysToken_51 (n := 52) rfl rfl ?_
  refine q_getI C dX12_laysToken_52 (n := 55) rfl f_X12_397 (zM0 h0) (v := M a 26) ((h22.getS rfl rfl).trans ((zup_p e13 (by omega) _).trans ((zup_p e7 (by omega) _).trans (zup_p e3 (by omega) _)))) ?_
  refine q_iconst C dX12_laysToken_55 (n := 56) rfl ?_
  refine q_iast C dX12_laysToken_56 (n := 57) rfl (zM50 h0) (by omega)  (fun M25 e26 => ?_)
  have hI27 : zI G M25 := hI21.put e26 ((zM51 h0) (M a 26)) rfl (by omega)
  have hK28 := hK24.upA e26 rfl
  refine q_aload_n C dX12_laysToken_57 (n := 58) rfl rfl ?_
  refine q_getR C dX12_laysToken_58 (n := 61) rfl f_X12_61 (zM0 h0) (hF _ _ _ (zM52 h0)) ?_
  refine q_aload_n C dX12_laysToken_61 (n := 62) rfl rfl ?_
  refine q_getI C dX12_laysToken_62 (n := 65) rfl f_X12_397 (zM0 h0) (v := M a 26) ((zup_p e26 (by omega) _).trans ((h22.getS rfl rfl).trans ((zup_p e13 (by omega) _).trans ((zup_p e7 (by omega) _).trans (zup_p e3 (by omega) _))))) ?_
  refine q_iload C dX12_laysToken_65 (n := 67) rfl rfl ?_
  refine q_iast C dX12_laysToken_67 (n := 68) rfl (zM53 h0) (by omega)  (fun M29 e30 => ?_)
  have hI31 : zI G M29 := hI27.put e30 ((zM54 h0) (M a 26)) rfl (by omega)
  have hK32 := hK28.upA e30 rfl
  refine q_aload_n C dX12_laysToken_68 (n := 69) rfl rfl ?_
  refine q_dup C dX12_laysToken_69 (n := 70) rfl rfl ?_
  refine q_getI C dX12_laysToken_70 (n := 73) rfl f_X12_397 (zM0 h0) (v := M a 26) ((zup_p e30 (by omega) _).trans ((zup_p e26 (by omega) _).trans ((h22.getS rfl rfl).trans ((zup_p e13 (by omega) _).trans ((zup_p e7 (by omega) _).trans (zup_p e3 (by omega) _)))))) ?_
  refine q_iconst C dX12_laysToken_73 (n := 74) rfl ?_
  refine q_iadd C dX12_laysToken_74 (n := 75) rfl (v := (M a 26) + 1) rfl ?_
  refine q_putI C dX12_laysToken_75 (n := 78) rfl f_X12_397 (zM0 h0) ⟨rfl, rfl⟩ (fun M33 (e34 : M33 = zup M29 a 26 ((M a 26) + 1)) => ?_)
  have hI35 : zI G M33 := hI31.put e34 (zM61 h0) rfl (by omega)
  have hK36 := hK32.upS e34 rfl
  refine q_aload_n C dX12_laysToken_78 (n := 79) rfl rfl ?_
  refine q_getR C dX12_laysToken_79 (n := 82) rfl f_X12_128 (zM0 h0) (hF _ _ _ (zM127 h0)) ?_
  refine q_aload_n C dX12_laysToken_82 (n := 83) rfl rfl ?_
  have g37 := zI.at hI (zM145 h0)
  refine q_getI C dX12_laysToken_83 (n := 86) rfl f_X12_458 (zM0 h0) (v := M a 60) ((zup_n e34 (by omega)).trans ((zup_p e30 (by omega) _).trans ((zup_p e26 (by omega) _).trans ((h22.getS rfl rfl).trans ((zup_p e13 (by omega) _).trans ((zup_p e7 (by omega) _).trans (zup_p e3 (by omega) _))))))) ?_
  refine q_iconst C dX12_laysToken_86 (n := 87) rfl ?_
  refine q_isub C dX12_laysToken_87 (n := 88) rfl (v := (M a 60) - 1) rfl ?_
  refine q_iconst C dX12_laysToken_88 (n := 89) rfl ?_
  refine q_iast C dX12_laysToken_89 (n := 90) rfl (zM128 h0) (by omega)  (fun M38 e39 => ?_)
  have hI40 : zI G M38 := hI35.put e39 ((zM129 h0) ((M a 60) - 1)) rfl (by omega)
  have hK41 := hK36.upA e39 rfl
  refine q_aload_n C dX12_laysToken_90 (n := 91) rfl rfl ?_
  refine q_getR C dX12_laysToken_91 (n := 94) rfl f_X12_122 (zM0 h0) (hF _ _ _ (zM121 h0)) ?_
  refine q_aload_n C dX12_laysToken_94 (n := 95) rfl rfl ?_
  refine q_getI C dX12_laysToken_95 (n := 98) rfl f_X12_448 (zM0 h0) (v := M a 57) ((zup_p e39 (by omega) _).trans ((zup_n e34 (by omega)).trans ((zup_p e30 (by omega) _).trans ((zup_p e26 (by omega) _).trans ((h22.getS rfl rfl).trans ((zup_p e13 (by omega) _).trans ((zup_p e7 (by omega) _).trans (zup_p e3 (by omega) _)))))))) ?_
  refine q_dup2 C dX12_laysToken_98 (n := 99) rfl ⟨rfl, rfl⟩ ?_
  have g42 := zI.at hI ((zM123 h0) (M a 57))
  refine q_iald C dX12_laysToken_99 (n := 100) rfl (zM122 h0) (by omega) (v := M (a + 36) (M a 57)) ((zup_p e39 (by omega) _).trans ((zup_p e34 (by omega) _).trans ((zup_p e30 (by omega) _).trans ((zup_p e26 (by omega) _).trans ((h22.getA rfl rfl rfl).trans ((zup_p e13 (by omega) _).trans ((zup_p e7 (by omega) _).trans (zup_p e3 (by omega) _)))))))) ?_
  refine q_iconst C dX12_laysToken_100 (n := 101) rfl ?_
  refine q_iadd C dX12_laysToken_101 (n := 102) rfl (v := (M (a + 36) (M a 57)) + 1) rfl ?_
  refine q_iast C dX12_laysToken_102 (n := 103) rfl (zM122 h0) (by omega)  (fun M43 e44 => ?_)
  have hI45 : zI G M43 := hI40.put e44 ((zM123 h0) (M a 57)) rfl (by omega)
  have hK46 := hK41.upA e44 rfl
  have hx47 : zX M43 a mb mp n A0 v u (z - 1) := zY.cgr (Y_addz p1 (by omega) (by omega) (by omega) (by omega)) ((zup_p e44 (by omega) _).trans ((zup_p e39 (by omega) _).trans ((zup_n e34 (by omega)).trans ((zup_p e30 (by omega) _).trans ((zup_p e26 (by omega) _).trans ((h22.getS rfl rfl).trans ((zup_p e13 (by omega) _).trans ((zup_p e7 (by omega) _).trans (zup_p e3 (by omega) _))))))))) ((zup_p e44 (by omega) _).trans ((zup_p e39 (by omega) _).trans ((zup_n e34 (by omega)).trans ((zup_p e30 (by omega) _).trans ((zup_p e26 (by omega) _).trans ((h22.getS rfl rfl).trans ((zup_p e13 (by omega) _).trans ((zup_p e7 (by omega) _).trans (zup_p e3 (by omega) _))))))))) ((zup_p e44 (by omega) _).trans ((zup_p e39 (by omega) _).trans ((zup_n e34 (by omega)).trans ((zup_p e30 (by omega) _).trans ((zup_p e26 (by omega) _).trans ((h22.getS rfl rfl).trans ((zup_p e13 (by omega) _).trans ((zup_p e7 (by omega) _).trans (zup_p e3 (by omega) _))))))))) ((zup_p e44 (by omega) _).trans ((zup_p e39 (by omega) _).trans ((zup_n e34 (by omega)).trans ((zup_p e30 (by omega) _).trans ((zup_p e26 (by omega) _).trans ((h22.getS rfl rfl).trans ((zup_p e13 (by omega) _).trans ((zup_p e7 (by omega) _).trans (zup_p e3 (by omega) _))))))))) ((zup_p e44 (by omega) _).trans ((zup_p e39 (by omega) _).trans ((zup_n e34 (by omega)).trans ((zup_p e30 (by omega) _).trans ((zup_p e26 (by omega) _).trans ((h22.getS rfl rfl).trans ((zup_p e13 (by omega) _).trans ((zup_p e7 (by omega) _).trans (zup_p e3 (by omega) _))))))))) (by have hw : M43 a 26 = (M a 26) + 1 := ((zup_p e44 (by omega) _).trans ((zup_p e39 (by omega) _).trans (zup_s e34))); omega) ((zup_p e44 (by omega) _).trans ((zup_p e39 (by omega) _).trans ((zup_n e34 (by omega)).trans ((zup_p e30 (by omega) _).trans ((zup_p e26 (by omega) _).trans ((h22.getS rfl rfl).trans ((zup_p e13 (by omega) _).trans ((zup_p e7 (by omega) _).trans (zup_p e3 (by omega) _))))))))) ((zup_p e44 (by omega) _).trans ((zup_p e39 (by omega) _).trans ((zup_n e34 (by omega)).trans ((zup_p e30 (by omega) _).trans ((zup_p e26 (by omega) _).trans ((h22.getS rfl rfl).trans ((zup_p e13 (by omega) _).trans ((zup_p e7 (by omega) _).trans (zup_p e3 (by omega) _))))))))) ((zup_p e44 (by omega) _).trans ((zup_p e39 (by omega) _).trans ((zup_n e34 (by omega)).trans ((zup_p e30 (by omega) _).trans ((zup_p e26 (by omega) _).trans ((h22.getS rfl rfl).trans ((zup_p e13 (by omega) _).trans ((zup_p e7 (by omega) _).trans (zup_p e3 (by omega) _))))))))) (funext fun j => ((zup_p e44 (by omega) _).trans ((zup_p e39 (by omega) _).trans ((zup_p e34 (by omega) _).trans ((zup_p e30 (by omega) _).trans ((zup_p e26 (by omega) _).trans ((h22.getA rfl rfl rfl).trans ((zup_p e13 (by omega) _).trans ((zup_p e7 (by omega) _).trans (zup_p e3 (by omega) _)))))))))) (funext fun j => ((zup_p e44 (by omega) _).trans ((zup_p e39 (by omega) _).trans ((zup_p e34 (by omega) _).trans ((zup_p e30 (by omega) _).trans ((zup_p e26 (by omega) _).trans ((h22.getA rfl rfl rfl).trans ((zup_p e13 (by omega) _).trans ((zup_p e7 (by omega) _).trans (zup_p e3 (by omega) _)))))))))) (funext fun j => ((zup_p e44 (by omega) _).trans ((zup_p e39 (by omega) _).trans ((zup_p e34 (by omega) _).trans ((zup_p e30 (by omega) _).trans ((zup_p e26 (by omega) _).trans ((h22.getA rfl rfl rfl).trans ((zup_p e13 (by omega) _).trans ((zup_p e7 (by omega) _).trans (zup_p e3 (by omega) _)))))))))) (funext fun j => ((zup_p e44 (by omega) _).trans ((zup_p e39 (by omega) _).trans ((zup_p e34 (by omega) _).trans ((zup_p e30 (by omega) _).trans ((zup_p e26 (by omega) _).trans ((h22.getA rfl rfl rfl).trans ((zup_p e13 (by omega) _).trans ((zup_p e7 (by omega) _).trans (zup_p e3 (by omega) _)))))))))) (funext fun j => ((zup_p e44 (by omega) _).trans ((zup_p e39 (by omega) _).trans ((zup_p e34 (by omega) _).trans ((zup_p e30 (by omega) _).trans ((zup_p e26 (by omega) _).trans ((h22.getA rfl rfl rfl).trans ((zup_p e13 (by omega) _).trans ((zup_p e7 (by omega) _).trans (zup_p e3 (by omega) _)))))))))) (funext fun j => ((zup_p e44 (by omega) _).trans ((zup_p e39 (by omega) _).trans ((zup_p e34 (by omega) _).trans ((zup_p e30 (by omega) _).trans ((zup_p e26 (by omega) _).trans ((h22.getA rfl rfl rfl).trans ((zup_p e13 (by omega) _).trans ((zup_p e7 (by omega) _).trans (zup_p e3 (by omega) _)))))))))) (funext fun j => ((zup_p e44 (by omega) _).trans ((zup_p e39 (by omega) _).trans ((zup_p e34 (by omega) _).trans ((zup_p e30 (by omega) _).trans ((zup_p e26 (by omega) _).trans ((h22.getA rfl rfl rfl).trans ((zup_p e13 (by omega) _).trans ((zup_p e7 (by omega) _).trans (zup_p e3 (by omega) _)))))))))) (funext fun j => ((zup_p e44 (by omega) _).trans ((zup_p e39 (by omega) _).trans ((zup_p e34 (by omega) _).trans ((zup_p e30 (by omega) _).trans ((zup_p e26 (by omega) _).trans ((h22.getA rfl rfl rfl).trans ((zup_p e13 (by omega) _).trans ((zup_p e7 (by omega) _).trans (zup_p e3 (by omega) _)))))))))) (funext fun j => ((zup_p e44 (by omega) _).trans ((zup_p e39 (by omega) _).trans ((zup_p e34 (by omega) _).trans ((zup_p e30 (by omega) _).trans ((zup_p e26 (by omega) _).trans ((h22.getA rfl rfl rfl).trans ((zup_p e13 (by omega) _).trans ((zup_p e7 (by omega) _).trans (zup_p e3 (by omega) _)))))))))) (funext fun j => ((zup_p e44 (by omega) _).trans ((zup_p e39 (by omega) _).trans ((zup_p e34 (by omega) _).trans ((zup_p e30 (by omega) _).trans ((zup_p e26 (by omega) _).trans ((h22.getA rfl rfl rfl).trans ((zup_p e13 (by omega) _).trans ((zup_p e7 (by omega) _).trans (zup_p e3 (by omega) _)))))))))) (funext fun j => by by_cases q : j = (M a 57); (rw [q, yup_s]; have hw : M43 (a + 36) (M a 57) = (M (a + 36) (M a 57)) + 1 := (zup_e e44 (by omega)); omega); (rw [yup_n q]; exact ((zup_n e44 (by omega)).trans ((zup_p e39 (by omega) _).trans ((zup_p e34 (by omega) _).trans ((zup_p e30 (by omega) _).trans ((zup_p e26 (by omega) _).trans ((h22.getA rfl rfl rfl).trans ((zup_p e13 (by omega) _).trans ((zup_p e7 (by omega) _).trans (zup_p e3 (by omega) _))))))))))) (funext fun j => ((zup_p e44 (by omega) _).trans ((zup_p e39 (by omega) _).trans ((zup_p e34 (by omega) _).trans ((zup_p e30 (by omega) _).trans ((zup_p e26 (by omega) _).trans ((h22.getA rfl rfl rfl).trans ((zup_p e13 (by omega) _).trans ((zup_p e7 (by omega) _).trans (zup_p e3 (by omega) _)))))))))) (funext fun j => by by_cases q : j = ((M a 60) - 1); (rw [q, yup_s]; have hw : M43 (a + 38) ((M a 60) - 1) = 1 := ((zup_p e44 (by omega) _).trans (zup_e e39 (by omega))); omega); (rw [yup_n q]; exact ((zup_p e44 (by omega) _).trans ((zup_n e39 (by omega)).trans ((zup_p e34 (by omega) _).trans ((zup_p e30 (by omega) _).trans ((zup_p e26 (by omega) _).trans ((h22.getA rfl rfl rfl).trans ((zup_p e13 (by omega) _).trans ((zup_p e7 (by omega) _).trans (zup_p e3 (by omega) _)))))))))))
  have hp48 : zOg M43 a og lg := hp14.cg (fun j => ((zup_p e44 (by omega) _).trans ((zup_p e39 (by omega) _).trans ((zup_p e34 (by omega) _).trans ((zup_p e30 (by omega) _).trans ((zup_p e26 (by omega) _).trans (h22.getA rfl rfl rfl))))))) (fun j => ((zup_p e44 (by omega) _).trans ((zup_p e39 (by omega) _).trans ((zup_p e34 (by omega) _).trans ((zup_p e30 (by omega) _).trans ((zup_p e26 (by omega) _).trans (h22.getA rfl rfl rfl)))))))
  exact q_vret C dX12_laysToken_103 ⟨rfl, rfl⟩ (by rw [hPo]; exact ⟨M43, J20, rfl, rfl, hI45, hK46, hx47, hp48⟩)
theorem c_X12_laysBody {w : zWp} {T : zTl} {M : zMm} {J : zJm} {R : zRm'} {G : zGt} {F : zRm'} {a : Nat} {mb mp og lg : Int → Int} {n A0 v u z : Int} (hI : zI G M) (hF : zF F R) (h0 : zModel T F G a) (v1 : Int) (v2 : Int) (f : Int) (pp : Int) (p1 : zX M a mb mp n A0 v u z) (p2 : zOg M a og lg) (p3 : M a 57 = f) (p4 : M a 60 = pp) (p5 : n = f + 1 ∧ 1 ≤ z) (p6 : M (a + 38) (pp - 1) = 0) (p7 : M (a + 34) f < pp) (p8 : 0 ≤ v1 ∧ v1 ≤ 11) (p9 : 0 ≤ v2 ∧ v2 ≤ 19) : zCt w 3 0 0 yX12_laysBody cX12_laysBody 4 none [.ref (w.2.1 + a), zi v1, zi v2] (T, M, J, R) (zPv T R G (fun M2 => (zMd a [9, 10, 11, 12, 13, 14, 15, 16, 36, 38] [26] [] M M2) ∧ (zX M2 a mb mp n A0 v u (z - 1)) ∧ (zOg M2 a og lg))) := by
  refine zCt.of rfl (Nat.le_of_ble_eq_true rfl) ?_
  intro p e s m args below meth c C
  obtain ⟨Po, hPo⟩ : ∃ Po, Po = zPv T R G (fun M2 => (zMd a [9, 10, 11, 12, 13, 14, 15, 16, 36, 38] [26] [] M M2) ∧ (zX M2 a mb mp n A0 v u (z - 1)) ∧ (zOg M2 a og lg)) := ⟨_, rfl⟩
  rw [← hPo]
  subst p3
  subst p4
  have hK0 : zMd a [9, 10, 11, 12, 13, 14, 15, 16, 36, 38] [26] [] M M := zMd.rf
  have gx0 := zX.num p1
  show zK w p e 3 0 0 s m args below meth c 4 T Po 0 [.ref (w.2.1 + a), zi v1, zi v2, .null] [] (T, M, J, R)
  refine q_iload_n C dX12_laysBody_0 (n := 1) rfl rfl ?_
  refine q_iload_n C dX12_laysBody_1 (n := 2) rfl rfl ?_
  refine q_callSp C dX12_laysBody_2 (n := 5) rfl m_X12_412 s_yX12_bodyAt (c_X12_bodyAt (w := w) (J := J) hI hF v1 v2) (Nat.le_of_ble_eq_true rfl) rfl rfl (Nat.le_of_ble_eq_true rfl) ⟨Nat.le_refl _, Nat.le_refl _⟩ (fun x2 h3 => ?_)
  obtain rfl : x2 = 20 * v1 + v2 := h3
  refine q_istore_n C [.ref (w.2.1 + a), zi v1, zi v2, zi (20 * v1 + v2)] dX12_laysBody_5 (n := 6) rfl rfl rfl ?_
  refine q_aload_n C dX12_laysBody_6 (n := 7) rfl rfl ?_
  refine q_aload_n C dX12_laysBody_7 (n := 8) rfl rfl ?_
  refine q_getR C dX12_laysBody_8 (n := 11) rfl f_X12_68 (zM0 h0) (hF _ _ _ (zM65 h0)) ?_
  refine q_sipush C dX12_laysBody_11 (n := 14) rfl (x := 259) (by decide) ?_
  refine q_iload_n C dX12_laysBody_14 (n := 15) rfl rfl ?_
  refine q_iadd C dX12_laysBody_15 (n := 16) rfl (v := 259 + (20 * v1 + v2)) rfl ?_
  have g4 := zI.at hI (((zM67 h0) (259 + (20 * v1 + v2))).trans (zwG_259 (by omega)))
  refine q_iald C dX12_laysBody_16 (n := 17) rfl (zM66 h0) (by omega) (v := M (a + 18) (259 + (20 * v1 + v2))) rfl ?_
  refine q_iconst C dX12_laysBody_17 (n := 18) rfl ?_
  refine q_iload_n C dX12_laysBody_18 (n := 19) rfl rfl ?_
  refine q_iload_n C dX12_laysBody_19 (n := 20) rfl rfl ?_
  refine q_callSp C dX12_laysBody_20 (n := 23) rfl m_X12_415 s_yX12_bodyByte (c_X12_bodyByte (w := w) (J := J) hI hF v1 v2) (Nat.le_of_ble_eq_true rfl) rfl rfl (Nat.le_of_ble_eq_true rfl) ⟨Nat.le_refl _, Nat.le_refl _⟩ (fun x6 h7 => ?_)
  obtain rfl : x6 = 360 + 30 * (20 * v1 + v2) := h7
  refine q_isub C dX12_laysBody_23 (n := 24) rfl (v := (-1) - (360 + 30 * (20 * v1 + v2))) rfl ?_
  refine q_aload_n C dX12_laysBody_24 (n := 25) rfl rfl ?_
  refine q_getR C dX12_laysBody_25 (n := 28) rfl f_X12_68 (zM0 h0) (hF _ _ _ (zM65 h0)) ?_
  refine q_sipush C dX12_laysBody_28 (n := 31) rfl (x := 499) (by decide) ?_
  refine q_iload_n C dX12_laysBody_31 (n := 32) rfl rfl ?_
  refine q_iadd C dX12_laysBody_32 (n := 33) rfl (v := 499 + (20 * v1 + v2)) rfl ?_
  have g8 := zI.at hI (((zM67 h0) (499 + (20 * v1 + v2))).trans (zwG_499 (by omega)))
  refine q_iald C dX12_laysBody_33 (n := 34) rfl (zM66 h0) (by omega) (v := M (a + 18) (499 + (20 * v1 + v2))) rfl ?_
  refine q_aload_n C dX12_laysBody_34 (n := 35) rfl rfl ?_
  refine q_getR C dX12_laysBody_35 (n := 38) rfl f_X12_68 (zM0 h0) (hF _ _ _ (zM65 h0)) ?_
  refine q_sipush C dX12_laysBody_38 (n := 41) rfl (x := 739) (by decide) ?_
  refine q_iload_n C dX12_laysBody_41 (n := 42) rfl rfl ?_
  refine q_iadd C dX12_laysBody_42 (n := 43) rfl (v := 739 + (20 * v1 + v2)) rfl ?_
  have g9 := zI.at hI (((zM67 h0) (739 + (20 * v1 + v2))).trans (zwG_739 (by omega)))
  refine q_iald C dX12_laysBody_43 (n := 44) rfl (zM66 h0) (by omega) (v := M (a + 18) (739 + (20 * v1 + v2))) rfl ?_
  refine q_callVv C dX12_laysBody_44 (n := 47) rfl m_X12_543 v_yX12_laysToken (zM0 h0) ⟨by decide, rfl⟩ (c_X12_laysToken (w := w) (J := J) hI hF h0 (M (a + 18) (259 + (20 * v1 + v2))) ((-1) - (360 + 30 * (20 * v1 + v2))) (M (a + 18) (499 + (20 * v1 + v2))) (M (a + 18) (739 + (20 * v1 + v2))) (M a 57) (M a 60) p1 p2 (by omega) (by omega) (by omega) (by omega) (by omega) (by omega) (by omega) (by omega) (by omega)) (Nat.le_of_ble_eq_true rfl) rfl rfl (Nat.le_of_ble_eq_true rfl) ⟨Nat.le_refl _, Nat.le_refl _⟩ (fun M12 J13  hI14 h15 => ?_)
  obtain ⟨hk16, h10, h11⟩ := h15
  have hK17 := hK0.tr hk16 rfl rfl rfl
  exact q_vret C dX12_laysBody_47 ⟨rfl, rfl⟩ (by rw [hPo]; exact ⟨M12, J13, rfl, rfl, hI14, hK17, h10, h11⟩)
theorem c_X12_begins {w : zWp} {T : zTl} {M : zMm} {J : zJm} {R : zRm'} {G : zGt} {F : zRm'} {a : Nat} {mb mp : Int → Int} {n A0 v u z : Int} (hI : zI G M) (hF : zF F R) (h0 : zModel T F G a) (v1 : Int) (v2 : Int) (v3 : Int) (f : Int) (p1 : zX M a mb mp n A0 v u z) (p2 : M a 57 = f) (p3 : n = f) (p4 : M (a + 32) f = A0) (p5 : 0 ≤ v1 ∧ v1 ≤ 3499) (p6 : 0 ≤ v2 ∧ v2 ≤ 11) (p7 : -2147483648 ≤ v3 ∧ v3 ≤ 2147483647) (p8 : zAg M a mp f A0 v2) (p9 : zMa M a mb mp) : zCt w 3 0 0 yX12_begins cX12_begins 4 (some .boolean) [.ref (w.2.1 + a), zi v1, zi v2, zi v3] (T, M, J, R) (zPi T R G (fun x M2 => (zMd a [18, 28, 29, 30, 31, 34, 35, 36] [62] [] M M2) ∧ (x = 0 ∨ x = 1) ∧ (x = 0 ∨ zX M2 a mb mp (n + 1) (M a 59) 0 0 0) ∧ (x = 0 ∨ zMu M2 a (n + 1) + 27000 ≤ zMu M a n) ∧ (zMa M2 a mb mp) ∧ (M2 (a + 18) 3 = M (a + 18) 3))) := by
  refine zCt.of rfl (Nat.le_of_ble_eq_true rfl) ?_
  intro p e s m args below meth c C
  obtain ⟨Po, hPo⟩ : ∃ Po, Po = zPi T R G (fun x M2 => (zMd a [18, 28, 29, 30, 31, 34, 35, 36] [62] [] M M2) ∧ (x = 0 ∨ x = 1) ∧ (x = 0 ∨ zX M2 a mb mp (n + 1) (M a 59) 0 0 0) ∧ (x = 0 ∨ zMu M2 a (n + 1) + 27000 ≤ zMu M a n) ∧ (zMa M2 a mb mp) ∧ (M2 (a + 18) 3 = M (a + 18) 3)) := ⟨_, rfl⟩
  rw [← hPo]
  subst p2
  have hK0 : zMd a [18, 28, 29, 30, 31, 34, 35, 36] [62] [] M M := zMd.rf
  have gk_frame := zI.at hI (zM142 h0)
  have gk_expansions := zI.at hI (zM147 h0)
  have gx0 := zX.num p1
  show zK w p e 3 0 0 s m args below meth c 4 T Po 0 [.ref (w.2.1 + a), zi v1, zi v2, zi v3] [] (T, M, J, R)
  refine q_aload_n C dX12_begins_0 (n := 1) rfl rfl ?_
  have g1 := zI.at hI (zM147 h0)
  refine q_getI C dX12_begins_1 (n := 4) rfl f_X12_509 (zM0 h0) (v := M a 62) rfl ?_
  refine q_bipush C dX12_begins_4 (n := 6) rfl (x := 100) (by decide) ?_
  refine q_icmp_ne C 17 dX12_begins_6 (n := 9) rfl rfl (by omega) (fun h2 => ?_) (fun h2 => ?_)
  · refine q_aload_n C dX12_begins_17 (n := 18) rfl rfl ?_
    refine q_dup C dX12_begins_18 (n := 19) rfl rfl ?_
    refine q_getI C dX12_begins_19 (n := 22) rfl f_X12_509 (zM0 h0) (v := M a 62) rfl ?_
    refine q_iconst C dX12_begins_22 (n := 23) rfl ?_
    refine q_iadd C dX12_begins_23 (n := 24) rfl (v := (M a 62) + 1) rfl ?_
    refine q_putI C dX12_begins_24 (n := 27) rfl f_X12_509 (zM0 h0) ⟨rfl, rfl⟩ (fun M3 (e4 : M3 = zup M a 62 ((M a 62) + 1)) => ?_)
    have hI5 : zI G M3 := hI.put e4 (zM147 h0) rfl (by omega)
    have hK6 := hK0.upS e4 rfl
    refine q_aload_n C dX12_begins_27 (n := 28) rfl rfl ?_
    refine q_getR C dX12_begins_28 (n := 31) rfl f_X12_68 (zM0 h0) (hF _ _ _ (zM65 h0)) ?_
    refine q_bipush C dX12_begins_31 (n := 33) rfl (x := 6) (by decide) ?_
    refine q_dup2 C dX12_begins_33 (n := 34) rfl ⟨rfl, rfl⟩ ?_
    have g7 := zI.at hI (((zM67 h0) 6).trans (zwG_1 (by omega)))
    refine q_iald C dX12_begins_34 (n := 35) rfl (zM66 h0) (by omega) (v := M (a + 18) 6) (zup_p e4 (by omega) _) ?_
    refine q_iconst C dX12_begins_35 (n := 36) rfl ?_
    refine q_iadd C dX12_begins_36 (n := 37) rfl (v := (M (a + 18) 6) + 1) rfl ?_
    refine q_wrap C ?_
    have g8 := zr_wr ((M (a + 18) 6) + 1)
    refine q_iast C dX12_begins_37 (n := 38) rfl (zM66 h0) (by omega)  (fun M9 e10 => ?_)
    have hp11 : zMa M3 a mb mp := p9.cg (fun j j0 j1 => (zup_p e4 (by omega) _)) (fun j => (zup_p e4 (by omega) _))
    have hp12 : zMa M9 a mb mp := hp11.up e10 (by omega)
    have hI13 : zI G M9 := hI5.put e10 (((zM67 h0) 6).trans (zwG_1 (by omega))) rfl (by omega)
    have hK14 := hK6.upA e10 rfl
    refine q_aload_n C dX12_begins_38 (n := 39) rfl rfl ?_
    refine q_getR C dX12_begins_39 (n := 42) rfl f_X12_68 (zM0 h0) (hF _ _ _ (zM65 h0)) ?_
    refine q_sipush C dX12_begins_42 (n := 45) rfl (x := 247) (by decide) ?_
    refine q_iload_n C dX12_begins_45 (n := 46) rfl rfl ?_
    refine q_iadd C dX12_begins_46 (n := 47) rfl (v := 247 + v2) rfl ?_
    refine q_dup2 C dX12_begins_47 (n := 48) rfl ⟨rfl, rfl⟩ ?_
    have g15 := zI.at hI13 (((zM67 h0) (247 + v2)).trans (zwG_223 (by omega)))
    refine q_iald C dX12_begins_48 (n := 49) rfl (zM66 h0) (by omega) (v := M9 (a + 18) (247 + v2)) rfl ?_
    refine q_iconst C dX12_begins_49 (n := 50) rfl ?_
    refine q_iadd C dX12_begins_50 (n := 51) rfl (v := (M9 (a + 18) (247 + v2)) + 1) rfl ?_
    refine q_wrap C ?_
    have g16 := zr_wr ((M9 (a + 18) (247 + v2)) + 1)
    refine q_iast C dX12_begins_51 (n := 52) rfl (zM66 h0) (by omega)  (fun M17 e18 => ?_)
    have hp19 : zMa M17 a mb mp := hp12.up e18 (by omega)
    have hI20 : zI G M17 := hI13.put e18 (((zM67 h0) (247 + v2)).trans (zwG_223 (by omega))) rfl (by omega)
    have hK21 := hK14.upA e18 rfl
    refine q_aload_n C dX12_begins_52 (n := 53) rfl rfl ?_
    refine q_getR C dX12_begins_53 (n := 56) rfl f_X12_98 (zM0 h0) (hF _ _ _ (zM97 h0)) ?_
    refine q_aload_n C dX12_begins_56 (n := 57) rfl rfl ?_
    have g22 := zI.at hI (zM142 h0)
    refine q_getI C dX12_begins_57 (n := 60) rfl f_X12_448 (zM0 h0) (v := M a 57) ((zup_p e18 (by omega) _).trans ((zup_p e10 (by omega) _).trans (zup_n e4 (by omega)))) ?_
    refine q_iload_n C dX12_begins_60 (n := 61) rfl rfl ?_
    refine q_iast C dX12_begins_61 (n := 62) rfl (zM98 h0) (by omega)  (fun M23 e24 => ?_)
    have hI25 : zI G M23 := hI20.put e24 ((zM99 h0) (M a 57)) rfl (by omega)
    have hK26 := hK21.upA e24 rfl
    refine q_aload_n C dX12_begins_62 (n := 63) rfl rfl ?_
    refine q_getR C dX12_begins_63 (n := 66) rfl f_X12_101 (zM0 h0) (hF _ _ _ (zM100 h0)) ?_
    refine q_aload_n C dX12_begins_66 (n := 67) rfl rfl ?_
    refine q_getI C dX12_begins_67 (n := 70) rfl f_X12_448 (zM0 h0) (v := M a 57) ((zup_p e24 (by omega) _).trans ((zup_p e18 (by omega) _).trans ((zup_p e10 (by omega) _).trans (zup_n e4 (by omega))))) ?_
    refine q_iload_n C dX12_begins_70 (n := 71) rfl rfl ?_
    refine q_iast C dX12_begins_71 (n := 72) rfl (zM101 h0) (by omega)  (fun M27 e28 => ?_)
    have hI29 : zI G M27 := hI25.put e28 ((zM102 h0) (M a 57)) rfl (by omega)
    have hK30 := hK26.upA e28 rfl
    refine q_aload_n C dX12_begins_72 (n := 73) rfl rfl ?_
    refine q_getR C dX12_begins_73 (n := 76) rfl f_X12_104 (zM0 h0) (hF _ _ _ (zM103 h0)) ?_
    refine q_aload_n C dX12_begins_76 (n := 77) rfl rfl ?_
    refine q_getI C dX12_begins_77 (n := 80) rfl f_X12_448 (zM0 h0) (v := M a 57) ((zup_p e28 (by omega) _).trans ((zup_p e24 (by omega) _).trans ((zup_p e18 (by omega) _).trans ((zup_p e10 (by omega) _).trans (zup_n e4 (by omega)))))) ?_
    refine q_iload_n C dX12_begins_80 (n := 81) rfl rfl ?_
    refine q_iconst C dX12_begins_81 (n := 82) rfl ?_
    refine q_iload_n C dX12_begins_82 (n := 83) rfl rfl ?_
    refine q_ishl C dX12_begins_83 (n := 84) rfl (v := zshl 1 v2) rfl ?_
    have g31 := zr_shl 1 v2
    have g32 : 0 ≤ v2 ∧ v2 ≤ 3 → 1 ≤ zshl 1 v2 ∧ zshl 1 v2 ≤ 8 := fun h => zshl1 h
    refine q_ior C dX12_begins_84 (n := 85) rfl (v := zor v3 (zshl 1 v2)) rfl ?_
    have g33 := zr_or v3 (zshl 1 v2)
    have g34 : zand v3 31 = 0 → zand (zor v3 (zshl 1 v2)) 31 = zand (zshl 1 v2) 31 := fun h => zl_or h
    refine q_iast C dX12_begins_85 (n := 86) rfl (zM104 h0) (by omega)  (fun M35 e36 => ?_)
    have hI37 : zI G M35 := hI29.put e36 ((zM105 h0) (M a 57)) rfl (by omega)
    have hK38 := hK30.upA e36 rfl
    refine q_aload_n C dX12_begins_86 (n := 87) rfl rfl ?_
    refine q_getR C dX12_begins_87 (n := 90) rfl f_X12_107 (zM0 h0) (hF _ _ _ (zM106 h0)) ?_
    refine q_aload_n C dX12_begins_90 (n := 91) rfl rfl ?_
    refine q_getI C dX12_begins_91 (n := 94) rfl f_X12_448 (zM0 h0) (v := M a 57) ((zup_p e36 (by omega) _).trans ((zup_p e28 (by omega) _).trans ((zup_p e24 (by omega) _).trans ((zup_p e18 (by omega) _).trans ((zup_p e10 (by omega) _).trans (zup_n e4 (by omega))))))) ?_
    refine q_iconst C dX12_begins_94 (n := 95) rfl ?_
    refine q_iast C dX12_begins_95 (n := 96) rfl (zM107 h0) (by omega)  (fun M39 e40 => ?_)
    have hI41 : zI G M39 := hI37.put e40 ((zM108 h0) (M a 57)) rfl (by omega)
    have hK42 := hK38.upA e40 rfl
    refine q_aload_n C dX12_begins_96 (n := 97) rfl rfl ?_
    refine q_getR C dX12_begins_97 (n := 100) rfl f_X12_116 (zM0 h0) (hF _ _ _ (zM115 h0)) ?_
    refine q_aload_n C dX12_begins_100 (n := 101) rfl rfl ?_
    refine q_getI C dX12_begins_101 (n := 104) rfl f_X12_448 (zM0 h0) (v := M a 57) ((zup_p e40 (by omega) _).trans ((zup_p e36 (by omega) _).trans ((zup_p e28 (by omega) _).trans ((zup_p e24 (by omega) _).trans ((zup_p e18 (by omega) _).trans ((zup_p e10 (by omega) _).trans (zup_n e4 (by omega)))))))) ?_
    refine q_aload_n C dX12_begins_104 (n := 105) rfl rfl ?_
    have g43 := zI.at hI (zM145 h0)
    refine q_getI C dX12_begins_105 (n := 108) rfl f_X12_458 (zM0 h0) (v := M a 60) ((zup_p e40 (by omega) _).trans ((zup_p e36 (by omega) _).trans ((zup_p e28 (by omega) _).trans ((zup_p e24 (by omega) _).trans ((zup_p e18 (by omega) _).trans ((zup_p e10 (by omega) _).trans (zup_n e4 (by omega)))))))) ?_
    refine q_iast C dX12_begins_108 (n := 109) rfl (zM116 h0) (by omega)  (fun M44 e45 => ?_)
    have hI46 : zI G M44 := hI41.put e45 ((zM117 h0) (M a 57)) rfl (by omega)
    have hK47 := hK42.upA e45 rfl
    refine q_aload_n C dX12_begins_109 (n := 110) rfl rfl ?_
    refine q_getR C dX12_begins_110 (n := 113) rfl f_X12_119 (zM0 h0) (hF _ _ _ (zM118 h0)) ?_
    refine q_aload_n C dX12_begins_113 (n := 114) rfl rfl ?_
    refine q_getI C dX12_begins_114 (n := 117) rfl f_X12_448 (zM0 h0) (v := M a 57) ((zup_p e45 (by omega) _).trans ((zup_p e40 (by omega) _).trans ((zup_p e36 (by omega) _).trans ((zup_p e28 (by omega) _).trans ((zup_p e24 (by omega) _).trans ((zup_p e18 (by omega) _).trans ((zup_p e10 (by omega) _).trans (zup_n e4 (by omega))))))))) ?_
    refine q_aload_n C dX12_begins_117 (n := 118) rfl rfl ?_
    have g48 := zI.at hI (zM61 h0)
    refine q_getI C dX12_begins_118 (n := 121) rfl f_X12_397 (zM0 h0) (v := M a 26) ((zup_p e45 (by omega) _).trans ((zup_p e40 (by omega) _).trans ((zup_p e36 (by omega) _).trans ((zup_p e28 (by omega) _).trans ((zup_p e24 (by omega) _).trans ((zup_p e18 (by omega) _).trans ((zup_p e10 (by omega) _).trans (zup_n e4 (by omega))))))))) ?_
    refine q_iast C dX12_begins_121 (n := 122) rfl (zM119 h0) (by omega)  (fun M49 e50 => ?_)
    have hI51 : zI G M49 := hI46.put e50 ((zM120 h0) (M a 57)) rfl (by omega)
    have hK52 := hK47.upA e50 rfl
    refine q_aload_n C dX12_begins_122 (n := 123) rfl rfl ?_
    refine q_getR C dX12_begins_123 (n := 126) rfl f_X12_122 (zM0 h0) (hF _ _ _ (zM121 h0)) ?_
    refine q_aload_n C dX12_begins_126 (n := 127) rfl rfl ?_
    refine q_getI C dX12_begins_127 (n := 130) rfl f_X12_448 (zM0 h0) (v := M a 57) ((zup_p e50 (by omega) _).trans ((zup_p e45 (by omega) _).trans ((zup_p e40 (by omega) _).trans ((zup_p e36 (by omega) _).trans ((zup_p e28 (by omega) _).trans ((zup_p e24 (by omega) _).trans ((zup_p e18 (by omega) _).trans ((zup_p e10 (by omega) _).trans (zup_n e4 (by omega)))))))))) ?_
    refine q_iconst C dX12_begins_130 (n := 131) rfl ?_
    refine q_iast C dX12_begins_131 (n := 132) rfl (zM122 h0) (by omega)  (fun M53 e54 => ?_)
    have hI55 : zI G M53 := hI51.put e54 ((zM123 h0) (M a 57)) rfl (by omega)
    have hK56 := hK52.upA e54 rfl
    have hx57 : zX M53 a mb mp (n + 1) (M a 59) 0 0 0 := zY.cgr (Y_begin p1 (by omega) (by omega) (show M (a + 32) (M a 57) = A0 from p4) (m := v2) (by omega) p8) (by have hw : M53 a 62 = (M a 62) + 1 := ((zup_p e54 (by omega) _).trans ((zup_p e50 (by omega) _).trans ((zup_p e45 (by omega) _).trans ((zup_p e40 (by omega) _).trans ((zup_p e36 (by omega) _).trans ((zup_p e28 (by omega) _).trans ((zup_p e24 (by omega) _).trans ((zup_p e18 (by omega) _).trans ((zup_p e10 (by omega) _).trans (zup_s e4)))))))))); omega) ((zup_p e54 (by omega) _).trans ((zup_p e50 (by omega) _).trans ((zup_p e45 (by omega) _).trans ((zup_p e40 (by omega) _).trans ((zup_p e36 (by omega) _).trans ((zup_p e28 (by omega) _).trans ((zup_p e24 (by omega) _).trans ((zup_p e18 (by omega) _).trans ((zup_p e10 (by omega) _).trans (zup_n e4 (by omega))))))))))) ((zup_p e54 (by omega) _).trans ((zup_p e50 (by omega) _).trans ((zup_p e45 (by omega) _).trans ((zup_p e40 (by omega) _).trans ((zup_p e36 (by omega) _).trans ((zup_p e28 (by omega) _).trans ((zup_p e24 (by omega) _).trans ((zup_p e18 (by omega) _).trans ((zup_p e10 (by omega) _).trans (zup_n e4 (by omega))))))))))) ((zup_p e54 (by omega) _).trans ((zup_p e50 (by omega) _).trans ((zup_p e45 (by omega) _).trans ((zup_p e40 (by omega) _).trans ((zup_p e36 (by omega) _).trans ((zup_p e28 (by omega) _).trans ((zup_p e24 (by omega) _).trans ((zup_p e18 (by omega) _).trans ((zup_p e10 (by omega) _).trans (zup_n e4 (by omega))))))))))) ((zup_p e54 (by omega) _).trans ((zup_p e50 (by omega) _).trans ((zup_p e45 (by omega) _).trans ((zup_p e40 (by omega) _).trans ((zup_p e36 (by omega) _).trans ((zup_p e28 (by omega) _).trans ((zup_p e24 (by omega) _).trans ((zup_p e18 (by omega) _).trans ((zup_p e10 (by omega) _).trans (zup_n e4 (by omega))))))))))) ((zup_p e54 (by omega) _).trans ((zup_p e50 (by omega) _).trans ((zup_p e45 (by omega) _).trans ((zup_p e40 (by omega) _).trans ((zup_p e36 (by omega) _).trans ((zup_p e28 (by omega) _).trans ((zup_p e24 (by omega) _).trans ((zup_p e18 (by omega) _).trans ((zup_p e10 (by omega) _).trans (zup_n e4 (by omega))))))))))) ((zup_p e54 (by omega) _).trans ((zup_p e50 (by omega) _).trans ((zup_p e45 (by omega) _).trans ((zup_p e40 (by omega) _).trans ((zup_p e36 (by omega) _).trans ((zup_p e28 (by omega) _).trans ((zup_p e24 (by omega) _).trans ((zup_p e18 (by omega) _).trans ((zup_p e10 (by omega) _).trans (zup_n e4 (by omega))))))))))) ((zup_p e54 (by omega) _).trans ((zup_p e50 (by omega) _).trans ((zup_p e45 (by omega) _).trans ((zup_p e40 (by omega) _).trans ((zup_p e36 (by omega) _).trans ((zup_p e28 (by omega) _).trans ((zup_p e24 (by omega) _).trans ((zup_p e18 (by omega) _).trans ((zup_p e10 (by omega) _).trans (zup_n e4 (by omega))))))))))) ((zup_p e54 (by omega) _).trans ((zup_p e50 (by omega) _).trans ((zup_p e45 (by omega) _).trans ((zup_p e40 (by omega) _).trans ((zup_p e36 (by omega) _).trans ((zup_p e28 (by omega) _).trans ((zup_p e24 (by omega) _).trans ((zup_p e18 (by omega) _).trans ((zup_p e10 (by omega) _).trans (zup_n e4 (by omega))))))))))) (funext fun j => ((zup_p e54 (by omega) _).trans ((zup_p e50 (by omega) _).trans ((zup_p e45 (by omega) _).trans ((zup_p e40 (by omega) _).trans ((zup_p e36 (by omega) _).trans ((zup_p e28 (by omega) _).trans ((zup_p e24 (by omega) _).trans ((zup_p e18 (by omega) _).trans ((zup_p e10 (by omega) _).trans (zup_p e4 (by omega) _))))))))))) (funext fun j => ((zup_p e54 (by omega) _).trans ((zup_p e50 (by omega) _).trans ((zup_p e45 (by omega) _).trans ((zup_p e40 (by omega) _).trans ((zup_p e36 (by omega) _).trans ((zup_p e28 (by omega) _).trans ((zup_p e24 (by omega) _).trans ((zup_p e18 (by omega) _).trans ((zup_p e10 (by omega) _).trans (zup_p e4 (by omega) _))))))))))) (funext fun j => ((zup_p e54 (by omega) _).trans ((zup_p e50 (by omega) _).trans ((zup_p e45 (by omega) _).trans ((zup_p e40 (by omega) _).trans ((zup_p e36 (by omega) _).trans ((zup_p e28 (by omega) _).trans ((zup_p e24 (by omega) _).trans ((zup_p e18 (by omega) _).trans ((zup_p e10 (by omega) _).trans (zup_p e4 (by omega) _))))))))))) (funext fun j => ((zup_p e54 (by omega) _).trans ((zup_p e50 (by omega) _).trans ((zup_p e45 (by omega) _).trans ((zup_p e40 (by omega) _).trans ((zup_p e36 (by omega) _).trans ((zup_p e28 (by omega) _).trans ((zup_p e24 (by omega) _).trans ((zup_p e18 (by omega) _).trans ((zup_p e10 (by omega) _).trans (zup_p e4 (by omega) _))))))))))) (funext fun j => by by_cases q : j = (M a 57); (rw [q, yup_s]; have hw : M53 (a + 28) (M a 57) = v2 := ((zup_p e54 (by omega) _).trans ((zup_p e50 (by omega) _).trans ((zup_p e45 (by omega) _).trans ((zup_p e40 (by omega) _).trans ((zup_p e36 (by omega) _).trans ((zup_p e28 (by omega) _).trans (zup_e e24 (by omega)))))))); omega); (rw [yup_n q]; exact ((zup_p e54 (by omega) _).trans ((zup_p e50 (by omega) _).trans ((zup_p e45 (by omega) _).trans ((zup_p e40 (by omega) _).trans ((zup_p e36 (by omega) _).trans ((zup_p e28 (by omega) _).trans ((zup_n e24 (by omega)).trans ((zup_p e18 (by omega) _).trans ((zup_p e10 (by omega) _).trans (zup_p e4 (by omega) _)))))))))))) (funext fun j => by by_cases q : j = (M a 57); (rw [q, yup_s]; have hw : M53 (a + 31) (M a 57) = 0 := ((zup_p e54 (by omega) _).trans ((zup_p e50 (by omega) _).trans ((zup_p e45 (by omega) _).trans (zup_e e40 (by omega))))); omega); (rw [yup_n q]; exact ((zup_p e54 (by omega) _).trans ((zup_p e50 (by omega) _).trans ((zup_p e45 (by omega) _).trans ((zup_n e40 (by omega)).trans ((zup_p e36 (by omega) _).trans ((zup_p e28 (by omega) _).trans ((zup_p e24 (by omega) _).trans ((zup_p e18 (by omega) _).trans ((zup_p e10 (by omega) _).trans (zup_p e4 (by omega) _)))))))))))) (funext fun j => ((zup_p e54 (by omega) _).trans ((zup_p e50 (by omega) _).trans ((zup_p e45 (by omega) _).trans ((zup_p e40 (by omega) _).trans ((zup_p e36 (by omega) _).trans ((zup_p e28 (by omega) _).trans ((zup_p e24 (by omega) _).trans ((zup_p e18 (by omega) _).trans ((zup_p e10 (by omega) _).trans (zup_p e4 (by omega) _))))))))))) (funext fun j => ((zup_p e54 (by omega) _).trans ((zup_p e50 (by omega) _).trans ((zup_p e45 (by omega) _).trans ((zup_p e40 (by omega) _).trans ((zup_p e36 (by omega) _).trans ((zup_p e28 (by omega) _).trans ((zup_p e24 (by omega) _).trans ((zup_p e18 (by omega) _).trans ((zup_p e10 (by omega) _).trans (zup_p e4 (by omega) _))))))))))) (funext fun j => by by_cases q : j = (M a 57); (rw [q, yup_s]; have hw : M53 (a + 34) (M a 57) = M a 60 := ((zup_p e54 (by omega) _).trans ((zup_p e50 (by omega) _).trans (zup_e e45 (by omega)))); omega); (rw [yup_n q]; exact ((zup_p e54 (by omega) _).trans ((zup_p e50 (by omega) _).trans ((zup_n e45 (by omega)).trans ((zup_p e40 (by omega) _).trans ((zup_p e36 (by omega) _).trans ((zup_p e28 (by omega) _).trans ((zup_p e24 (by omega) _).trans ((zup_p e18 (by omega) _).trans ((zup_p e10 (by omega) _).trans (zup_p e4 (by omega) _)))))))))))) (funext fun j => by by_cases q : j = (M a 57); (rw [q, yup_s]; have hw : M53 (a + 35) (M a 57) = M a 26 := ((zup_p e54 (by omega) _).trans (zup_e e50 (by omega))); omega); (rw [yup_n q]; exact ((zup_p e54 (by omega) _).trans ((zup_n e50 (by omega)).trans ((zup_p e45 (by omega) _).trans ((zup_p e40 (by omega) _).trans ((zup_p e36 (by omega) _).trans ((zup_p e28 (by omega) _).trans ((zup_p e24 (by omega) _).trans ((zup_p e18 (by omega) _).trans ((zup_p e10 (by omega) _).trans (zup_p e4 (by omega) _)))))))))))) (funext fun j => by by_cases q : j = (M a 57); (rw [q, yup_s]; have hw : M53 (a + 36) (M a 57) = 0 := (zup_e e54 (by omega)); omega); (rw [yup_n q]; exact ((zup_n e54 (by omega)).trans ((zup_p e50 (by omega) _).trans ((zup_p e45 (by omega) _).trans ((zup_p e40 (by omega) _).trans ((zup_p e36 (by omega) _).trans ((zup_p e28 (by omega) _).trans ((zup_p e24 (by omega) _).trans ((zup_p e18 (by omega) _).trans ((zup_p e10 (by omega) _).trans (zup_p e4 (by omega) _)))))))))))) (funext fun j => ((zup_p e54 (by omega) _).trans ((zup_p e50 (by omega) _).trans ((zup_p e45 (by omega) _).trans ((zup_p e40 (by omega) _).trans ((zup_p e36 (by omega) _).trans ((zup_p e28 (by omega) _).trans ((zup_p e24 (by omega) _).trans ((zup_p e18 (by omega) _).trans ((zup_p e10 (by omega) _).trans (zup_p e4 (by omega) _))))))))))) (funext fun j => ((zup_p e54 (by omega) _).trans ((zup_p e50 (by omega) _).trans ((zup_p e45 (by omega) _).trans ((zup_p e40 (by omega) _).trans ((zup_p e36 (by omega) _).trans ((zup_p e28 (by omega) _).trans ((zup_p e24 (by omega) _).trans ((zup_p e18 (by omega) _).trans ((zup_p e10 (by omega) _).trans (zup_p e4 (by omega) _)))))))))))
    refine q_iconst C dX12_begins_132 (n := 133) rfl ?_
    have hp58 : zMa M53 a mb mp := hp19.cg (fun j j0 j1 => ((zup_p e54 (by omega) _).trans ((zup_p e50 (by omega) _).trans ((zup_p e45 (by omega) _).trans ((zup_p e40 (by omega) _).trans ((zup_p e36 (by omega) _).trans ((zup_p e28 (by omega) _).trans (zup_p e24 (by omega) _)))))))) (fun j => ((zup_p e54 (by omega) _).trans ((zup_p e50 (by omega) _).trans ((zup_p e45 (by omega) _).trans ((zup_p e40 (by omega) _).trans ((zup_p e36 (by omega) _).trans ((zup_p e28 (by omega) _).trans (zup_p e24 (by omega) _))))))))
    exact q_zret C dX12_begins_133 ⟨rfl, rfl⟩ (by omega) (by rw [hPo]; exact ⟨1, M53, J, rfl, rfl, hI55, hK56, by omega, Or.inr hx57, Or.inr (by have hm := zMu_begin (M := M) (M2 := M53) (a := a) (n := n) (by omega) (fun j => ((zup_p e54 (by omega) _).trans ((zup_p e50 (by omega) _).trans ((zup_p e45 (by omega) _).trans ((zup_p e40 (by omega) _).trans ((zup_p e36 (by omega) _).trans ((zup_p e28 (by omega) _).trans ((zup_p e24 (by omega) _).trans ((zup_p e18 (by omega) _).trans ((zup_p e10 (by omega) _).trans (zup_p e4 (by omega) _))))))))))) (fun j => ((zup_p e54 (by omega) _).trans ((zup_p e50 (by omega) _).trans ((zup_p e45 (by omega) _).trans ((zup_p e40 (by omega) _).trans ((zup_p e36 (by omega) _).trans ((zup_p e28 (by omega) _).trans ((zup_p e24 (by omega) _).trans ((zup_p e18 (by omega) _).trans ((zup_p e10 (by omega) _).trans (zup_p e4 (by omega) _))))))))))) ((zup_p e54 (by omega) _).trans ((zup_p e50 (by omega) _).trans ((zup_p e45 (by omega) _).trans ((zup_p e40 (by omega) _).trans ((zup_p e36 (by omega) _).trans ((zup_p e28 (by omega) _).trans ((zup_p e24 (by omega) _).trans ((zup_p e18 (by omega) _).trans ((zup_p e10 (by omega) _).trans (zup_n e4 (by omega))))))))))) ((zup_p e54 (by omega) _).trans ((zup_p e50 (by omega) _).trans ((zup_p e45 (by omega) _).trans ((zup_p e40 (by omega) _).trans ((zup_p e36 (by omega) _).trans ((zup_p e28 (by omega) _).trans ((zup_p e24 (by omega) _).trans ((zup_p e18 (by omega) _).trans ((zup_p e10 (by omega) _).trans (zup_n e4 (by omega))))))))))) ((zup_p e54 (by omega) _).trans ((zup_p e50 (by omega) _).trans ((zup_p e45 (by omega) _).trans ((zup_p e40 (by omega) _).trans ((zup_p e36 (by omega) _).trans ((zup_p e28 (by omega) _).trans ((zup_p e24 (by omega) _).trans ((zup_p e18 (by omega) _).trans ((zup_p e10 (by omega) _).trans (zup_s e4)))))))))) (fun j hj => ((zup_p e54 (by omega) _).trans ((zup_p e50 (by omega) _).trans ((zup_p e45 (by omega) _).trans ((zup_n e40 (by omega)).trans ((zup_p e36 (by omega) _).trans ((zup_p e28 (by omega) _).trans ((zup_p e24 (by omega) _).trans ((zup_p e18 (by omega) _).trans ((zup_p e10 (by omega) _).trans (zup_p e4 (by omega) _))))))))))) ((zup_p e54 (by omega) _).trans ((zup_p e50 (by omega) _).trans ((zup_p e45 (by omega) _).trans (zup_e e40 (by omega))))); omega), hp58, (((zup_p e54 (by omega) _).trans ((zup_p e50 (by omega) _).trans ((zup_p e45 (by omega) _).trans ((zup_p e40 (by omega) _).trans ((zup_p e36 (by omega) _).trans ((zup_p e28 (by omega) _).trans ((zup_p e24 (by omega) _).trans ((zup_n e18 (by omega)).trans ((zup_n e10 (by omega)).trans (zup_p e4 (by omega) _)))))))))))⟩)
  · refine q_aload_n C dX12_begins_9 (n := 10) rfl rfl ?_
    refine q_bipush C dX12_begins_10 (n := 12) rfl (x := 7) (by decide) ?_
    refine q_iload_n C dX12_begins_12 (n := 13) rfl rfl ?_
    refine q_callVi C dX12_begins_13 (n := 16) rfl m_X12_376 v_yX12_badAt (zM0 h0) ⟨by decide, rfl⟩ (c_X12_badAt (w := w) (J := J) hI hF h0 7 v1 (by omega) (by omega)) (Nat.le_of_ble_eq_true rfl) rfl rfl (Nat.le_of_ble_eq_true rfl) ⟨Nat.le_refl _, Nat.le_refl _⟩ (fun x65 M61 J62  hI63 h64 => ?_)
    obtain ⟨hk66, h59, h60⟩ := h64
    have hK67 := hK0.tr hk66 rfl rfl rfl
    have hp68 : zMa M61 a mb mp := p9.cg (fun j j0 j1 => (hk66.getW rfl rfl (by omega))) (fun j => (hk66.getA rfl rfl rfl))
    exact q_zret C dX12_begins_16 ⟨rfl, rfl⟩ (by omega) (by rw [hPo]; exact ⟨x65, M61, J62, rfl, rfl, hI63, hK67, by omega, Or.inl (by omega), Or.inl (by omega), hp68, ((hk66.getP rfl rfl rfl))⟩)
