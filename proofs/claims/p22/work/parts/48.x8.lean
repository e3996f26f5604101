def zXs (M : zMm) (a : Nat) (mb mp : Int → Int) : Prop := ∃ n, zX M a mb mp n (M a 59) 0 0 0
def zMz (M : zMm) (a : Nat) : Int := if M a 57 < 0 then 0 else zMu M a (if 0 ≤ M (a + 28) (M a 57) then M a 57 + 1 else M a 57) + 1
theorem zX.cm {M : zMm} {a : Nat} {mb mp : Int → Int} {n A0 v u z : Int} (h : zX M a mb mp n A0 v u z) {f : Int} (hf : M a 57 = f) : (n = f ∧ M (a + 28) f = -1) ∨ (n = f + 1 ∧ 0 ≤ M (a + 28) f ∧ A0 = M a 59) := by
  subst hf
  have h1 := h.1
  by_cases q : n = M a 57
  · exact Or.inl ⟨q, (h.2.2.2.2.2.2.1 q).1⟩
  · have q2 : n = M a 57 + 1 := by omega
    have := (h.2.2.2.2.2.1 (by omega)).1
    have h3 := this.1
    rw [show n - 1 = M a 57 by omega] at h3
    exact Or.inr ⟨q2, h3, (h.2.2.2.2.2.2.2.1 q2).1⟩
theorem zXs.mk {M : zMm} {a : Nat} {mb mp : Int → Int} {n A0 v u z : Int} (h : zX M a mb mp n A0 v u z) (e : A0 = M a 59) : zXs M a mb mp := ⟨n, by
  have hn := zX.num h
  rw [← e]
  exact h.drop (by omega) (by omega) (by omega)⟩
theorem zMz_of {M : zMm} {a : Nat} {mb mp : Int → Int} {n A0 v u z : Int} (h : zX M a mb mp n A0 v u z) : zMz M a = zMu M a n + 1 := by
  have hn := zX.num h
  unfold zMz
  rw [if_neg (by omega)]
  rcases zX.cm h rfl with ⟨q1, q2⟩ | ⟨q1, q2, _⟩
  · rw [if_neg (by omega), q1]
  · rw [if_pos q2, q1]
theorem zMz_neg {M : zMm} {a : Nat} (h : M a 57 < 0) : zMz M a = 0 := if_pos h
theorem zXs.mz {T : zTl} {F : zRm'} {G : zGt} {M : zMm} {a : Nat} {mb mp : Int → Int} (h : M a 57 < 0 ∨ zXs M a mb mp) (hI : zI G M) (h0 : zModel T F G a) : 0 ≤ zMz M a := by
  rcases h with q | ⟨n, q⟩
  · rw [zMz_neg q]
    exact Int.le_refl _
  · rw [zMz_of q]
    have := zX.mu q hI h0
    omega
theorem zMu_body {M M2 : zMm} {a : Nat} {f k : Int} (f0 : 0 ≤ f) (e57 : M2 a 57 = M a 57) (e58 : M2 a 58 = M a 58) (e62 : M2 a 62 = M a 62) (e24 : ∀ j, M2 (a + 24) j = M (a + 24) j) (e25 : ∀ j, M2 (a + 25) j = M (a + 25) j) (e31 : ∀ j, j ≠ f → M2 (a + 31) j = M (a + 31) j) (g31 : M2 (a + 31) f = M (a + 31) f + k) : zMu M2 a (f + 1) = zMu M a (f + 1) - 3450 * k := by
  have z1 := zSum_s (g := M (a + 31)) (b := 0) (i := f) f0
  have z2 := zSum_s (g := M2 (a + 31)) (b := 0) (i := f) f0
  rw [Int.zero_add] at z1 z2
  rw [g31, zSum_cg (g := M2 (a + 31)) (h := M (a + 31)) f.toNat (fun i hi => e31 _ (by omega))] at z2
  unfold zMu
  rw [e57, e58, e62, funext e24, funext e25, z1, z2]
  omega
theorem zMu_open {M M2 : zMm} {a : Nat} {f x y : Int} (f0 : 0 ≤ f) (hs : 0 ≤ M a 58) (e57 : M2 a 57 = M a 57 + 1) (e58 : M2 a 58 = M a 58 + 1) (e62 : M2 a 62 = M a 62) (e24 : ∀ j, j ≠ M a 58 → M2 (a + 24) j = M (a + 24) j) (e25 : ∀ j, j ≠ M a 58 → M2 (a + 25) j = M (a + 25) j) (g24 : M2 (a + 24) (M a 58) = x) (g25 : M2 (a + 25) (M a 58) = y) (hy : y - x ≤ 3440) (e31 : ∀ j, j ≠ f → M2 (a + 31) j = M (a + 31) j) (g31 : M2 (a + 31) f = M (a + 31) f + 1) : zMu M2 a (f + 1) < zMu M a (f + 1) := by
  have z1 := zSum_s (g := M (a + 31)) (b := 0) (i := f) f0
  have z2 := zSum_s (g := M2 (a + 31)) (b := 0) (i := f) f0
  rw [Int.zero_add] at z1 z2
  rw [g31, zSum_cg (g := M2 (a + 31)) (h := M (a + 31)) f.toNat (fun i hi => e31 _ (by omega))] at z2
  have r1 := yR_s (at_ := M2 (a + 24)) (en := M2 (a + 25)) hs
  rw [g24, g25, yR_cg (at_ := M (a + 24)) (en := M (a + 25)) (s := M a 58) (fun j j0 j1 => ⟨e24 j (by omega), e25 j (by omega)⟩)] at r1
  unfold zMu
  rw [e57, e58, e62, r1, z1, z2]
  omega
theorem zX.arg {M : zMm} {a : Nat} {mb mp : Int → Int} {n A0 v u z : Int} (h : zX M a mb mp n A0 v u z) {f p : Int} (hf : M a 57 = f) (hn : n = f + 1) (p0 : 0 ≤ p) (p1 : p < mp (M (a + 28) f)) : M (a + 32) f ≤ M (a + 33) (5 * f + p) ∧ M (a + 33) (5 * f + p) ≤ M (a + 33) (5 * f + p + 1) ∧ M (a + 33) (5 * f + p + 1) ≤ M a 59 ∧ M a 59 - M (a + 32) f ≤ 3440 := by
  subst hf
  have hN := yN h
  have hfb := yfl h (g := M a 57) (r := M a 57) h.1.2.2.2.1 (Int.le_refl _) (Int.le_refl _)
  have hd := (h.2.2.2.2.2.2.2.1 hn).1
  obtain ⟨q1, q2, q3, q4⟩ := h.2.2.2.2.2.1 (by have := h.1; omega)
  rw [show n - 1 = M a 57 by omega] at q1 q2
  rw [if_neg (by omega)] at q1
  have hrm : yR (M (a + 24)) (M (a + 25)) (M (a + 27) (M a 57)) ≤ yR (M (a + 24)) (M (a + 25)) (M a 58) := yR_mo (fun j j0 j1 => (h.2.2.2.1 j j0 j1).1) ⟨hfb.1, h.2.1.2.2.2.1⟩
  have hy : 0 ≤ yP (M a 61) (M (a + 31)) (M (a + 36)) (M a 57) := by
    by_cases q : M a 57 = 0
    · rw [q, yP_0]
      exact h.2.1.2.2.2.2.2.2.2.2.2.1
    · exact (yP_p q).1
  have q5 := q1.2.2.2.2.1
  obtain ⟨s1, s2, s3⟩ := q2 p p0 p1
  rw [hd] at s3 q5
  exact ⟨s1, s2, s3, by omega⟩
theorem c_X12_replaces {w : zWp} {T : zTl} {M : zMm} {J : zJm} {R : zRm'} {G : zGt} {F : zRm'} {a : Nat} {mb mp og lg : Int → Int} {n A0 v u z : Int} (hI : zI G M) (hF : zF F R) (h0 : zModel T F G a) (f : Int) (p1 : zX M a mb mp n A0 v u z) (p2 : zOg M a og lg) (p3 : zMa M a mb mp) (p4 : M a 57 = f) (p5 : n = f + 1 ∧ v = 0) : zCt w 5 0 0 yX12_replaces cX12_replaces 7 (some .boolean) [.ref (w.2.1 + a)] (T, M, J, R) (zPi T R G (fun x M2 => (zMd a [9, 10, 11, 12, 13, 14, 15, 16, 17, 24, 25, 26, 27, 28, 31, 36, 37, 38, 39, 42] [24, 25, 26, 34, 57, 58, 59, 60] [(18, 7), (18, 8), (18, 11), (18, 12), (18, 13), (18, 14)] M M2) ∧ (x = 0 ∨ x = 1) ∧ (x = 0 ∨ zXs M2 a mb mp) ∧ (x = 0 ∨ zMz M2 a ≤ zMu M a n) ∧ (zOg M2 a og lg) ∧ (zMa M2 a mb mp))) := by
  refine zCt.of rfl (Nat.le_of_ble_eq_true rfl) ?_
  intro p e s m args below meth c C
  obtain ⟨Po, hPo⟩ : ∃ Po, Po = zPi T R G (fun x M2 => (zMd a [9, 10, 11, 12, 13, 14, 15, 16, 17, 24, 25, 26, 27, 28, 31, 36, 37, 38, 39, 42] [24, 25, 26, 34, 57, 58, 59, 60] [(18, 7), (18, 8), (18, 11), (18, 12), (18, 13), (18, 14)] M M2) ∧ (x = 0 ∨ x = 1) ∧ (x = 0 ∨ zXs M2 a mb mp) ∧ (x = 0 ∨ zMz M2 a ≤ zMu M a n) ∧ (zOg M2 a og lg) ∧ (zMa M2 a mb mp)) := ⟨_, rfl⟩
  rw [← hPo]
  subst p4
  have hK0 : zMd a [9, 10, 11, 12, 13, 14, 15, 16, 17, 24, 25, 26, 27, 28, 31, 36, 37, 38, 39, 42] [24, 25, 26, 34, 57, 58, 59, 60] [(18, 7), (18, 8), (18, 11), (18, 12), (18, 13), (18, 14)] M M := zMd.rf
  have gk_frame := zI.at hI (zM142 h0)
  have gk_stretches := zI.at hI (zM143 h0)
  have gx0 := zX.num p1
  have gt1 := zI.at hI ((zM99 h0) (M a 57))
  have gc := zX.clz p1 (f := M a 57) rfl (by omega)
  have gq := zX.q3 p1 (f := M a 57) (by omega) (by omega)
  have gw := zMa.w p3 (m := M (a + 28) (M a 57)) (by omega) (by omega)
  have gA := zX.cm p1 (f := M a 57) rfl
  have gfb := zX.fb p1 rfl
  show zK w p e 5 0 0 s m args below meth c 7 T Po 0 [.ref (w.2.1 + a), .null, .null, .null, .null, .null, .null] [] (T, M, J, R)
  refine q_aload_n C dX12_replaces_0 (n := 1) rfl rfl ?_
  refine q_getR C dX12_replaces_1 (n := 4) rfl f_X12_98 (zM0 h0) (hF _ _ _ (zM97 h0)) ?_
  refine q_aload_n C dX12_replaces_4 (n := 5) rfl rfl ?_
  have g2 := zI.at hI (zM142 h0)
  refine q_getI C dX12_replaces_5 (n := 8) rfl f_X12_448 (zM0 h0) (v := M a 57) rfl ?_
  have g3 := zI.at hI ((zM99 h0) (M a 57))
  refine q_iald C dX12_replaces_8 (n := 9) rfl (zM98 h0) (by omega) (v := M (a + 28) (M a 57)) rfl ?_
  refine q_istore_n C [.ref (w.2.1 + a), zi (M (a + 28) (M a 57)), .null, .null, .null, .null, .null] dX12_replaces_9 (n := 10) rfl rfl rfl ?_
  refine q_aload_n C dX12_replaces_10 (n := 11) rfl rfl ?_
  refine q_getR C dX12_replaces_11 (n := 14) rfl f_X12_107 (zM0 h0) (hF _ _ _ (zM106 h0)) ?_
  refine q_aload_n C dX12_replaces_14 (n := 15) rfl rfl ?_
  refine q_getI C dX12_replaces_15 (n := 18) rfl f_X12_448 (zM0 h0) (v := M a 57) rfl ?_
  have g4 := zI.at hI ((zM108 h0) (M a 57))
  refine q_iald C dX12_replaces_18 (n := 19) rfl (zM107 h0) (by omega) (v := M (a + 31) (M a 57)) rfl ?_
  refine q_istore_n C [.ref (w.2.1 + a), zi (M (a + 28) (M a 57)), zi (M (a + 31) (M a 57)), .null, .null, .null, .null] dX12_replaces_19 (n := 20) rfl rfl rfl ?_
  refine q_iload_n C dX12_replaces_20 (n := 21) rfl rfl ?_
  refine q_aload_n C dX12_replaces_21 (n := 22) rfl rfl ?_
  refine q_getR C dX12_replaces_22 (n := 25) rfl f_X12_68 (zM0 h0) (hF _ _ _ (zM65 h0)) ?_
  refine q_sipush C dX12_replaces_25 (n := 28) rfl (x := 211) (by decide) ?_
  refine q_iload_n C dX12_replaces_28 (n := 29) rfl rfl ?_
  refine q_iadd C dX12_replaces_29 (n := 30) rfl (v := 211 + (M (a + 28) (M a 57))) rfl ?_
  have g5 := zI.at hI (((zM67 h0) (211 + (M (a + 28) (M a 57)))).trans (zwG_211 (by omega)))
  refine q_iald C dX12_replaces_30 (n := 31) rfl (zM66 h0) (by omega) (v := M (a + 18) (211 + (M (a + 28) (M a 57)))) rfl ?_
  refine q_icmp_ne C 39 dX12_replaces_31 (n := 34) rfl rfl (by omega) (fun h6 => ?_) (fun h6 => ?_)
  · refine q_aload_n C dX12_replaces_39 (n := 40) rfl rfl ?_
    refine q_getR C dX12_replaces_40 (n := 43) rfl f_X12_107 (zM0 h0) (hF _ _ _ (zM106 h0)) ?_
    refine q_aload_n C dX12_replaces_43 (n := 44) rfl rfl ?_
    refine q_getI C dX12_replaces_44 (n := 47) rfl f_X12_448 (zM0 h0) (v := M a 57) rfl ?_
    refine q_dup2 C dX12_replaces_47 (n := 48) rfl ⟨rfl, rfl⟩ ?_
    refine q_iald C dX12_replaces_48 (n := 49) rfl (zM107 h0) (by omega) (v := M (a + 31) (M a 57)) rfl ?_
    refine q_iconst C dX12_replaces_49 (n := 50) rfl ?_
    refine q_iadd C dX12_replaces_50 (n := 51) rfl (v := (M (a + 31) (M a 57)) + 1) rfl ?_
    refine q_iast C dX12_replaces_51 (n := 52) rfl (zM107 h0) (by omega)  (fun M7 e8 => ?_)
    have hI9 : zI G M7 := hI.put e8 ((zM108 h0) (M a 57)) rfl (by omega)
    have hK10 := hK0.upA e8 rfl
    have hx11 : zX M7 a mb mp n A0 v (u + 1) (z + 3440) := zY.cgr (Y_body p1 (by omega) (show M (a + 31) (M a 57) + 1 ≤ mb (M (a + 28) (M a 57)) from by rw [show M a 57 = M a 57 from rfl]; have h1 : M (a + 31) (M a 57) = M (a + 31) (M a 57) := rfl; have h2 : M (a + 28) (M a 57) = M (a + 28) (M a 57) := rfl; rw [h2]; omega)) (zup_p e8 (by omega) _) (zup_p e8 (by omega) _) (zup_p e8 (by omega) _) (zup_p e8 (by omega) _) (zup_p e8 (by omega) _) (zup_p e8 (by omega) _) (zup_p e8 (by omega) _) (zup_p e8 (by omega) _) (zup_p e8 (by omega) _) (funext fun j => (zup_p e8 (by omega) _)) (funext fun j => (zup_p e8 (by omega) _)) (funext fun j => (zup_p e8 (by omega) _)) (funext fun j => (zup_p e8 (by omega) _)) (funext fun j => (zup_p e8 (by omega) _)) (funext fun j => by by_cases q : j = (M a 57); (rw [q, yup_s]; have hw : M7 (a + 31) (M a 57) = (M (a + 31) (M a 57)) + 1 := (zup_e e8 (by omega)); omega); (rw [yup_n q]; exact (zup_n e8 (by omega)))) (funext fun j => (zup_p e8 (by omega) _)) (funext fun j => (zup_p e8 (by omega) _)) (funext fun j => (zup_p e8 (by omega) _)) (funext fun j => (zup_p e8 (by omega) _)) (funext fun j => (zup_p e8 (by omega) _)) (funext fun j => (zup_p e8 (by omega) _)) (funext fun j => (zup_p e8 (by omega) _))
    refine q_aload_n C dX12_replaces_52 (n := 53) rfl rfl ?_
    refine q_iload_n C dX12_replaces_53 (n := 54) rfl rfl ?_
    refine q_iload_n C dX12_replaces_54 (n := 55) rfl rfl ?_
    refine q_callVp C dX12_replaces_55 (n := 58) rfl m_X12_515 v_yX12_isPaste (zM0 h0) ⟨by decide, rfl⟩ (c_X12_isPaste (w := w) (J := J) hI9 hF h0 (M (a + 28) (M a 57)) (M (a + 31) (M a 57)) (by omega) (by omega)) (Nat.le_of_ble_eq_true rfl) rfl rfl (Nat.le_of_ble_eq_true rfl) ⟨Nat.le_refl _, Nat.le_refl _⟩ (fun x13 h14 => ?_)
    refine q_if_eq C 63 dX12_replaces_58 (n := 61) rfl rfl (by omega) (fun h15 => ?_) (fun h15 => ?_)
    · refine q_aload_n C dX12_replaces_63 (n := 64) rfl rfl ?_
      refine q_iload_n C dX12_replaces_64 (n := 65) rfl rfl ?_
      refine q_iload_n C dX12_replaces_65 (n := 66) rfl rfl ?_
      refine q_iconst C dX12_replaces_66 (n := 67) rfl ?_
      refine q_isub C dX12_replaces_67 (n := 68) rfl (v := (M (a + 31) (M a 57)) - 1) rfl ?_
      refine q_callVp C dX12_replaces_68 (n := 71) rfl m_X12_515 v_yX12_isPaste (zM0 h0) ⟨by decide, rfl⟩ (c_X12_isPaste (w := w) (J := J) hI9 hF h0 (M (a + 28) (M a 57)) ((M (a + 31) (M a 57)) - 1) (by omega) (by omega)) (Nat.le_of_ble_eq_true rfl) rfl rfl (Nat.le_of_ble_eq_true rfl) ⟨Nat.le_refl _, Nat.le_refl _⟩ (fun x17 h18 => ?_)
      refine q_istore_n C [.ref (w.2.1 + a), zi (M (a + 28) (M a 57)), zi (M (a + 31) (M a 57)), zi x17, .null, .null, .null] dX12_replaces_71 (n := 72) rfl rfl rfl ?_
      refine q_aload_n C dX12_replaces_72 (n := 73) rfl rfl ?_
      refine q_iload_n C dX12_replaces_73 (n := 74) rfl rfl ?_
      refine q_callVv C dX12_replaces_74 (n := 77) rfl m_X12_518 v_yX12_newPiece (zM0 h0) ⟨by decide, rfl⟩ (c_X12_newPiece (w := w) (J := J) hI9 hF h0 x17 hx11 (by have hz19 : M7 a 57 = M a 57 := (zup_p e8 (by omega) _); omega) (by omega)) (Nat.le_of_ble_eq_true rfl) rfl rfl (Nat.le_of_ble_eq_true rfl) ⟨Nat.le_refl _, Nat.le_refl _⟩ (fun M23 J24  hI25 h26 => ?_)
      obtain ⟨hk27, h20, h21, h22⟩ := h26
      have hK28 := hK10.tr hk27 rfl rfl rfl
      have hz29 : M7 a 60 = M a 60 := (zup_p e8 (by omega) _)
      refine q_aload_n C dX12_replaces_77 (n := 78) rfl rfl ?_
      refine q_iload_n C dX12_replaces_78 (n := 79) rfl rfl ?_
      refine q_iload_n C dX12_replaces_79 (n := 80) rfl rfl ?_
      refine q_callVp C dX12_replaces_80 (n := 83) rfl m_X12_522 v_yX12_isMaking (zM0 h0) ⟨by decide, rfl⟩ (c_X12_isMaking (w := w) (J := J24) hI25 hF h0 (M (a + 28) (M a 57)) (M (a + 31) (M a 57)) (by omega) (by omega)) (Nat.le_of_ble_eq_true rfl) rfl rfl (Nat.le_of_ble_eq_true rfl) ⟨Nat.le_refl _, Nat.le_refl _⟩ (fun x35 h36 => ?_)
      obtain ⟨h30, h31, h32, h33, h34⟩ := h36
      have hz37 : M23 (a + 18) (211 + (M (a + 28) (M a 57))) = M (a + 18) (211 + (M (a + 28) (M a 57))) := ((hk27.getA rfl rfl rfl).trans (zup_p e8 (by omega) _))
      have hz38 : M23 (a + 18) (199 + (M (a + 28) (M a 57))) = M (a + 18) (199 + (M (a + 28) (M a 57))) := ((hk27.getA rfl rfl rfl).trans (zup_p e8 (by omega) _))
      have hz39 : M23 (a + 18) (259 + (20 * (M (a + 28) (M a 57)) + (M (a + 31) (M a 57)))) = M (a + 18) (259 + (20 * (M (a + 28) (M a 57)) + (M (a + 31) (M a 57)))) := ((hk27.getA rfl rfl rfl).trans (zup_p e8 (by omega) _))
      have hz40 : M23 (a + 18) (499 + (20 * (M (a + 28) (M a 57)) + (M (a + 31) (M a 57)))) = M (a + 18) (499 + (20 * (M (a + 28) (M a 57)) + (M (a + 31) (M a 57)))) := ((hk27.getA rfl rfl rfl).trans (zup_p e8 (by omega) _))
      have hz41 : M23 (a + 20) (360 + 30 * (20 * (M (a + 28) (M a 57)) + (M (a + 31) (M a 57)))) = M (a + 20) (360 + 30 * (20 * (M (a + 28) (M a 57)) + (M (a + 31) (M a 57)))) := ((hk27.getA rfl rfl rfl).trans (zup_p e8 (by omega) _))
      refine q_if_eq C 134 dX12_replaces_83 (n := 86) rfl rfl (by omega) (fun h42 => ?_) (fun h42 => ?_)
      · have gb := (p3.1 (M (a + 28) (M a 57)) (by omega) (by omega)).2.2 (M (a + 31) (M a 57)) (by omega) (by omega)
        have gb1 := gb.1
        refine q_aload_n C dX12_replaces_134 (n := 135) rfl rfl ?_
        refine q_getR C dX12_replaces_135 (n := 138) rfl f_X12_68 (zM0 h0) (hF _ _ _ (zM65 h0)) ?_
        refine q_sipush C dX12_replaces_138 (n := 141) rfl (x := 979) (by decide) ?_
        refine q_iload_n C dX12_replaces_141 (n := 142) rfl rfl ?_
        refine q_iload_n C dX12_replaces_142 (n := 143) rfl rfl ?_
        refine q_callSp C dX12_replaces_143 (n := 146) rfl m_X12_412 s_yX12_bodyAt (c_X12_bodyAt (w := w) (J := J24) hI25 hF (M (a + 28) (M a 57)) (M (a + 31) (M a 57))) (Nat.le_of_ble_eq_true rfl) rfl rfl (Nat.le_of_ble_eq_true rfl) ⟨Nat.le_refl _, Nat.le_refl _⟩ (fun x44 h45 => ?_)
        obtain rfl : x44 = 20 * (M (a + 28) (M a 57)) + (M (a + 31) (M a 57)) := h45
        refine q_iadd C dX12_replaces_146 (n := 147) rfl (v := 979 + (20 * (M (a + 28) (M a 57)) + (M (a + 31) (M a 57)))) rfl ?_
        have g46 := zI.at hI (((zM67 h0) (979 + (20 * (M (a + 28) (M a 57)) + (M (a + 31) (M a 57))))).trans (zwG_979 (by omega)))
        refine q_iald C dX12_replaces_147 (n := 148) rfl (zM66 h0) (by omega) (v := M (a + 18) (979 + (20 * (M (a + 28) (M a 57)) + (M (a + 31) (M a 57))))) ((hk27.getA rfl rfl rfl).trans (zup_p e8 (by omega) _)) ?_
        refine q_istore C [.ref (w.2.1 + a), zi (M (a + 28) (M a 57)), zi (M (a + 31) (M a 57)), zi x17, zi (M (a + 18) (979 + (20 * (M (a + 28) (M a 57)) + (M (a + 31) (M a 57))))), .null, .null] dX12_replaces_148 (n := 150) rfl rfl rfl ?_
        refine q_iload C dX12_replaces_150 (n := 152) rfl rfl ?_
        refine q_if_ge C 163 dX12_replaces_152 (n := 155) rfl rfl (by omega) (fun h47 => ?_) (fun h47 => ?_)
        · have ga := zX.arg p1 (f := M a 57) (p := M (a + 18) (979 + (20 * (M (a + 28) (M a 57)) + (M (a + 31) (M a 57))))) rfl (by omega) (by omega) (by omega)
          refine q_iload_n C dX12_replaces_163 (n := 164) rfl rfl ?_
          have J_48 : zK w p e 5 0 0 s m args below meth c 7 T Po 178 [.ref (w.2.1 + a), zi (M (a + 28) (M a 57)), zi (M (a + 31) (M a 57)), .null, zi (M (a + 18) (979 + (20 * (M (a + 28) (M a 57)) + (M (a + 31) (M a 57))))), .null, .null] [] (T, M23, J24, R) := by
            refine q_aload_n C dX12_replaces_178 (n := 179) rfl rfl ?_
            refine q_iload C dX12_replaces_179 (n := 181) rfl rfl ?_
            refine q_callVp C dX12_replaces_181 (n := 184) rfl m_X12_531 v_yX12_argBegin (zM0 h0) ⟨by decide, rfl⟩ (c_X12_argBegin (w := w) (J := J24) hI25 hF h0 (M (a + 18) (979 + (20 * (M (a + 28) (M a 57)) + (M (a + 31) (M a 57))))) (M a 57) (by have hz49 : M23 a 57 = M a 57 := ((hk27.getS rfl rfl).trans (zup_p e8 (by omega) _)); omega) (by omega) (by omega)) (Nat.le_of_ble_eq_true rfl) rfl rfl (Nat.le_of_ble_eq_true rfl) ⟨Nat.le_refl _, Nat.le_refl _⟩ (fun x52 h53 => ?_)
            obtain ⟨h50, h51⟩ := h53
            have hz54 : M23 (a + 33) (5 * (M a 57) + (M (a + 18) (979 + (20 * (M (a + 28) (M a 57)) + (M (a + 31) (M a 57)))))) = M (a + 33) (5 * (M a 57) + (M (a + 18) (979 + (20 * (M (a + 28) (M a 57)) + (M (a + 31) (M a 57)))))) := ((hk27.getA rfl rfl rfl).trans (zup_p e8 (by omega) _))
            refine q_istore C [.ref (w.2.1 + a), zi (M (a + 28) (M a 57)), zi (M (a + 31) (M a 57)), .null, zi (M (a + 18) (979 + (20 * (M (a + 28) (M a 57)) + (M (a + 31) (M a 57))))), zi x52, .null] dX12_replaces_184 (n := 186) rfl rfl rfl ?_
            have L_66 : ∀ n67 : Nat, ∀ (u55 : Int) (M57 : zMm) (J58 : zJm), zI G M57 → zMd a [9, 10, 11, 12, 13, 14, 15, 16, 17, 24, 25, 26, 27, 28, 31, 36, 37, 38, 39, 42] [24, 25, 26, 34, 57, 58, 59, 60] [(18, 7), (18, 8), (18, 11), (18, 12), (18, 13), (18, 14)] M M57 → zMd a [9, 10, 11, 12, 13, 14, 15, 16, 36, 38] [26] [] M23 M57 → (-2147483648 ≤ u55 ∧ u55 ≤ 2147483647) → ((M (a + 33) (5 * (M a 57) + (M (a + 18) (979 + (20 * (M (a + 28) (M a 57)) + (M (a + 31) (M a 57))))))) ≤ u55 ∧ u55 ≤ M (a + 33) (5 * (M a 57) + (M (a + 18) (979 + (20 * (M (a + 28) (M a 57)) + (M (a + 31) (M a 57))))) + 1) ∧ u55 ≤ 194000) → (zX M57 a mb mp n A0 v 0 (3440 - (u55 - (M (a + 33) (5 * (M a 57) + (M (a + 18) (979 + (20 * (M (a + 28) (M a 57)) + (M (a + 31) (M a 57)))))))))) → (zOg M57 a og lg) → (194001 - u55 ≤ (n67 : Int)) → zK w p e 5 0 0 s m args below meth c 7 T Po 186 [.ref (w.2.1 + a), zi (M (a + 28) (M a 57)), zi (M (a + 31) (M a 57)), .null, zi (M (a + 18) (979 + (20 * (M (a + 28) (M a 57)) + (M (a + 31) (M a 57))))), zi u55, .null] [] (T, M57, J58, R) := by
              intro n67
              induction n67 with
              | zero =>
                intro u55 M57 J58 hI59 hK60 hK61 h62 h63 h64 h65 hm69
                exfalso
                omega
              | succ n67 ih68 =>
                intro u55 M57 J58 hI59 hK60 hK61 h62 h63 h64 h65 hm69
                refine q_iload C dX12_replaces_186 (n := 188) rfl rfl ?_
                refine q_aload_n C dX12_replaces_188 (n := 189) rfl rfl ?_
                refine q_iload C dX12_replaces_189 (n := 191) rfl rfl ?_
                refine q_callVp C dX12_replaces_191 (n := 194) rfl m_X12_534 v_yX12_argEnd (zM0 h0) ⟨by decide, rfl⟩ (c_X12_argEnd (w := w) (J := J58) hI59 hF h0 (M (a + 18) (979 + (20 * (M (a + 28) (M a 57)) + (M (a + 31) (M a 57))))) (M a 57) (by have hz70 : M57 a 57 = M a 57 := ((hK61.getS rfl rfl).trans ((hk27.getS rfl rfl).trans (zup_p e8 (by omega) _))); omega) (by omega) (by omega)) (Nat.le_of_ble_eq_true rfl) rfl rfl (Nat.le_of_ble_eq_true rfl) ⟨Nat.le_refl _, Nat.le_refl _⟩ (fun x73 h74 => ?_)
                obtain ⟨h71, h72⟩ := h74
                have hz75 : M57 (a + 33) (5 * (M a 57) + (M (a + 18) (979 + (20 * (M (a + 28) (M a 57)) + (M (a + 31) (M a 57))))) + 1) = M (a + 33) (5 * (M a 57) + (M (a + 18) (979 + (20 * (M (a + 28) (M a 57)) + (M (a + 31) (M a 57))))) + 1) := ((hK61.getA rfl rfl rfl).trans ((hk27.getA rfl rfl rfl).trans (zup_p e8 (by omega) _)))
                refine q_icmp_ge C 218 dX12_replaces_194 (n := 197) rfl rfl (by omega) (fun h76 => ?_) (fun h76 => ?_)
                · refine q_aload_n C dX12_replaces_218 (n := 219) rfl rfl ?_
                  refine q_aload_n C dX12_replaces_219 (n := 220) rfl rfl ?_
                  refine q_getR C dX12_replaces_220 (n := 223) rfl f_X12_68 (zM0 h0) (hF _ _ _ (zM65 h0)) ?_
                  refine q_sipush C dX12_replaces_223 (n := 226) rfl (x := 739) (by decide) ?_
                  refine q_iload_n C dX12_replaces_226 (n := 227) rfl rfl ?_
                  refine q_iload_n C dX12_replaces_227 (n := 228) rfl rfl ?_
                  refine q_callSp C dX12_replaces_228 (n := 231) rfl m_X12_412 s_yX12_bodyAt (c_X12_bodyAt (w := w) (J := J58) hI59 hF (M (a + 28) (M a 57)) (M (a + 31) (M a 57))) (Nat.le_of_ble_eq_true rfl) rfl rfl (Nat.le_of_ble_eq_true rfl) ⟨Nat.le_refl _, Nat.le_refl _⟩ (fun x78 h79 => ?_)
                  obtain rfl : x78 = 20 * (M (a + 28) (M a 57)) + (M (a + 31) (M a 57)) := h79
                  refine q_iadd C dX12_replaces_231 (n := 232) rfl (v := 739 + (20 * (M (a + 28) (M a 57)) + (M (a + 31) (M a 57)))) rfl ?_
                  have g80 := zI.at hI (((zM67 h0) (739 + (20 * (M (a + 28) (M a 57)) + (M (a + 31) (M a 57))))).trans (zwG_739 (by omega)))
                  refine q_iald C dX12_replaces_232 (n := 233) rfl (zM66 h0) (by omega) (v := M (a + 18) (739 + (20 * (M (a + 28) (M a 57)) + (M (a + 31) (M a 57))))) ((hK61.getA rfl rfl rfl).trans ((hk27.getA rfl rfl rfl).trans (zup_p e8 (by omega) _))) ?_
                  refine q_callVv C dX12_replaces_233 (n := 236) rfl m_X12_537 v_yX12_blanks (zM0 h0) ⟨by decide, rfl⟩ (c_X12_blanks (w := w) (J := J58) hI59 hF h0 (M (a + 18) (739 + (20 * (M (a + 28) (M a 57)) + (M (a + 31) (M a 57))))) (by have hz81 : M57 a 60 = M23 a 60 := (hK61.getS rfl rfl); omega) (by omega)) (Nat.le_of_ble_eq_true rfl) rfl rfl (Nat.le_of_ble_eq_true rfl) ⟨Nat.le_refl _, Nat.le_refl _⟩ (fun M82 J83  hI84 h85 => ?_)
                  have hK87 := hK60.tr h85 rfl rfl rfl
                  have hK88 := hK61.tr h85 rfl rfl rfl
                  refine q_iconst C dX12_replaces_236 (n := 237) rfl ?_
                  have hp89 : zX M82 a mb mp n A0 v 0 (3440 - (u55 - (M (a + 33) (5 * (M a 57) + (M (a + 18) (979 + (20 * (M (a + 28) (M a 57)) + (M (a + 31) (M a 57))))))))) := h64.cg (h85.getS rfl rfl) (h85.getS rfl rfl) (h85.getS rfl rfl) (h85.getS rfl rfl) (h85.getS rfl rfl) (h85.getS rfl rfl) (h85.getS rfl rfl) (h85.getS rfl rfl) (h85.getS rfl rfl) (fun j => (h85.getA rfl rfl rfl)) (fun j => (h85.getA rfl rfl rfl)) (fun j => (h85.getA rfl rfl rfl)) (fun j => (h85.getA rfl rfl rfl)) (fun j => (h85.getA rfl rfl rfl)) (fun j => (h85.getA rfl rfl rfl)) (fun j => (h85.getA rfl rfl rfl)) (fun j => (h85.getA rfl rfl rfl)) (fun j => (h85.getA rfl rfl rfl)) (fun j => (h85.getA rfl rfl rfl)) (fun j => (h85.getA rfl rfl rfl)) (fun j => (h85.getA rfl rfl rfl)) (fun j => (h85.getA rfl rfl rfl))
                  have hp90 : zOg M82 a og lg := h65.cg (fun j => (h85.getA rfl rfl rfl)) (fun j => (h85.getA rfl rfl rfl))
                  have hp91 : zMa M82 a mb mp := p3.cg (fun j j0 j1 => ((h85.getA rfl rfl rfl).trans ((hK61.getA rfl rfl rfl).trans ((hk27.getA rfl rfl rfl).trans (zup_p e8 (by omega) _))))) (fun j => ((h85.getA rfl rfl rfl).trans ((hK61.getA rfl rfl rfl).trans ((hk27.getA rfl rfl rfl).trans (zup_p e8 (by omega) _)))))
                  exact q_zret C dX12_replaces_237 ⟨rfl, rfl⟩ (by omega) (by rw [hPo]; exact ⟨1, M82, J83, rfl, rfl, hI84, hK87, by omega, Or.inr (zXs.mk hp89 (by have hw : M82 a 59 = M a 59 := ((h85.getS rfl rfl).trans ((hK61.getS rfl rfl).trans ((hk27.getS rfl rfl).trans (zup_p e8 (by omega) _)))); omega)), Or.inr (by rw [zMz_of hp89]; have hn : n = M a 57 + 1 := (by omega); have h2 := zMu_body (M := M) (M2 := M82) (a := a) (f := M a 57) (k := 1) (by omega) ((h85.getS rfl rfl).trans ((hK61.getS rfl rfl).trans ((hk27.getS rfl rfl).trans (zup_p e8 (by omega) _)))) ((h85.getS rfl rfl).trans ((hK61.getS rfl rfl).trans ((hk27.getS rfl rfl).trans (zup_p e8 (by omega) _)))) ((h85.getS rfl rfl).trans ((hK61.getS rfl rfl).trans ((hk27.getS rfl rfl).trans (zup_p e8 (by omega) _)))) (fun j => ((h85.getA rfl rfl rfl).trans ((hK61.getA rfl rfl rfl).trans ((hk27.getA rfl rfl rfl).trans (zup_p e8 (by omega) _))))) (fun j => ((h85.getA rfl rfl rfl).trans ((hK61.getA rfl rfl rfl).trans ((hk27.getA rfl rfl rfl).trans (zup_p e8 (by omega) _))))) (fun j hj => ((h85.getA rfl rfl rfl).trans ((hK61.getA rfl rfl rfl).trans ((hk27.getA rfl rfl rfl).trans (zup_n e8 (by omega)))))) (by have hw : M82 (a + 31) (M a 57) = (M (a + 31) (M a 57)) + 1 := ((h85.getA rfl rfl rfl).trans ((hK61.getA rfl rfl rfl).trans ((hk27.getA rfl rfl rfl).trans (zup_s e8)))); omega); rw [hn]; omega), hp90, hp91⟩)
                · refine q_aload_n C dX12_replaces_197 (n := 198) rfl rfl ?_
                  refine q_aload_n C dX12_replaces_198 (n := 199) rfl rfl ?_
                  refine q_getI C dX12_replaces_199 (n := 202) rfl f_X12_448 (zM0 h0) (v := M a 57) ((hK61.getS rfl rfl).trans ((hk27.getS rfl rfl).trans (zup_p e8 (by omega) _))) ?_
                  refine q_aload_n C dX12_replaces_202 (n := 203) rfl rfl ?_
                  refine q_getR C dX12_replaces_203 (n := 206) rfl f_X12_135 (zM0 h0) (hF _ _ _ (zM133 h0)) ?_
                  refine q_iload C dX12_replaces_206 (n := 208) rfl rfl ?_
                  have g92 := zI.at hI ((zM135 h0) u55)
                  refine q_iald C dX12_replaces_208 (n := 209) rfl (zM134 h0) (by omega) (v := M (a + 40) u55) ((hK61.getA rfl rfl rfl).trans ((hk27.getA rfl rfl rfl).trans (zup_p e8 (by omega) _))) ?_
                  refine q_callVv C dX12_replaces_209 (n := 212) rfl m_X12_454 v_yX12_adds (zM0 h0) ⟨by decide, rfl⟩ (c_X12_adds (w := w) (J := J58) hI59 hF h0 (M a 57) (M (a + 40) u55) h64 h65 (by have hz93 : M57 a 57 = M a 57 := ((hK61.getS rfl rfl).trans ((hk27.getS rfl rfl).trans (zup_p e8 (by omega) _))); omega) (by have hz94 : M57 (a + 34) (M a 57) = M (a + 34) (M a 57) := ((hK61.getA rfl rfl rfl).trans ((hk27.getA rfl rfl rfl).trans (zup_p e8 (by omega) _))); have hz95 : M57 a 60 = M23 a 60 := (hK61.getS rfl rfl); omega) (by omega)) (Nat.le_of_ble_eq_true rfl) rfl rfl (Nat.le_of_ble_eq_true rfl) ⟨Nat.le_refl _, Nat.le_refl _⟩ (fun M98 J99  hI100 h101 => ?_)
                  obtain ⟨hk102, h96, h97⟩ := h101
                  have hK103 := hK60.tr hk102 rfl rfl rfl
                  have hK104 := hK61.tr hk102 rfl rfl rfl
                  refine q_iinc C [.ref (w.2.1 + a), zi (M (a + 28) (M a 57)), zi (M (a + 31) (M a 57)), .null, zi (M (a + 18) (979 + (20 * (M (a + 28) (M a 57)) + (M (a + 31) (M a 57))))), zi (u55 + 1), .null] dX12_replaces_212 (n := 215) rfl rfl rfl rfl ?_
                  refine q_goto C 186 dX12_replaces_215 rfl ?_
                  exact zK.weak (ih68 (u55 + 1) M98 J99 hI100 hK103 hK104 (by omega) (by omega) (zX.drop h96 (by omega) (by omega) (by omega)) h97 (by omega)) (zwk_c (zwk_c (zwk_c (zwk_n (zwk_c (zwk_c (zwk_n zwk_e)))))))
            have hp105 : zOg M23 a og lg := p2.cg (fun j => ((hk27.getA rfl rfl rfl).trans (zup_p e8 (by omega) _))) (fun j => ((hk27.getA rfl rfl rfl).trans (zup_p e8 (by omega) _)))
            exact zK.weak (L_66 _ x52 M23 J24 hI25 hK28 (zMd.rf : zMd a [9, 10, 11, 12, 13, 14, 15, 16, 36, 38] [26] [] M23 M23) (by omega) (by omega) (zX.drop h20 (by omega) (by omega) (by omega)) hp105 (Int.self_le_toNat _)) (zwk_c (zwk_c (zwk_c (zwk_n (zwk_c (zwk_c (zwk_n zwk_e)))))))
          refine q_if_ne C 178 dX12_replaces_164 (n := 167) rfl rfl (by omega) (fun h106 => ?_) (fun h106 => ?_)
          · exact zK.weak (J_48) (zwk_c (zwk_c (zwk_c (zwk_n (zwk_c (zwk_n (zwk_n zwk_e)))))))
          · refine q_aload_n C dX12_replaces_167 (n := 168) rfl rfl ?_
            refine q_iload_n C dX12_replaces_168 (n := 169) rfl rfl ?_
            refine q_iload_n C dX12_replaces_169 (n := 170) rfl rfl ?_
            refine q_iconst C dX12_replaces_170 (n := 171) rfl ?_
            refine q_iadd C dX12_replaces_171 (n := 172) rfl (v := (M (a + 31) (M a 57)) + 1) rfl ?_
            refine q_callVp C dX12_replaces_172 (n := 175) rfl m_X12_515 v_yX12_isPaste (zM0 h0) ⟨by decide, rfl⟩ (c_X12_isPaste (w := w) (J := J24) hI25 hF h0 (M (a + 28) (M a 57)) ((M (a + 31) (M a 57)) + 1) (by omega) (by omega)) (Nat.le_of_ble_eq_true rfl) rfl rfl (Nat.le_of_ble_eq_true rfl) ⟨Nat.le_refl _, Nat.le_refl _⟩ (fun x108 h109 => ?_)
            refine q_if_eq C 238 dX12_replaces_175 (n := 178) rfl rfl (by omega) (fun h110 => ?_) (fun h110 => ?_)
            · refine q_aload_n C dX12_replaces_238 (n := 239) rfl rfl ?_
              refine q_iload C dX12_replaces_239 (n := 241) rfl rfl ?_
              refine q_callVp C dX12_replaces_241 (n := 244) rfl m_X12_531 v_yX12_argBegin (zM0 h0) ⟨by decide, rfl⟩ (c_X12_argBegin (w := w) (J := J24) hI25 hF h0 (M (a + 18) (979 + (20 * (M (a + 28) (M a 57)) + (M (a + 31) (M a 57))))) (M a 57) (by have hz111 : M23 a 57 = M a 57 := ((hk27.getS rfl rfl).trans (zup_p e8 (by omega) _)); omega) (by omega) (by omega)) (Nat.le_of_ble_eq_true rfl) rfl rfl (Nat.le_of_ble_eq_true rfl) ⟨Nat.le_refl _, Nat.le_refl _⟩ (fun x114 h115 => ?_)
              obtain ⟨h112, h113⟩ := h115
              have hz116 : M23 (a + 33) (5 * (M a 57) + (M (a + 18) (979 + (20 * (M (a + 28) (M a 57)) + (M (a + 31) (M a 57)))))) = M (a + 33) (5 * (M a 57) + (M (a + 18) (979 + (20 * (M (a + 28) (M a 57)) + (M (a + 31) (M a 57)))))) := ((hk27.getA rfl rfl rfl).trans (zup_p e8 (by omega) _))
              refine q_istore C [.ref (w.2.1 + a), zi (M (a + 28) (M a 57)), zi (M (a + 31) (M a 57)), zi x17, zi (M (a + 18) (979 + (20 * (M (a + 28) (M a 57)) + (M (a + 31) (M a 57))))), zi x114, .null] dX12_replaces_244 (n := 246) rfl rfl rfl ?_
              refine q_aload_n C dX12_replaces_246 (n := 247) rfl rfl ?_
              refine q_iload C dX12_replaces_247 (n := 249) rfl rfl ?_
              refine q_callVp C dX12_replaces_249 (n := 252) rfl m_X12_534 v_yX12_argEnd (zM0 h0) ⟨by decide, rfl⟩ (c_X12_argEnd (w := w) (J := J24) hI25 hF h0 (M (a + 18) (979 + (20 * (M (a + 28) (M a 57)) + (M (a + 31) (M a 57))))) (M a 57) (by have hz117 : M23 a 57 = M a 57 := ((hk27.getS rfl rfl).trans (zup_p e8 (by omega) _)); omega) (by omega) (by omega)) (Nat.le_of_ble_eq_true rfl) rfl rfl (Nat.le_of_ble_eq_true rfl) ⟨Nat.le_refl _, Nat.le_refl _⟩ (fun x120 h121 => ?_)
              obtain ⟨h118, h119⟩ := h121
              have hz122 : M23 (a + 33) (5 * (M a 57) + (M (a + 18) (979 + (20 * (M (a + 28) (M a 57)) + (M (a + 31) (M a 57))))) + 1) = M (a + 33) (5 * (M a 57) + (M (a + 18) (979 + (20 * (M (a + 28) (M a 57)) + (M (a + 31) (M a 57))))) + 1) := ((hk27.getA rfl rfl rfl).trans (zup_p e8 (by omega) _))
              refine q_istore C [.ref (w.2.1 + a), zi (M (a + 28) (M a 57)), zi (M (a + 31) (M a 57)), zi x17, zi (M (a + 18) (979 + (20 * (M (a + 28) (M a 57)) + (M (a + 31) (M a 57))))), zi x114, zi x120] dX12_replaces_252 (n := 254) rfl rfl rfl ?_
              refine q_aload_n C dX12_replaces_254 (n := 255) rfl rfl ?_
              refine q_dup C dX12_replaces_255 (n := 256) rfl rfl ?_
              refine q_getI C dX12_replaces_256 (n := 259) rfl f_X12_448 (zM0 h0) (v := M a 57) ((hk27.getS rfl rfl).trans (zup_p e8 (by omega) _)) ?_
              refine q_iconst C dX12_replaces_259 (n := 260) rfl ?_
              refine q_iadd C dX12_replaces_260 (n := 261) rfl (v := (M a 57) + 1) rfl ?_
              refine q_putI C dX12_replaces_261 (n := 264) rfl f_X12_448 (zM0 h0) ⟨rfl, rfl⟩ (fun M123 (e124 : M123 = zup M23 a 57 ((M a 57) + 1)) => ?_)
              have hI125 : zI G M123 := hI25.put e124 (zM142 h0) rfl (by omega)
              have hK126 := hK28.upS e124 rfl
              refine q_aload_n C dX12_replaces_264 (n := 265) rfl rfl ?_
              refine q_callVv C dX12_replaces_265 (n := 268) rfl m_X12_464 v_yX12_opens (zM0 h0) ⟨by decide, rfl⟩ (c_X12_opens (w := w) (J := J24) hI125 hF h0 (by have hz127 : M123 a 57 = (M a 57) + 1 := (zup_s e124); omega)) (Nat.le_of_ble_eq_true rfl) rfl rfl (Nat.le_of_ble_eq_true rfl) ⟨Nat.le_refl _, Nat.le_refl _⟩ (fun M129 J130  hI131 h132 => ?_)
              obtain ⟨hk133, h128⟩ := h132
              have hK134 := hK126.tr hk133 rfl rfl rfl
              have hz135 : M123 a 57 = (M a 57) + 1 := (zup_s e124)
              rw [hz135] at h128
              have hz136 : M123 a 58 = M a 58 := ((zup_n e124 (by omega)).trans ((hk27.getS rfl rfl).trans (zup_p e8 (by omega) _)))
              rw [hz136] at h128
              obtain ⟨M138, e137⟩ : ∃ q, q = zup M123 (a + 27) ((M a 57) + 1) (M a 58) := ⟨_, rfl⟩
              have e139 : M129 = zup M138 (a + 28) ((M a 57) + 1) (-1) := by rw [e137]; exact h128
              refine q_aload_n C dX12_replaces_268 (n := 269) rfl rfl ?_
              refine q_iload C dX12_replaces_269 (n := 271) rfl rfl ?_
              refine q_iload C dX12_replaces_271 (n := 273) rfl rfl ?_
              refine q_iconst C dX12_replaces_273 (n := 274) rfl ?_
              refine q_callVv C dX12_replaces_274 (n := 277) rfl m_X12_476 v_yX12_stretch (zM0 h0) ⟨by decide, rfl⟩ (c_X12_stretch (w := w) (J := J130) hI131 hF h0 x114 x120 1 (by have hz140 : M129 a 58 = M a 58 := ((zup_p e139 (by omega) _).trans ((zup_p e137 (by omega) _).trans ((zup_n e124 (by omega)).trans ((hk27.getS rfl rfl).trans (zup_p e8 (by omega) _))))); omega) (by omega) (by omega) (by omega)) (Nat.le_of_ble_eq_true rfl) rfl rfl (Nat.le_of_ble_eq_true rfl) ⟨Nat.le_refl _, Nat.le_refl _⟩ (fun M142 J143  hI144 h145 => ?_)
              obtain ⟨hk146, h141⟩ := h145
              have hK147 := hK134.tr hk146 rfl rfl rfl
              have hz148 : M129 a 58 = M a 58 := ((zup_p e139 (by omega) _).trans ((zup_p e137 (by omega) _).trans ((zup_n e124 (by omega)).trans ((hk27.getS rfl rfl).trans (zup_p e8 (by omega) _)))))
              rw [hz148] at h141
              obtain ⟨M150, e149⟩ : ∃ q, q = zup M129 (a + 24) (M a 58) x114 := ⟨_, rfl⟩
              obtain ⟨M152, e151⟩ : ∃ q, q = zup M150 (a + 25) (M a 58) x120 := ⟨_, rfl⟩
              obtain ⟨M154, e153⟩ : ∃ q, q = zup M152 (a + 26) (M a 58) 1 := ⟨_, rfl⟩
              have e155 : M142 = zup M154 a 58 ((M a 58) + 1) := by rw [e153]; rw [e151]; rw [e149]; exact h141
              have hz156 : M23 (a + 31) (M a 57) = (M (a + 31) (M a 57)) + 1 := ((hk27.getA rfl rfl rfl).trans (zup_s e8))
              have hz157 : M23 (a + 32) (M a 57) = M (a + 32) (M a 57) := ((hk27.getA rfl rfl rfl).trans (zup_p e8 (by omega) _))
              have hz158 : M23 (a + 34) (M a 57) = M (a + 34) (M a 57) := ((hk27.getA rfl rfl rfl).trans (zup_p e8 (by omega) _))
              have hz159 : M23 a 57 = M a 57 := ((hk27.getS rfl rfl).trans (zup_p e8 (by omega) _))
              have hz160 : M23 a 58 = M a 58 := ((hk27.getS rfl rfl).trans (zup_p e8 (by omega) _))
              have hz161 : M23 a 59 = M a 59 := ((hk27.getS rfl rfl).trans (zup_p e8 (by omega) _))
              have hz162 : M23 a 62 = M a 62 := ((hk27.getS rfl rfl).trans (zup_p e8 (by omega) _))
              have hz163 : M23 a 57 = M a 57 := ((hk27.getS rfl rfl).trans (zup_p e8 (by omega) _))
              have hz164 : M23 a 58 = M a 58 := ((hk27.getS rfl rfl).trans (zup_p e8 (by omega) _))
              have hz165 : M23 a 59 = M a 59 := ((hk27.getS rfl rfl).trans (zup_p e8 (by omega) _))
              have hz166 : M23 a 26 = M a 26 := ((hk27.getS rfl rfl).trans (zup_p e8 (by omega) _))
              have hz167 : M23 a 25 = M a 25 := ((hk27.getS rfl rfl).trans (zup_p e8 (by omega) _))
              have hz168 : M23 a 24 = M a 24 := ((hk27.getS rfl rfl).trans (zup_p e8 (by omega) _))
              have hz169 : M23 a 61 = M a 61 := ((hk27.getS rfl rfl).trans (zup_p e8 (by omega) _))
              have hx170 : zX M142 a mb mp n A0 0 0 0 := zY.cgr (Y_open h20 (by omega) (by omega) (by rw [show M23 a 57 = M a 57 from ((hk27.getS rfl rfl).trans (zup_p e8 (by omega) _))]; omega) (by rw [show M23 a 57 = M a 57 from ((hk27.getS rfl rfl).trans (zup_p e8 (by omega) _))]; omega) (x := x114) (y := x120) (by rw [show M23 a 57 = M a 57 from ((hk27.getS rfl rfl).trans (zup_p e8 (by omega) _))]; omega) (by omega) (by omega)) ((zup_n e155 (by omega)).trans ((zup_p e153 (by omega) _).trans ((zup_p e151 (by omega) _).trans ((zup_p e149 (by omega) _).trans ((zup_p e139 (by omega) _).trans ((zup_p e137 (by omega) _).trans (zup_n e124 (by omega)))))))) (by have hw : M142 a 57 = (M a 57) + 1 := ((zup_n e155 (by omega)).trans ((zup_p e153 (by omega) _).trans ((zup_p e151 (by omega) _).trans ((zup_p e149 (by omega) _).trans ((zup_p e139 (by omega) _).trans ((zup_p e137 (by omega) _).trans (zup_s e124))))))); omega) (by have hw : M142 a 58 = (M a 58) + 1 := (zup_s e155); omega) ((zup_n e155 (by omega)).trans ((zup_p e153 (by omega) _).trans ((zup_p e151 (by omega) _).trans ((zup_p e149 (by omega) _).trans ((zup_p e139 (by omega) _).trans ((zup_p e137 (by omega) _).trans (zup_n e124 (by omega)))))))) ((zup_n e155 (by omega)).trans ((zup_p e153 (by omega) _).trans ((zup_p e151 (by omega) _).trans ((zup_p e149 (by omega) _).trans ((zup_p e139 (by omega) _).trans ((zup_p e137 (by omega) _).trans (zup_n e124 (by omega)))))))) ((zup_n e155 (by omega)).trans ((zup_p e153 (by omega) _).trans ((zup_p e151 (by omega) _).trans ((zup_p e149 (by omega) _).trans ((zup_p e139 (by omega) _).trans ((zup_p e137 (by omega) _).trans (zup_n e124 (by omega)))))))) ((zup_n e155 (by omega)).trans ((zup_p e153 (by omega) _).trans ((zup_p e151 (by omega) _).trans ((zup_p e149 (by omega) _).trans ((zup_p e139 (by omega) _).trans ((zup_p e137 (by omega) _).trans (zup_n e124 (by omega)))))))) ((zup_n e155 (by omega)).trans ((zup_p e153 (by omega) _).trans ((zup_p e151 (by omega) _).trans ((zup_p e149 (by omega) _).trans ((zup_p e139 (by omega) _).trans ((zup_p e137 (by omega) _).trans (zup_n e124 (by omega)))))))) ((zup_n e155 (by omega)).trans ((zup_p e153 (by omega) _).trans ((zup_p e151 (by omega) _).trans ((zup_p e149 (by omega) _).trans ((zup_p e139 (by omega) _).trans ((zup_p e137 (by omega) _).trans (zup_n e124 (by omega)))))))) (funext fun j => by by_cases q : j = (M23 a 58); (rw [q, yup_s]; rw [show (M23 a 58) = M a 58 by omega]; have hw : M142 (a + 24) (M a 58) = x114 := ((zup_p e155 (by omega) _).trans ((zup_p e153 (by omega) _).trans ((zup_p e151 (by omega) _).trans (zup_e e149 (by omega))))); have hv : M23 (a + 24) (M a 58) = M (a + 24) (M a 58) := ((hk27.getA rfl rfl rfl).trans (zup_p e8 (by omega) _)); omega); (rw [yup_n q]; exact ((zup_p e155 (by omega) _).trans ((zup_p e153 (by omega) _).trans ((zup_p e151 (by omega) _).trans ((zup_n e149 (by omega)).trans ((zup_p e139 (by omega) _).trans ((zup_p e137 (by omega) _).trans (zup_p e124 (by omega) _))))))))) (funext fun j => by by_cases q : j = (M23 a 58); (rw [q, yup_s]; rw [show (M23 a 58) = M a 58 by omega]; have hw : M142 (a + 25) (M a 58) = x120 := ((zup_p e155 (by omega) _).trans ((zup_p e153 (by omega) _).trans (zup_e e151 (by omega)))); have hv : M23 (a + 25) (M a 58) = M (a + 25) (M a 58) := ((hk27.getA rfl rfl rfl).trans (zup_p e8 (by omega) _)); omega); (rw [yup_n q]; exact ((zup_p e155 (by omega) _).trans ((zup_p e153 (by omega) _).trans ((zup_n e151 (by omega)).trans ((zup_p e149 (by omega) _).trans ((zup_p e139 (by omega) _).trans ((zup_p e137 (by omega) _).trans (zup_p e124 (by omega) _))))))))) (funext fun j => by by_cases q : j = (M23 a 58); (rw [q, yup_s]; rw [show (M23 a 58) = M a 58 by omega]; have hw : M142 (a + 26) (M a 58) = 1 := ((zup_p e155 (by omega) _).trans (zup_e e153 (by omega))); have hv : M23 (a + 26) (M a 58) = M (a + 26) (M a 58) := ((hk27.getA rfl rfl rfl).trans (zup_p e8 (by omega) _)); omega); (rw [yup_n q]; exact ((zup_p e155 (by omega) _).trans ((zup_n e153 (by omega)).trans ((zup_p e151 (by omega) _).trans ((zup_p e149 (by omega) _).trans ((zup_p e139 (by omega) _).trans ((zup_p e137 (by omega) _).trans (zup_p e124 (by omega) _))))))))) (funext fun j => by by_cases q : j = ((M23 a 57) + 1); (rw [q, yup_s]; rw [show ((M23 a 57) + 1) = (M a 57) + 1 by omega]; have hw : M142 (a + 27) ((M a 57) + 1) = M a 58 := ((zup_p e155 (by omega) _).trans ((zup_p e153 (by omega) _).trans ((zup_p e151 (by omega) _).trans ((zup_p e149 (by omega) _).trans ((zup_p e139 (by omega) _).trans (zup_e e137 (by omega))))))); have hv : M23 (a + 27) ((M a 57) + 1) = M (a + 27) ((M a 57) + 1) := ((hk27.getA rfl rfl rfl).trans (zup_p e8 (by omega) _)); omega); (rw [yup_n q]; exact ((zup_p e155 (by omega) _).trans ((zup_p e153 (by omega) _).trans ((zup_p e151 (by omega) _).trans ((zup_p e149 (by omega) _).trans ((zup_p e139 (by omega) _).trans ((zup_n e137 (by omega)).trans (zup_p e124 (by omega) _))))))))) (funext fun j => by by_cases q : j = ((M23 a 57) + 1); (rw [q, yup_s]; rw [show ((M23 a 57) + 1) = (M a 57) + 1 by omega]; have hw : M142 (a + 28) ((M a 57) + 1) = -1 := ((zup_p e155 (by omega) _).trans ((zup_p e153 (by omega) _).trans ((zup_p e151 (by omega) _).trans ((zup_p e149 (by omega) _).trans (zup_e e139 (by omega)))))); have hv : M23 (a + 28) ((M a 57) + 1) = M (a + 28) ((M a 57) + 1) := ((hk27.getA rfl rfl rfl).trans (zup_p e8 (by omega) _)); omega); (rw [yup_n q]; exact ((zup_p e155 (by omega) _).trans ((zup_p e153 (by omega) _).trans ((zup_p e151 (by omega) _).trans ((zup_p e149 (by omega) _).trans ((zup_n e139 (by omega)).trans ((zup_p e137 (by omega) _).trans (zup_p e124 (by omega) _))))))))) (funext fun j => ((zup_p e155 (by omega) _).trans ((zup_p e153 (by omega) _).trans ((zup_p e151 (by omega) _).trans ((zup_p e149 (by omega) _).trans ((zup_p e139 (by omega) _).trans ((zup_p e137 (by omega) _).trans (zup_p e124 (by omega) _)))))))) (funext fun j => ((zup_p e155 (by omega) _).trans ((zup_p e153 (by omega) _).trans ((zup_p e151 (by omega) _).trans ((zup_p e149 (by omega) _).trans ((zup_p e139 (by omega) _).trans ((zup_p e137 (by omega) _).trans (zup_p e124 (by omega) _)))))))) (funext fun j => ((zup_p e155 (by omega) _).trans ((zup_p e153 (by omega) _).trans ((zup_p e151 (by omega) _).trans ((zup_p e149 (by omega) _).trans ((zup_p e139 (by omega) _).trans ((zup_p e137 (by omega) _).trans (zup_p e124 (by omega) _)))))))) (funext fun j => ((zup_p e155 (by omega) _).trans ((zup_p e153 (by omega) _).trans ((zup_p e151 (by omega) _).trans ((zup_p e149 (by omega) _).trans ((zup_p e139 (by omega) _).trans ((zup_p e137 (by omega) _).trans (zup_p e124 (by omega) _)))))))) (funext fun j => ((zup_p e155 (by omega) _).trans ((zup_p e153 (by omega) _).trans ((zup_p e151 (by omega) _).trans ((zup_p e149 (by omega) _).trans ((zup_p e139 (by omega) _).trans ((zup_p e137 (by omega) _).trans (zup_p e124 (by omega) _)))))))) (funext fun j => ((zup_p e155 (by omega) _).trans ((zup_p e153 (by omega) _).trans ((zup_p e151 (by omega) _).trans ((zup_p e149 (by omega) _).trans ((zup_p e139 (by omega) _).trans ((zup_p e137 (by omega) _).trans (zup_p e124 (by omega) _)))))))) (funext fun j => ((zup_p e155 (by omega) _).trans ((zup_p e153 (by omega) _).trans ((zup_p e151 (by omega) _).trans ((zup_p e149 (by omega) _).trans ((zup_p e139 (by omega) _).trans ((zup_p e137 (by omega) _).trans (zup_p e124 (by omega) _)))))))) (funext fun j => ((zup_p e155 (by omega) _).trans ((zup_p e153 (by omega) _).trans ((zup_p e151 (by omega) _).trans ((zup_p e149 (by omega) _).trans ((zup_p e139 (by omega) _).trans ((zup_p e137 (by omega) _).trans (zup_p e124 (by omega) _))))))))
              refine q_iconst C dX12_replaces_277 (n := 278) rfl ?_
              have hp171 : zOg M142 a og lg := p2.cg (fun j => ((zup_p e155 (by omega) _).trans ((zup_p e153 (by omega) _).trans ((zup_p e151 (by omega) _).trans ((zup_p e149 (by omega) _).trans ((zup_p e139 (by omega) _).trans ((zup_p e137 (by omega) _).trans ((zup_p e124 (by omega) _).trans ((hk27.getA rfl rfl rfl).trans (zup_p e8 (by omega) _)))))))))) (fun j => ((zup_p e155 (by omega) _).trans ((zup_p e153 (by omega) _).trans ((zup_p e151 (by omega) _).trans ((zup_p e149 (by omega) _).trans ((zup_p e139 (by omega) _).trans ((zup_p e137 (by omega) _).trans ((zup_p e124 (by omega) _).trans ((hk27.getA rfl rfl rfl).trans (zup_p e8 (by omega) _))))))))))
              have hp172 : zMa M142 a mb mp := p3.cg (fun j j0 j1 => ((zup_p e155 (by omega) _).trans ((zup_p e153 (by omega) _).trans ((zup_p e151 (by omega) _).trans ((zup_p e149 (by omega) _).trans ((zup_p e139 (by omega) _).trans ((zup_p e137 (by omega) _).trans ((zup_p e124 (by omega) _).trans ((hk27.getA rfl rfl rfl).trans (zup_p e8 (by omega) _)))))))))) (fun j => ((zup_p e155 (by omega) _).trans ((zup_p e153 (by omega) _).trans ((zup_p e151 (by omega) _).trans ((zup_p e149 (by omega) _).trans ((zup_p e139 (by omega) _).trans ((zup_p e137 (by omega) _).trans ((zup_p e124 (by omega) _).trans ((hk27.getA rfl rfl rfl).trans (zup_p e8 (by omega) _))))))))))
              exact q_zret C dX12_replaces_278 ⟨rfl, rfl⟩ (by omega) (by rw [hPo]; exact ⟨1, M142, J143, rfl, rfl, hI144, hK147, by omega, Or.inr (zXs.mk hx170 (by have hw : M142 a 59 = M a 59 := ((zup_n e155 (by omega)).trans ((zup_p e153 (by omega) _).trans ((zup_p e151 (by omega) _).trans ((zup_p e149 (by omega) _).trans ((zup_p e139 (by omega) _).trans ((zup_p e137 (by omega) _).trans ((zup_n e124 (by omega)).trans ((hk27.getS rfl rfl).trans (zup_p e8 (by omega) _))))))))); omega)), Or.inr (by rw [zMz_of hx170]; have hn : n = M a 57 + 1 := (by omega); have h2 := zMu_open (M := M) (M2 := M142) (a := a) (f := M a 57) (x := x114) (y := x120) (by omega) (by omega) (by have hw : M142 a 57 = (M a 57) + 1 := ((zup_n e155 (by omega)).trans ((zup_p e153 (by omega) _).trans ((zup_p e151 (by omega) _).trans ((zup_p e149 (by omega) _).trans ((zup_p e139 (by omega) _).trans ((zup_p e137 (by omega) _).trans (zup_s e124))))))); omega) (by have hw : M142 a 58 = (M a 58) + 1 := (zup_s e155); omega) ((zup_n e155 (by omega)).trans ((zup_p e153 (by omega) _).trans ((zup_p e151 (by omega) _).trans ((zup_p e149 (by omega) _).trans ((zup_p e139 (by omega) _).trans ((zup_p e137 (by omega) _).trans ((zup_n e124 (by omega)).trans ((hk27.getS rfl rfl).trans (zup_p e8 (by omega) _))))))))) (fun j hj => ((zup_p e155 (by omega) _).trans ((zup_p e153 (by omega) _).trans ((zup_p e151 (by omega) _).trans ((zup_n e149 (by omega)).trans ((zup_p e139 (by omega) _).trans ((zup_p e137 (by omega) _).trans ((zup_p e124 (by omega) _).trans ((hk27.getA rfl rfl rfl).trans (zup_p e8 (by omega) _)))))))))) (fun j hj => ((zup_p e155 (by omega) _).trans ((zup_p e153 (by omega) _).trans ((zup_n e151 (by omega)).trans ((zup_p e149 (by omega) _).trans ((zup_p e139 (by omega) _).trans ((zup_p e137 (by omega) _).trans ((zup_p e124 (by omega) _).trans ((hk27.getA rfl rfl rfl).trans (zup_p e8 (by omega) _)))))))))) ((zup_p e155 (by omega) _).trans ((zup_p e153 (by omega) _).trans ((zup_p e151 (by omega) _).trans (zup_s e149)))) ((zup_p e155 (by omega) _).trans ((zup_p e153 (by omega) _).trans (zup_s e151))) (by omega) (fun j hj => ((zup_p e155 (by omega) _).trans ((zup_p e153 (by omega) _).trans ((zup_p e151 (by omega) _).trans ((zup_p e149 (by omega) _).trans ((zup_p e139 (by omega) _).trans ((zup_p e137 (by omega) _).trans ((zup_p e124 (by omega) _).trans ((hk27.getA rfl rfl rfl).trans (zup_n e8 (by omega))))))))))) (by have hw : M142 (a + 31) (M a 57) = (M (a + 31) (M a 57)) + 1 := ((zup_p e155 (by omega) _).trans ((zup_p e153 (by omega) _).trans ((zup_p e151 (by omega) _).trans ((zup_p e149 (by omega) _).trans ((zup_p e139 (by omega) _).trans ((zup_p e137 (by omega) _).trans ((zup_p e124 (by omega) _).trans ((hk27.getA rfl rfl rfl).trans (zup_s e8))))))))); omega); rw [hn]; omega), hp171, hp172⟩)
            · exact zK.weak (J_48) (zwk_c (zwk_c (zwk_c (zwk_n (zwk_c (zwk_n (zwk_n zwk_e)))))))
        · refine q_aload_n C dX12_replaces_155 (n := 156) rfl rfl ?_
          refine q_iload_n C dX12_replaces_156 (n := 157) rfl rfl ?_
          refine q_iload_n C dX12_replaces_157 (n := 158) rfl rfl ?_
          have hp173 : zOg M23 a og lg := p2.cg (fun j => ((hk27.getA rfl rfl rfl).trans (zup_p e8 (by omega) _))) (fun j => ((hk27.getA rfl rfl rfl).trans (zup_p e8 (by omega) _)))
          refine q_callVv C dX12_replaces_158 (n := 161) rfl m_X12_528 v_yX12_laysBody (zM0 h0) ⟨by decide, rfl⟩ (c_X12_laysBody (w := w) (J := J24) hI25 hF h0 (M (a + 28) (M a 57)) (M (a + 31) (M a 57)) (M a 57) (M23 a 60) h20 hp173 (by have hz174 : M23 a 57 = M a 57 := ((hk27.getS rfl rfl).trans (zup_p e8 (by omega) _)); omega) (by omega) (by omega) (by omega) (by have hz175 : M23 (a + 34) (M a 57) = M (a + 34) (M a 57) := ((hk27.getA rfl rfl rfl).trans (zup_p e8 (by omega) _)); omega) (by omega) (by omega)) (Nat.le_of_ble_eq_true rfl) rfl rfl (Nat.le_of_ble_eq_true rfl) ⟨Nat.le_refl _, Nat.le_refl _⟩ (fun M178 J179  hI180 h181 => ?_)
          obtain ⟨hk182, h176, h177⟩ := h181
          have hK183 := hK28.tr hk182 rfl rfl rfl
          refine q_iconst C dX12_replaces_161 (n := 162) rfl ?_
          have hp184 : zMa M178 a mb mp := p3.cg (fun j j0 j1 => ((hk182.getA rfl rfl rfl).trans ((hk27.getA rfl rfl rfl).trans (zup_p e8 (by omega) _)))) (fun j => ((hk182.getA rfl rfl rfl).trans ((hk27.getA rfl rfl rfl).trans (zup_p e8 (by omega) _))))
          exact q_zret C dX12_replaces_162 ⟨rfl, rfl⟩ (by omega) (by rw [hPo]; exact ⟨1, M178, J179, rfl, rfl, hI180, hK183, by omega, Or.inr (zXs.mk h176 (by have hw : M178 a 59 = M a 59 := ((hk182.getS rfl rfl).trans ((hk27.getS rfl rfl).trans (zup_p e8 (by omega) _))); omega)), Or.inr (by rw [zMz_of h176]; have hn : n = M a 57 + 1 := (by omega); have h2 := zMu_body (M := M) (M2 := M178) (a := a) (f := M a 57) (k := 1) (by omega) ((hk182.getS rfl rfl).trans ((hk27.getS rfl rfl).trans (zup_p e8 (by omega) _))) ((hk182.getS rfl rfl).trans ((hk27.getS rfl rfl).trans (zup_p e8 (by omega) _))) ((hk182.getS rfl rfl).trans ((hk27.getS rfl rfl).trans (zup_p e8 (by omega) _))) (fun j => ((hk182.getA rfl rfl rfl).trans ((hk27.getA rfl rfl rfl).trans (zup_p e8 (by omega) _)))) (fun j => ((hk182.getA rfl rfl rfl).trans ((hk27.getA rfl rfl rfl).trans (zup_p e8 (by omega) _)))) (fun j hj => ((hk182.getA rfl rfl rfl).trans ((hk27.getA rfl rfl rfl).trans (zup_n e8 (by omega))))) (by have hw : M178 (a + 31) (M a 57) = (M (a + 31) (M a 57)) + 1 := ((hk182.getA rfl rfl rfl).trans ((hk27.getA rfl rfl rfl).trans (zup_s e8))); omega); rw [hn]; omega), h177, hp184⟩)
      · have gb := (p3.1 (M (a + 28) (M a 57)) (by omega) (by omega)).2.2 (M (a + 31) (M a 57)) (by omega) (by omega)
        have gh := gb.2 (by omega) (by omega) (by omega) (by omega)
        refine q_aload_n C dX12_replaces_86 (n := 87) rfl rfl ?_
        refine q_getR C dX12_replaces_87 (n := 90) rfl f_X12_107 (zM0 h0) (hF _ _ _ (zM106 h0)) ?_
        refine q_aload_n C dX12_replaces_90 (n := 91) rfl rfl ?_
        refine q_getI C dX12_replaces_91 (n := 94) rfl f_X12_448 (zM0 h0) (v := M a 57) ((hk27.getS rfl rfl).trans (zup_p e8 (by omega) _)) ?_
        refine q_dup2 C dX12_replaces_94 (n := 95) rfl ⟨rfl, rfl⟩ ?_
        refine q_iald C dX12_replaces_95 (n := 96) rfl (zM107 h0) (by omega) (v := (M (a + 31) (M a 57)) + 1) ((hk27.getA rfl rfl rfl).trans (zup_s e8)) ?_
        refine q_iconst C dX12_replaces_96 (n := 97) rfl ?_
        refine q_iadd C dX12_replaces_97 (n := 98) rfl (v := ((M (a + 31) (M a 57)) + 1) + 1) rfl ?_
        refine q_iast C dX12_replaces_98 (n := 99) rfl (zM107 h0) (by omega)  (fun M185 e186 => ?_)
        have hI187 : zI G M185 := hI25.put e186 ((zM108 h0) (M a 57)) rfl (by omega)
        have hK188 := hK28.upA e186 rfl
        have hz189 : M23 a 62 = M a 62 := ((hk27.getS rfl rfl).trans (zup_p e8 (by omega) _))
        have hz190 : M23 a 57 = M a 57 := ((hk27.getS rfl rfl).trans (zup_p e8 (by omega) _))
        have hz191 : M23 a 58 = M a 58 := ((hk27.getS rfl rfl).trans (zup_p e8 (by omega) _))
        have hz192 : M23 a 59 = M a 59 := ((hk27.getS rfl rfl).trans (zup_p e8 (by omega) _))
        have hz193 : M23 a 26 = M a 26 := ((hk27.getS rfl rfl).trans (zup_p e8 (by omega) _))
        have hz194 : M23 a 25 = M a 25 := ((hk27.getS rfl rfl).trans (zup_p e8 (by omega) _))
        have hz195 : M23 a 24 = M a 24 := ((hk27.getS rfl rfl).trans (zup_p e8 (by omega) _))
        have hz196 : M23 a 61 = M a 61 := ((hk27.getS rfl rfl).trans (zup_p e8 (by omega) _))
        have hx197 : zX M185 a mb mp n A0 v (((u + 1) - 1) + 1) ((z + 3440) + 3440) := zY.cgr (Y_body h20 (by omega) (show M23 (a + 31) (M23 a 57) + 1 ≤ mb (M23 (a + 28) (M23 a 57)) from by rw [show M23 a 57 = M a 57 from ((hk27.getS rfl rfl).trans (zup_p e8 (by omega) _))]; have h1 : M23 (a + 31) (M a 57) = (M (a + 31) (M a 57)) + 1 := ((hk27.getA rfl rfl rfl).trans (zup_s e8)); have h2 : M23 (a + 28) (M a 57) = M (a + 28) (M a 57) := ((hk27.getA rfl rfl rfl).trans (zup_p e8 (by omega) _)); rw [h2]; omega)) (zup_p e186 (by omega) _) (zup_p e186 (by omega) _) (zup_p e186 (by omega) _) (zup_p e186 (by omega) _) (zup_p e186 (by omega) _) (zup_p e186 (by omega) _) (zup_p e186 (by omega) _) (zup_p e186 (by omega) _) (zup_p e186 (by omega) _) (funext fun j => (zup_p e186 (by omega) _)) (funext fun j => (zup_p e186 (by omega) _)) (funext fun j => (zup_p e186 (by omega) _)) (funext fun j => (zup_p e186 (by omega) _)) (funext fun j => (zup_p e186 (by omega) _)) (funext fun j => by by_cases q : j = (M23 a 57); (rw [q, yup_s]; rw [show (M23 a 57) = M a 57 by omega]; have hw : M185 (a + 31) (M a 57) = ((M (a + 31) (M a 57)) + 1) + 1 := (zup_e e186 (by omega)); have hv : M23 (a + 31) (M a 57) = (M (a + 31) (M a 57)) + 1 := ((hk27.getA rfl rfl rfl).trans (zup_s e8)); omega); (rw [yup_n q]; exact (zup_n e186 (by omega)))) (funext fun j => (zup_p e186 (by omega) _)) (funext fun j => (zup_p e186 (by omega) _)) (funext fun j => (zup_p e186 (by omega) _)) (funext fun j => (zup_p e186 (by omega) _)) (funext fun j => (zup_p e186 (by omega) _)) (funext fun j => (zup_p e186 (by omega) _)) (funext fun j => (zup_p e186 (by omega) _))
        refine q_aload_n C dX12_replaces_99 (n := 100) rfl rfl ?_
        refine q_aload_n C dX12_replaces_100 (n := 101) rfl rfl ?_
        refine q_getR C dX12_replaces_101 (n := 104) rfl f_X12_68 (zM0 h0) (hF _ _ _ (zM65 h0)) ?_
        refine q_sipush C dX12_replaces_104 (n := 107) rfl (x := 979) (by decide) ?_
        refine q_iload_n C dX12_replaces_107 (n := 108) rfl rfl ?_
        refine q_iload_n C dX12_replaces_108 (n := 109) rfl rfl ?_
        refine q_iconst C dX12_replaces_109 (n := 110) rfl ?_
        refine q_iadd C dX12_replaces_110 (n := 111) rfl (v := (M (a + 31) (M a 57)) + 1) rfl ?_
        refine q_callSp C dX12_replaces_111 (n := 114) rfl m_X12_412 s_yX12_bodyAt (c_X12_bodyAt (w := w) (J := J24) hI187 hF (M (a + 28) (M a 57)) ((M (a + 31) (M a 57)) + 1)) (Nat.le_of_ble_eq_true rfl) rfl rfl (Nat.le_of_ble_eq_true rfl) ⟨Nat.le_refl _, Nat.le_refl _⟩ (fun x199 h200 => ?_)
        obtain rfl : x199 = 20 * (M (a + 28) (M a 57)) + ((M (a + 31) (M a 57)) + 1) := h200
        refine q_iadd C dX12_replaces_114 (n := 115) rfl (v := 979 + (20 * (M (a + 28) (M a 57)) + ((M (a + 31) (M a 57)) + 1))) rfl ?_
        have g201 := zI.at hI (((zM67 h0) (979 + (20 * (M (a + 28) (M a 57)) + ((M (a + 31) (M a 57)) + 1)))).trans (zwG_979 (by omega)))
        refine q_iald C dX12_replaces_115 (n := 116) rfl (zM66 h0) (by omega) (v := M (a + 18) (979 + (20 * (M (a + 28) (M a 57)) + ((M (a + 31) (M a 57)) + 1)))) ((zup_p e186 (by omega) _).trans ((hk27.getA rfl rfl rfl).trans (zup_p e8 (by omega) _))) ?_
        refine q_aload_n C dX12_replaces_116 (n := 117) rfl rfl ?_
        refine q_getR C dX12_replaces_117 (n := 120) rfl f_X12_68 (zM0 h0) (hF _ _ _ (zM65 h0)) ?_
        refine q_sipush C dX12_replaces_120 (n := 123) rfl (x := 739) (by decide) ?_
        refine q_iload_n C dX12_replaces_123 (n := 124) rfl rfl ?_
        refine q_iload_n C dX12_replaces_124 (n := 125) rfl rfl ?_
        refine q_callSp C dX12_replaces_125 (n := 128) rfl m_X12_412 s_yX12_bodyAt (c_X12_bodyAt (w := w) (J := J24) hI187 hF (M (a + 28) (M a 57)) (M (a + 31) (M a 57))) (Nat.le_of_ble_eq_true rfl) rfl rfl (Nat.le_of_ble_eq_true rfl) ⟨Nat.le_refl _, Nat.le_refl _⟩ (fun x203 h204 => ?_)
        obtain rfl : x203 = 20 * (M (a + 28) (M a 57)) + (M (a + 31) (M a 57)) := h204
        refine q_iadd C dX12_replaces_128 (n := 129) rfl (v := 739 + (20 * (M (a + 28) (M a 57)) + (M (a + 31) (M a 57)))) rfl ?_
        have g205 := zI.at hI (((zM67 h0) (739 + (20 * (M (a + 28) (M a 57)) + (M (a + 31) (M a 57))))).trans (zwG_739 (by omega)))
        refine q_iald C dX12_replaces_129 (n := 130) rfl (zM66 h0) (by omega) (v := M (a + 18) (739 + (20 * (M (a + 28) (M a 57)) + (M (a + 31) (M a 57))))) ((zup_p e186 (by omega) _).trans ((hk27.getA rfl rfl rfl).trans (zup_p e8 (by omega) _))) ?_
        have hp206 : zOg M185 a og lg := p2.cg (fun j => ((zup_p e186 (by omega) _).trans ((hk27.getA rfl rfl rfl).trans (zup_p e8 (by omega) _)))) (fun j => ((zup_p e186 (by omega) _).trans ((hk27.getA rfl rfl rfl).trans (zup_p e8 (by omega) _))))
        have hp207 : zMa M185 a mb mp := p3.cg (fun j j0 j1 => ((zup_p e186 (by omega) _).trans ((hk27.getA rfl rfl rfl).trans (zup_p e8 (by omega) _)))) (fun j => ((zup_p e186 (by omega) _).trans ((hk27.getA rfl rfl rfl).trans (zup_p e8 (by omega) _))))
        refine q_callVi C dX12_replaces_130 (n := 133) rfl m_X12_525 v_yX12_makes (zM0 h0) ⟨by decide, rfl⟩ (c_X12_makes (w := w) (J := J24) hI187 hF h0 (M (a + 18) (979 + (20 * (M (a + 28) (M a 57)) + ((M (a + 31) (M a 57)) + 1)))) (M (a + 18) (739 + (20 * (M (a + 28) (M a 57)) + (M (a + 31) (M a 57))))) (M a 57) (M23 a 60) hx197 hp206 hp207 (by have hz208 : M185 a 57 = M a 57 := ((zup_p e186 (by omega) _).trans ((hk27.getS rfl rfl).trans (zup_p e8 (by omega) _))); omega) (by have hz209 : M185 a 60 = M23 a 60 := (zup_p e186 (by omega) _); omega) (by omega) (by have hz210 : M185 (a + 38) ((M23 a 60) - 1) = M23 (a + 38) ((M23 a 60) - 1) := (zup_p e186 (by omega) _); omega) (by have hz211 : M185 (a + 34) (M a 57) = M (a + 34) (M a 57) := ((zup_p e186 (by omega) _).trans ((hk27.getA rfl rfl rfl).trans (zup_p e8 (by omega) _))); omega) (by omega) (by omega)) (Nat.le_of_ble_eq_true rfl) rfl rfl (Nat.le_of_ble_eq_true rfl) ⟨Nat.le_refl _, Nat.le_refl _⟩ (fun x220 M216 J217  hI218 h219 => ?_)
        obtain ⟨hk221, h212, h213, h214, h215⟩ := h219
        have hK222 := hK188.tr hk221 rfl rfl rfl
        exact q_zret C dX12_replaces_133 ⟨rfl, rfl⟩ (by omega) (by rw [hPo]; exact ⟨x220, M216, J217, rfl, rfl, hI218, hK222, by omega, (Decidable.em (x220 = 0)).imp id (fun q => zXs.mk (h213.resolve_left q) (by have hw : M216 a 59 = M a 59 := ((hk221.getS rfl rfl).trans ((zup_p e186 (by omega) _).trans ((hk27.getS rfl rfl).trans (zup_p e8 (by omega) _)))); omega)), (Decidable.em (x220 = 0)).imp id (fun q => by have h1 := h213.resolve_left q; rw [zMz_of h1]; have hn : n = M a 57 + 1 := (by omega); have h2 := zMu_body (M := M) (M2 := M216) (a := a) (f := M a 57) (k := 2) (by omega) ((hk221.getS rfl rfl).trans ((zup_p e186 (by omega) _).trans ((hk27.getS rfl rfl).trans (zup_p e8 (by omega) _)))) ((hk221.getS rfl rfl).trans ((zup_p e186 (by omega) _).trans ((hk27.getS rfl rfl).trans (zup_p e8 (by omega) _)))) ((hk221.getS rfl rfl).trans ((zup_p e186 (by omega) _).trans ((hk27.getS rfl rfl).trans (zup_p e8 (by omega) _)))) (fun j => ((hk221.getA rfl rfl rfl).trans ((zup_p e186 (by omega) _).trans ((hk27.getA rfl rfl rfl).trans (zup_p e8 (by omega) _))))) (fun j => ((hk221.getA rfl rfl rfl).trans ((zup_p e186 (by omega) _).trans ((hk27.getA rfl rfl rfl).trans (zup_p e8 (by omega) _))))) (fun j hj => ((hk221.getA rfl rfl rfl).trans ((zup_n e186 (by omega)).trans ((hk27.getA rfl rfl rfl).trans (zup_n e8 (by omega)))))) (by have hw : M216 (a + 31) (M a 57) = ((M (a + 31) (M a 57)) + 1) + 1 := ((hk221.getA rfl rfl rfl).trans (zup_s e186)); omega); rw [hn]; omega), h214, h215⟩)
    · refine q_iconst C dX12_replaces_61 (n := 62) rfl ?_
      have hp223 : zOg M7 a og lg := p2.cg (fun j => (zup_p e8 (by omega) _)) (fun j => (zup_p e8 (by omega) _))
      have hp224 : zMa M7 a mb mp := p3.cg (fun j j0 j1 => (zup_p e8 (by omega) _)) (fun j => (zup_p e8 (by omega) _))
      exact q_zret C dX12_replaces_62 ⟨rfl, rfl⟩ (by omega) (by rw [hPo]; exact ⟨1, M7, J, rfl, rfl, hI9, hK10, by omega, Or.inr (zXs.mk hx11 (by have hw : M7 a 59 = M a 59 := (zup_p e8 (by omega) _); omega)), Or.inr (by rw [zMz_of hx11]; have hn : n = M a 57 + 1 := (by omega); have h2 := zMu_body (M := M) (M2 := M7) (a := a) (f := M a 57) (k := 1) (by omega) (zup_p e8 (by omega) _) (zup_p e8 (by omega) _) (zup_p e8 (by omega) _) (fun j => (zup_p e8 (by omega) _)) (fun j => (zup_p e8 (by omega) _)) (fun j hj => (zup_n e8 (by omega))) (by have hw : M7 (a + 31) (M a 57) = (M (a + 31) (M a 57)) + 1 := (zup_s e8); omega); rw [hn]; omega), hp223, hp224⟩)
  · refine q_aload_n C dX12_replaces_34 (n := 35) rfl rfl ?_
    refine q_callVi C dX12_replaces_35 (n := 38) rfl m_X12_512 v_yX12_builds (zM0 h0) ⟨by decide, rfl⟩ (c_X12_builds (w := w) (J := J) hI hF h0 (M a 57) p1 p2 p3 (by omega) (by omega)) (Nat.le_of_ble_eq_true rfl) rfl rfl (Nat.le_of_ble_eq_true rfl) ⟨Nat.le_refl _, Nat.le_refl _⟩ (fun x235 M231 J232  hI233 h234 => ?_)
    obtain ⟨hk236, h225, h226, h227, h228, h229, h230⟩ := h234
    have hK237 := hK0.tr hk236 rfl rfl rfl
    exact q_zret C dX12_replaces_38 ⟨rfl, rfl⟩ (by omega) (by rw [hPo]; exact ⟨x235, M231, J232, rfl, rfl, hI233, hK237, by omega, (Decidable.em (x235 = 0)).imp id (fun q => zXs.mk (h226.resolve_left q) (by have hw := h230.resolve_left q; omega)), (Decidable.em (x235 = 0)).imp id (fun q => by have h1 := h226.resolve_left q; have h2 := h227.resolve_left q; rw [zMz_of h1]; have hn : n = M a 57 + 1 := (by omega); rw [hn]; omega), h228, h229⟩)
