theorem zFi.mo {T : zTl} {F : zRm'} {G : zGt} {M : zMm} {a : Nat} {k l : Int} (h : zFi M a) (hI : zI G M) (h0 : zModel T F G a) (hk : 0 ≤ k ∧ k ≤ 3) (hl : 0 ≤ l ∧ l ≤ M (a + 2) (4 + k)) : 0 ≤ zSum (M (a + 2)) (8 + 40 * k) l.toNat ∧ zSum (M (a + 2)) (8 + 40 * k) l.toNat ≤ zSum (M (a + 2)) (8 + 40 * k) (M (a + 2) (4 + k)).toNat ∧ zSum (M (a + 2)) (8 + 40 * k) (M (a + 2) (4 + k)).toNat ≤ 400 ∧ (M (a + 2) (4 + k) ≤ l ∨ zSum (M (a + 2)) (8 + 40 * k) l.toNat + M (a + 2) (8 + 40 * k + l) ≤ zSum (M (a + 2)) (8 + 40 * k) (M (a + 2) (4 + k)).toNat) := by
  have hs := h k hk.1 hk.2
  have hn := zI.at hI ((zM9 h0 (4 + k)).trans (zfG_4 (by omega)))
  have hp : ∀ j : Nat, j < 40 → 0 ≤ M (a + 2) (8 + 40 * k + j) := fun j hj => (zI.at hI ((zM9 h0 (8 + 40 * k + j)).trans (zfG_8 (by omega)))).1
  have z0 := zSum_mo (g := M (a + 2)) (b := 8 + 40 * k) 0 l.toNat (fun j hj => hp j (by omega))
  rw [Nat.zero_add] at z0
  have e : (M (a + 2) (4 + k)).toNat = l.toNat + ((M (a + 2) (4 + k)).toNat - l.toNat) := by omega
  have z1 := zSum_mo (g := M (a + 2)) (b := 8 + 40 * k) l.toNat ((M (a + 2) (4 + k)).toNat - l.toNat) (fun j hj => hp j (by omega))
  rw [← e] at z1
  refine ⟨z0, z1, hs, ?_⟩
  by_cases hq : M (a + 2) (4 + k) ≤ l
  · exact Or.inl hq
  · refine Or.inr ?_
    have z2 := zSum_mo (g := M (a + 2)) (b := 8 + 40 * k) (l + 1).toNat ((M (a + 2) (4 + k)).toNat - (l + 1).toNat) (fun j hj => hp j (by omega))
    rw [show (l + 1).toNat + ((M (a + 2) (4 + k)).toNat - (l + 1).toNat) = (M (a + 2) (4 + k)).toNat by omega, zSum_s hl.1] at z2
    omega
theorem zSum_up {g h : Int → Int} {b : Int} {l m : Nat} (e : ∀ i : Nat, i < m → i ≠ l → h (b + i) = g (b + i)) : ∀ (n : Nat), n ≤ m → l < n → zSum h b n + g (b + l) = zSum g b n + h (b + l)
  | 0, _, h2 => absurd h2 (Nat.not_lt_zero _)
  | n + 1, h1, h2 => by
    have e1 : zSum h b (n + 1) = zSum h b n + h (b + (n : Int)) := rfl
    have e2 : zSum g b (n + 1) = zSum g b n + g (b + (n : Int)) := rfl
    by_cases q : l = n
    · subst q
      rw [e1, e2, zSum_cg (g := h) (h := g) l (fun i hi => e i (by omega) (by omega))]
      omega
    · have ih := zSum_up e n (by omega) (by omega)
      rw [e1, e2, e n (by omega) (by omega)]
      omega
theorem zEd_fi {T : zTl} {F : zRm'} {G : zGt} {M Mx M1 M2 : zMm} {a : Nat} {k l x n : Int} (e0 : ∀ j, Mx (a + 2) j = M (a + 2) j) (e1 : M1 = zup Mx (a + 2) (8 + 40 * k + l) x) (e2 : M2 = zup M1 (a + 2) (4 + k) n) (f : zFi M a) (hI : zI G M) (h0 : zModel T F G a) (hk : 0 ≤ k ∧ k ≤ 3) (hl : 0 ≤ l ∧ l ≤ 39) (hn : l < M (a + 2) (4 + k) ∧ n = M (a + 2) (4 + k) ∧ zSum (M (a + 2)) (8 + 40 * k) (M (a + 2) (4 + k)).toNat - M (a + 2) (8 + 40 * k + l) + x ≤ 400 ∨ l = M (a + 2) (4 + k) ∧ n = l + 1 ∧ zSum (M (a + 2)) (8 + 40 * k) (M (a + 2) (4 + k)).toNat + x ≤ 400) : zFi M2 a := fun q q0 q3 => by
  have hq := zI.at hI ((zM9 h0 (4 + q)).trans (zfG_4 (by omega)))
  have c : ∀ j, j ≠ 4 + k → j ≠ 8 + 40 * k + l → M2 (a + 2) j = M (a + 2) j := fun j j1 j2 => by
    rw [zup_n e2 (by omega), zup_n e1 (by omega), e0]
  have c4 : M2 (a + 2) (4 + k) = n := zup_s e2
  have cl : M2 (a + 2) (8 + 40 * k + l) = x := by rw [zup_n e2 (by omega), zup_s e1]
  by_cases z : q = k
  · subst z
    rw [c4]
    rcases hn with ⟨h1, h2, h3⟩ | ⟨h1, h2, h3⟩
    · have hu := zSum_up (g := M (a + 2)) (h := M2 (a + 2)) (b := 8 + 40 * q) (l := l.toNat) (m := 40) (fun i i0 i1 => c _ (by omega) (by omega)) n.toNat (by omega) (by omega)
      rw [show ((l.toNat : Nat) : Int) = l by omega, cl] at hu
      rw [← h2] at h3
      omega
    · rw [h2, zSum_s hl.1, cl, zSum_cg (g := M2 (a + 2)) (h := M (a + 2)) l.toNat (fun i hi => c _ (by omega) (by omega))]
      rw [← h1] at h3
      omega
  · rw [c (4 + q) (by omega) (by omega), zSum_cg (g := M2 (a + 2)) (h := M (a + 2))]
    · exact f q q0 q3
    · intro i hi
      exact c _ (by omega) (by omega)
theorem c_X12_edit {w : zWp} {T : zTl} {M : zMm} {J : zJm} {R : zRm'} {G : zGt} {F : zRm'} {a : Nat} (hI : zI G M) (hF : zF F R) (h0 : zModel T F G a) (v1 : Int) (v2 : Int) (p1 : zFi M a) (p2 : -2147483648 ≤ v1 ∧ v1 ≤ 2147483647) (p3 : -2147483648 ≤ v2 ∧ v2 ≤ 2147483647) : zCt w 3 0 0 yX12_edit cX12_edit 12 (some .int) [.ref (w.2.1 + a), zi v1, zi v2] (T, M, J, R) (zPi T R G (fun x M2 => (zMd a [2, 4] [0, 2, 3, 9] [] M M2) ∧ (zFi M2 a) ∧ (M2 a 2 = 0))) := by
  refine zCt.of rfl (Nat.le_of_ble_eq_true rfl) ?_
  intro p e s m args below meth c C
  obtain ⟨Po, hPo⟩ : ∃ Po, Po = zPi T R G (fun x M2 => (zMd a [2, 4] [0, 2, 3, 9] [] M M2) ∧ (zFi M2 a) ∧ (M2 a 2 = 0)) := ⟨_, rfl⟩
  rw [← hPo]
  have hK0 : zMd a [2, 4] [0, 2, 3, 9] [] M M := zMd.rf
  have gk_length := zI.at hI (zM5 h0)
  have gk_size := zI.at hI (zM6 h0)
  show zK w p e 3 0 0 s m args below meth c 12 T Po 0 [.ref (w.2.1 + a), zi v1, zi v2, .null, .null, .null, .null, .null, .null, .null, .null, .null] [] (T, M, J, R)
  refine q_aload_n C dX12_edit_0 (n := 1) rfl rfl ?_
  refine q_callVv C dX12_edit_1 (n := 4) rfl m_X12_293 v_yX12_taken (zM0 h0) ⟨by decide, rfl⟩ (c_X12_taken (w := w) (J := J) hI hF h0) (Nat.le_of_ble_eq_true rfl) rfl rfl (Nat.le_of_ble_eq_true rfl) ⟨Nat.le_refl _, Nat.le_refl _⟩ (fun M3 J4  hI5 h6 => ?_)
  obtain ⟨hk7, h1, h2⟩ := h6
  have hK8 := hK0.tr hk7 rfl rfl rfl
  refine q_aload_n C dX12_edit_4 (n := 5) rfl rfl ?_
  refine q_iload_n C dX12_edit_5 (n := 6) rfl rfl ?_
  refine q_callVp C dX12_edit_6 (n := 9) rfl m_X12_281 v_yX12_isFile (zM0 h0) ⟨by decide, rfl⟩ (c_X12_isFile (w := w) (J := J4) hI5 hF h0 v1 (by omega)) (Nat.le_of_ble_eq_true rfl) rfl rfl (Nat.le_of_ble_eq_true rfl) ⟨Nat.le_refl _, Nat.le_refl _⟩ (fun x11 h12 => ?_)
  obtain ⟨h9, h10⟩ := h12
  refine q_if_eq C 25 dX12_edit_9 (n := 12) rfl rfl (by omega) (fun h13 => ?_) (fun h13 => ?_)
  · refine q_bipush C dX12_edit_25 (n := 27) rfl (x := (-2)) (by decide) ?_
    have hp14 : zFi M3 a := p1.cg (fun j => (hk7.getA rfl rfl rfl))
    exact q_iret C dX12_edit_27 ⟨rfl, rfl⟩ (by rw [hPo]; exact ⟨(-2), M3, J4, rfl, rfl, hI5, hK8, hp14, by omega⟩)
  · refine q_iload_n C dX12_edit_12 (n := 13) rfl rfl ?_
    refine q_iconst C dX12_edit_13 (n := 14) rfl ?_
    refine q_aload_n C dX12_edit_14 (n := 15) rfl rfl ?_
    refine q_iload_n C dX12_edit_15 (n := 16) rfl rfl ?_
    refine q_callVp C dX12_edit_16 (n := 19) rfl m_X12_285 v_yX12_linesOf (zM0 h0) ⟨by decide, rfl⟩ (c_X12_linesOf (w := w) (J := J4) hI5 hF h0 v1 (by omega)) (Nat.le_of_ble_eq_true rfl) rfl rfl (Nat.le_of_ble_eq_true rfl) ⟨Nat.le_refl _, Nat.le_refl _⟩ (fun x17 h18 => ?_)
    obtain ⟨h15, h16⟩ := h18
    have hz19 : M3 (a + 2) (4 + v1) = M (a + 2) (4 + v1) := (hk7.getA rfl rfl rfl)
    refine q_callSp C dX12_edit_19 (n := 22) rfl m_X12_277 s_yX12_isIn (c_X12_isIn (w := w) (J := J4) hI5 hF v2 0 x17 (by omega) (by omega) (by omega)) (Nat.le_of_ble_eq_true rfl) rfl rfl (Nat.le_of_ble_eq_true rfl) ⟨Nat.le_refl _, Nat.le_refl _⟩ (fun x23 h24 => ?_)
    obtain ⟨h20, h21, h22⟩ := h24
    refine q_if_ne C 28 dX12_edit_22 (n := 25) rfl rfl (by omega) (fun h25 => ?_) (fun h25 => ?_)
    · refine q_aload_n C dX12_edit_28 (n := 29) rfl rfl ?_
      refine q_iconst C dX12_edit_29 (n := 30) rfl ?_
      refine q_callVp C dX12_edit_30 (n := 33) rfl m_X12_296 v_yX12_badByte (zM0 h0) ⟨by decide, rfl⟩ (c_X12_badByte (w := w) (J := J4) hI5 hF h0 0 (by omega)) (Nat.le_of_ble_eq_true rfl) rfl rfl (Nat.le_of_ble_eq_true rfl) ⟨Nat.le_refl _, Nat.le_refl _⟩ (fun x27 h28 => ?_)
      refine q_istore_n C [.ref (w.2.1 + a), zi v1, zi v2, zi x27, .null, .null, .null, .null, .null, .null, .null, .null] dX12_edit_33 (n := 34) rfl rfl rfl ?_
      refine q_iload_n C dX12_edit_34 (n := 35) rfl rfl ?_
      refine q_if_lt C 44 dX12_edit_35 (n := 38) rfl rfl (by omega) (fun h29 => ?_) (fun h29 => ?_)
      · have gz0 := zSum_0 (g := M (a + 2)) (b := 8 + 40 * v1)
        have gc : 39 < v2 ∨ 0 ≤ M (a + 2) (8 + 40 * v1 + v2) ∧ M (a + 2) (8 + 40 * v1 + v2) ≤ 440 := (Decidable.em (39 < v2)).imp id (fun h => zI.at hI ((zM9 h0 (8 + 40 * v1 + v2)).trans (zfG_8 (by omega))))
        refine q_aload_n C dX12_edit_44 (n := 45) rfl rfl ?_
        refine q_iload_n C dX12_edit_45 (n := 46) rfl rfl ?_
        refine q_callVp C dX12_edit_46 (n := 49) rfl m_X12_285 v_yX12_linesOf (zM0 h0) ⟨by decide, rfl⟩ (c_X12_linesOf (w := w) (J := J4) hI5 hF h0 v1 (by omega)) (Nat.le_of_ble_eq_true rfl) rfl rfl (Nat.le_of_ble_eq_true rfl) ⟨Nat.le_refl _, Nat.le_refl _⟩ (fun x32 h33 => ?_)
        obtain ⟨h30, h31⟩ := h33
        have hz34 : M3 (a + 2) (4 + v1) = M (a + 2) (4 + v1) := (hk7.getA rfl rfl rfl)
        refine q_istore C [.ref (w.2.1 + a), zi v1, zi v2, zi x27, zi x32, .null, .null, .null, .null, .null, .null, .null] dX12_edit_49 (n := 51) rfl rfl rfl ?_
        refine q_iload_n C dX12_edit_51 (n := 52) rfl rfl ?_
        refine q_iload C dX12_edit_52 (n := 54) rfl rfl ?_
        have J_38 : ∀ (u35 : Int), (-2147483648 ≤ u35 ∧ u35 ≤ 2147483647) → (v2 = M (a + 2) (4 + v1) ∧ u35 = v2 + 1 ∨ v2 < M (a + 2) (4 + v1) ∧ u35 = M (a + 2) (4 + v1)) → zK w p e 3 0 0 s m args below meth c 12 T Po 66 [.ref (w.2.1 + a), zi v1, zi v2, .null, zi x32, .null, .null, .null, .null, .null, .null, .null] [zi u35] (T, M3, J4, R) := by
          intro u35 h36 h37
          refine q_istore C [.ref (w.2.1 + a), zi v1, zi v2, .null, zi x32, zi u35, .null, .null, .null, .null, .null, .null] dX12_edit_66 (n := 68) rfl rfl rfl ?_
          refine q_aload_n C dX12_edit_68 (n := 69) rfl rfl ?_
          have g39 := zI.at hI5 (zM6 h0)
          refine q_getI C dX12_edit_69 (n := 72) rfl f_X12_274 (zM0 h0) (v := M3 a 3) rfl ?_
          refine q_iconst C dX12_edit_72 (n := 73) rfl ?_
          refine q_iadd C dX12_edit_73 (n := 74) rfl (v := (M3 a 3) + 1) rfl ?_
          refine q_istore C [.ref (w.2.1 + a), zi v1, zi v2, .null, zi x32, zi u35, zi ((M3 a 3) + 1), .null, .null, .null, .null, .null] dX12_edit_74 (n := 76) rfl rfl rfl ?_
          refine q_iconst C dX12_edit_76 (n := 77) rfl ?_
          refine q_istore C [.ref (w.2.1 + a), zi v1, zi v2, .null, zi x32, zi u35, zi ((M3 a 3) + 1), zi 0, .null, .null, .null, .null] dX12_edit_77 (n := 79) rfl rfl rfl ?_
          have L_46 : ∀ n47 : Nat, ∀ (u40 : Int) (u41 : Int), (-2147483648 ≤ u40 ∧ u40 ≤ 2147483647) → (-2147483648 ≤ u41 ∧ u41 ≤ 2147483647) → (0 ≤ u41 ∧ u41 ≤ x32) → (u41 ≤ v2 ∧ u40 = M a 2 + 1 + zSum (M (a + 2)) (8 + 40 * v1) (u41 : Int).toNat + u41 ∨ v2 < u41 ∧ u40 = M a 2 + zSum (M (a + 2)) (8 + 40 * v1) (u41 : Int).toNat + u41 - M (a + 2) (8 + 40 * v1 + v2)) → (41 - u41 ≤ (n47 : Int)) → zK w p e 3 0 0 s m args below meth c 12 T Po 79 [.ref (w.2.1 + a), zi v1, zi v2, .null, zi x32, zi u35, zi u40, zi u41, .null, .null, .null, .null] [] (T, M3, J4, R) := by
            intro n47
            induction n47 with
            | zero =>
              intro u40 u41 h42 h43 h44 h45 hm49
              exfalso
              omega
            | succ n47 ih48 =>
              intro u40 u41 h42 h43 h44 h45 hm49
              refine q_iload C dX12_edit_79 (n := 81) rfl rfl ?_
              refine q_iload C dX12_edit_81 (n := 83) rfl rfl ?_
              refine q_icmp_ge C 112 dX12_edit_83 (n := 86) rfl rfl (by omega) (fun h50 => ?_) (fun h50 => ?_)
              · have gmo := zFi.mo p1 hI h0 (k := v1) (l := v2) (by omega) (by omega)
                have gq : zSum (M (a + 2)) (8 + 40 * v1) (u41 : Int).toNat = zSum (M (a + 2)) (8 + 40 * v1) (M (a + 2) (4 + v1)).toNat := by rw [show (u41 : Int) = M (a + 2) (4 + v1) by omega]
                refine q_iload C dX12_edit_112 (n := 114) rfl rfl ?_
                refine q_sipush C dX12_edit_114 (n := 117) rfl (x := 400) (by decide) ?_
                refine q_icmp_gt C 127 dX12_edit_117 (n := 120) rfl rfl (by omega) (fun h51 => ?_) (fun h51 => ?_)
                · refine q_bipush C dX12_edit_127 (n := 129) rfl (x := (-3)) (by decide) ?_
                  have hp52 : zFi M3 a := p1.cg (fun j => (hk7.getA rfl rfl rfl))
                  exact q_iret C dX12_edit_129 ⟨rfl, rfl⟩ (by rw [hPo]; exact ⟨(-3), M3, J4, rfl, rfl, hI5, hK8, hp52, by omega⟩)
                · refine q_iload C dX12_edit_120 (n := 122) rfl rfl ?_
                  refine q_bipush C dX12_edit_122 (n := 124) rfl (x := 40) (by decide) ?_
                  refine q_icmp_le C 130 dX12_edit_124 (n := 127) rfl rfl (by omega) (fun h53 => ?_) (fun h53 => ?_)
                  · refine q_aload_n C dX12_edit_130 (n := 131) rfl rfl ?_
                    refine q_iload_n C dX12_edit_131 (n := 132) rfl rfl ?_
                    refine q_iload_n C dX12_edit_132 (n := 133) rfl rfl ?_
                    have hp54 : zFi M3 a := p1.cg (fun j => (hk7.getA rfl rfl rfl))
                    refine q_callVp C dX12_edit_133 (n := 136) rfl m_X12_321 v_yX12_beginOf (zM0 h0) ⟨by decide, rfl⟩ (c_X12_beginOf (w := w) (J := J4) hI5 hF h0 v1 v2 hp54 (by omega) (by have hz55 : M3 (a + 2) (4 + v1) = M (a + 2) (4 + v1) := (hk7.getA rfl rfl rfl); omega)) (Nat.le_of_ble_eq_true rfl) rfl rfl (Nat.le_of_ble_eq_true rfl) ⟨Nat.le_refl _, Nat.le_refl _⟩ (fun x59 h60 => ?_)
                    obtain ⟨h56, h57, h58⟩ := h60
                    have hz61 : M3 (a + 2) (4 + v1) = M (a + 2) (4 + v1) := (hk7.getA rfl rfl rfl)
                    have hz62 : M3 (a + 2) (8 + 40 * v1 + v2) = M (a + 2) (8 + 40 * v1 + v2) := (hk7.getA rfl rfl rfl)
                    have gM1 : M3 (a + 2) = M (a + 2) := funext (fun j => (hk7.getA rfl rfl rfl))
                    have gs1 : zSum (M3 (a + 2)) (8 + 40 * v1) v2.toNat = zSum (M (a + 2)) (8 + 40 * v1) v2.toNat := by rw [gM1]
                    refine q_istore C [.ref (w.2.1 + a), zi v1, zi v2, .null, zi x32, zi u35, zi u40, zi x59, .null, .null, .null, .null] dX12_edit_136 (n := 138) rfl rfl rfl ?_
                    refine q_aload_n C dX12_edit_138 (n := 139) rfl rfl ?_
                    refine q_iload_n C dX12_edit_139 (n := 140) rfl rfl ?_
                    refine q_iload C dX12_edit_140 (n := 142) rfl rfl ?_
                    refine q_callVp C dX12_edit_142 (n := 145) rfl m_X12_321 v_yX12_beginOf (zM0 h0) ⟨by decide, rfl⟩ (c_X12_beginOf (w := w) (J := J4) hI5 hF h0 v1 x32 hp54 (by omega) (by have hz63 : M3 (a + 2) (4 + v1) = M (a + 2) (4 + v1) := (hk7.getA rfl rfl rfl); omega)) (Nat.le_of_ble_eq_true rfl) rfl rfl (Nat.le_of_ble_eq_true rfl) ⟨Nat.le_refl _, Nat.le_refl _⟩ (fun x67 h68 => ?_)
                    obtain ⟨h64, h65, h66⟩ := h68
                    have hz69 : M3 (a + 2) (4 + v1) = M (a + 2) (4 + v1) := (hk7.getA rfl rfl rfl)
                    have hz70 : M3 (a + 2) (8 + 40 * v1 + x32) = M (a + 2) (8 + 40 * v1 + x32) := (hk7.getA rfl rfl rfl)
                    have gM2 : M3 (a + 2) = M (a + 2) := funext (fun j => (hk7.getA rfl rfl rfl))
                    have gs2 : zSum (M3 (a + 2)) (8 + 40 * v1) (x32 : Int).toNat = zSum (M (a + 2)) (8 + 40 * v1) (M (a + 2) (4 + v1)).toNat := by rw [gM2, show (x32 : Int) = M (a + 2) (4 + v1) by omega]
                    refine q_istore C [.ref (w.2.1 + a), zi v1, zi v2, .null, zi x32, zi u35, zi u40, zi x59, zi x67, .null, .null, .null] dX12_edit_145 (n := 147) rfl rfl rfl ?_
                    refine q_iload_n C dX12_edit_147 (n := 148) rfl rfl ?_
                    refine q_iload C dX12_edit_148 (n := 150) rfl rfl ?_
                    have J_74 : ∀ (u71 : Int), (-2147483648 ≤ u71 ∧ u71 ≤ 2147483647) → (v2 < M (a + 2) (4 + v1) ∧ u71 = M (a + 2) (8 + 40 * v1 + v2) ∨ v2 = M (a + 2) (4 + v1) ∧ u71 = 0) → zK w p e 3 0 0 s m args below meth c 12 T Po 163 [.ref (w.2.1 + a), zi v1, zi v2, .null, .null, zi u35, .null, zi x59, zi x67, .null, .null, .null] [zi u71] (T, M3, J4, R) := by
                      intro u71 h72 h73
                      refine q_istore C [.ref (w.2.1 + a), zi v1, zi v2, .null, .null, zi u35, .null, zi x59, zi x67, zi u71, .null, .null] dX12_edit_163 (n := 165) rfl rfl rfl ?_
                      refine q_aload_n C dX12_edit_165 (n := 166) rfl rfl ?_
                      refine q_getI C dX12_edit_166 (n := 169) rfl f_X12_274 (zM0 h0) (v := M3 a 3) rfl ?_
                      refine q_iload C dX12_edit_169 (n := 171) rfl rfl ?_
                      refine q_isub C dX12_edit_171 (n := 172) rfl (v := (M3 a 3) - u71) rfl ?_
                      refine q_istore C [.ref (w.2.1 + a), zi v1, zi v2, .null, .null, zi u35, .null, zi x59, zi x67, zi u71, zi ((M3 a 3) - u71), .null] dX12_edit_172 (n := 174) rfl rfl rfl ?_
                      refine q_iload C dX12_edit_174 (n := 176) rfl rfl ?_
                      have J_81 : ∀ (M76 : zMm) (J77 : zJm), zI G M76 → zMd a [2, 4] [0, 2, 3, 9] [] M M76 → zMd a [4] [] [] M3 M76 → zK w p e 3 0 0 s m args below meth c 12 T Po 258 [.ref (w.2.1 + a), zi v1, zi v2, .null, .null, zi u35, .null, zi x59, .null, .null, .null, .null] [] (T, M76, J77, R) := by
                        intro M76 J77 hI78 hK79 hK80
                        refine q_iconst C dX12_edit_258 (n := 259) rfl ?_
                        refine q_istore C [.ref (w.2.1 + a), zi v1, zi v2, .null, .null, zi u35, .null, zi x59, .null, .null, .null, zi 0] dX12_edit_259 (n := 261) rfl rfl rfl ?_
                        have L_91 : ∀ n92 : Nat, ∀ (u82 : Int) (M84 : zMm) (J85 : zJm), zI G M84 → zMd a [2, 4] [0, 2, 3, 9] [] M M84 → zMd a [4] [] [] M76 M84 → (-2147483648 ≤ u82 ∧ u82 ≤ 2147483647) → (0 ≤ u82 ∧ u82 ≤ M a 2) → (441 - u82 ≤ (n92 : Int)) → zK w p e 3 0 0 s m args below meth c 12 T Po 261 [.ref (w.2.1 + a), zi v1, zi v2, .null, .null, zi u35, .null, zi x59, .null, .null, .null, zi u82] [] (T, M84, J85, R) := by
                          intro n92
                          induction n92 with
                          | zero =>
                            intro u82 M84 J85 hI86 hK87 hK88 h89 h90 hm94
                            exfalso
                            omega
                          | succ n92 ih93 =>
                            intro u82 M84 J85 hI86 hK87 hK88 h89 h90 hm94
                            refine q_iload C dX12_edit_261 (n := 263) rfl rfl ?_
                            refine q_aload_n C dX12_edit_263 (n := 264) rfl rfl ?_
                            refine q_getI C dX12_edit_264 (n := 267) rfl f_X12_274 (zM0 h0) (v := M3 a 3) ((hK88.getS rfl rfl).trans (hK80.getS rfl rfl)) ?_
                            refine q_icmp_ge C 293 dX12_edit_267 (n := 270) rfl rfl (by omega) (fun h95 => ?_) (fun h95 => ?_)
                            · refine q_aload_n C dX12_edit_293 (n := 294) rfl rfl ?_
                              refine q_getR C dX12_edit_294 (n := 297) rfl f_X12_17 (zM0 h0) (hF _ _ _ (zM7 h0)) ?_
                              refine q_bipush C dX12_edit_297 (n := 299) rfl (x := 8) (by decide) ?_
                              refine q_bipush C dX12_edit_299 (n := 301) rfl (x := 40) (by decide) ?_
                              refine q_iload_n C dX12_edit_301 (n := 302) rfl rfl ?_
                              refine q_imul C dX12_edit_302 (n := 303) rfl (v := 40 * v1) rfl ?_
                              refine q_iadd C dX12_edit_303 (n := 304) rfl (v := 8 + (40 * v1)) rfl ?_
                              refine q_iload_n C dX12_edit_304 (n := 305) rfl rfl ?_
                              refine q_iadd C dX12_edit_305 (n := 306) rfl (v := (8 + (40 * v1)) + v2) rfl ?_
                              refine q_aload_n C dX12_edit_306 (n := 307) rfl rfl ?_
                              refine q_getI C dX12_edit_307 (n := 310) rfl f_X12_274 (zM0 h0) (v := M3 a 3) ((hK88.getS rfl rfl).trans (hK80.getS rfl rfl)) ?_
                              refine q_iast C dX12_edit_310 (n := 311) rfl (zM8 h0) (by omega)  (fun M96 e97 => ?_)
                              have hp98 : zFi M84 a := hp54.cg (fun j => ((hK88.getA rfl rfl rfl).trans (hK80.getA rfl rfl rfl)))
                              have hI99 : zI G M96 := hI86.put e97 (((zM9 h0) ((8 + (40 * v1)) + v2)).trans (zfG_8 (by omega))) rfl (by omega)
                              have hK100 := hK87.upA e97 rfl
                              refine q_aload_n C dX12_edit_311 (n := 312) rfl rfl ?_
                              refine q_getR C dX12_edit_312 (n := 315) rfl f_X12_17 (zM0 h0) (hF _ _ _ (zM7 h0)) ?_
                              refine q_iconst C dX12_edit_315 (n := 316) rfl ?_
                              refine q_iload_n C dX12_edit_316 (n := 317) rfl rfl ?_
                              refine q_iadd C dX12_edit_317 (n := 318) rfl (v := 4 + v1) rfl ?_
                              refine q_iload C dX12_edit_318 (n := 320) rfl rfl ?_
                              refine q_iast C dX12_edit_320 (n := 321) rfl (zM8 h0) (by omega)  (fun M102 e103 => ?_)
                              have hI104 : zI G M102 := hI99.put e103 (((zM9 h0) (4 + v1)).trans (zfG_4 (by omega))) rfl (by omega)
                              have hK105 := hK100.upA e103 rfl
                              have hp106 : zFi M102 a := zEd_fi (M := M) (k := v1) (l := v2) (fun j => ((hK88.getA rfl rfl rfl).trans ((hK80.getA rfl rfl rfl).trans (hk7.getA rfl rfl rfl)))) e97 e103 p1 hI h0 (by omega) (by omega) (by omega)
                              refine q_aload_n C dX12_edit_321 (n := 322) rfl rfl ?_
                              refine q_iconst C dX12_edit_322 (n := 323) rfl ?_
                              refine q_putZ C dX12_edit_323 (n := 326) rfl f_X12_300 (zM0 h0) ⟨rfl, rfl⟩ (by omega) (fun M107 (e108 : M107 = zup M102 a 9 0) => ?_)
                              have hI109 : zI G M107 := hI104.put e108 (zM22 h0) rfl (by omega)
                              have hK110 := hK105.upS e108 rfl
                              refine q_iload C dX12_edit_326 (n := 328) rfl rfl ?_
                              have hp111 : zFi M107 a := hp106.cg (fun j => (zup_p e108 (by omega) _))
                              exact q_iret C dX12_edit_328 ⟨rfl, rfl⟩ (by rw [hPo]; exact ⟨u35, M107, J85, rfl, rfl, hI109, hK110, hp111, by have hz112 : M107 a 2 = M3 a 2 := ((zup_n e108 (by omega)).trans ((zup_p e103 (by omega) _).trans ((zup_p e97 (by omega) _).trans ((hK88.getS rfl rfl).trans (hK80.getS rfl rfl))))); omega⟩)
                            · refine q_aload_n C dX12_edit_270 (n := 271) rfl rfl ?_
                              refine q_getR C dX12_edit_271 (n := 274) rfl f_X12_24 (zM0 h0) (hF _ _ _ (zM13 h0)) ?_
                              refine q_iload C dX12_edit_274 (n := 276) rfl rfl ?_
                              refine q_iload C dX12_edit_276 (n := 278) rfl rfl ?_
                              refine q_iadd C dX12_edit_278 (n := 279) rfl (v := x59 + u82) rfl ?_
                              refine q_aload_n C dX12_edit_279 (n := 280) rfl rfl ?_
                              refine q_getR C dX12_edit_280 (n := 283) rfl f_X12_13 (zM0 h0) (hF _ _ _ (zM2 h0)) ?_
                              refine q_iload C dX12_edit_283 (n := 285) rfl rfl ?_
                              have g113 := zI.at hI ((zM4 h0) u82)
                              refine q_bald C dX12_edit_285 (n := 286) rfl (zM3 h0) (by omega) (v := M (a + 1) u82) ((hK88.getA rfl rfl rfl).trans ((hK80.getA rfl rfl rfl).trans (hk7.getA rfl rfl rfl))) ?_
                              refine q_bast C dX12_edit_286 (n := 287) rfl (zM14 h0) (by omega) (by omega) (fun M114 e115 => ?_)
                              have hI116 : zI G M114 := hI86.put e115 ((zM15 h0) (x59 + u82)) rfl (by omega)
                              have hK117 := hK87.upA e115 rfl
                              have hK118 := hK88.upA e115 rfl
                              refine q_iinc C [.ref (w.2.1 + a), zi v1, zi v2, .null, .null, zi u35, .null, zi x59, .null, .null, .null, zi (u82 + 1)] dX12_edit_287 (n := 290) rfl rfl rfl rfl ?_
                              refine q_goto C 261 dX12_edit_290 rfl ?_
                              exact zK.weak (ih93 (u82 + 1) M114 J85 hI116 hK117 hK118 (by omega) (by omega) (by omega)) (zwk_c (zwk_c (zwk_c (zwk_n (zwk_n (zwk_c (zwk_n (zwk_c (zwk_n (zwk_n (zwk_n (zwk_c zwk_e))))))))))))
                        exact zK.weak (L_91 _ 0 M76 J77 hI78 hK79 (zMd.rf : zMd a [4] [] [] M76 M76) (by omega) (by omega) (Int.self_le_toNat _)) (zwk_c (zwk_c (zwk_c (zwk_n (zwk_n (zwk_c (zwk_n (zwk_c (zwk_n (zwk_n (zwk_n (zwk_c zwk_e))))))))))))
                      refine q_if_le C 221 dX12_edit_176 (n := 179) rfl rfl (by omega) (fun h119 => ?_) (fun h119 => ?_)
                      · refine q_iload C dX12_edit_221 (n := 223) rfl rfl ?_
                        refine q_iload C dX12_edit_223 (n := 225) rfl rfl ?_
                        refine q_iadd C dX12_edit_225 (n := 226) rfl (v := x59 + u71) rfl ?_
                        refine q_istore C [.ref (w.2.1 + a), zi v1, zi v2, .null, .null, zi u35, .null, zi x59, zi x67, zi u71, zi ((M3 a 3) - u71), zi (x59 + u71)] dX12_edit_226 (n := 228) rfl rfl rfl ?_
                        have L_130 : ∀ n131 : Nat, ∀ (u120 : Int) (M122 : zMm) (J123 : zJm), zI G M122 → zMd a [2, 4] [0, 2, 3, 9] [] M M122 → zMd a [4] [] [] M3 M122 → zMd a [4] [] [] M3 M122 → (-2147483648 ≤ u120 ∧ u120 ≤ 2147483647) → (x59 + u71 ≤ u120 ∧ u120 ≤ x67) → (1701 - u120 ≤ (n131 : Int)) → zK w p e 3 0 0 s m args below meth c 12 T Po 228 [.ref (w.2.1 + a), zi v1, zi v2, .null, .null, zi u35, .null, zi x59, zi x67, .null, zi ((M3 a 3) - u71), zi u120] [] (T, M122, J123, R) := by
                          intro n131
                          induction n131 with
                          | zero =>
                            intro u120 M122 J123 hI124 hK125 hK126 hK127 h128 h129 hm133
                            exfalso
                            omega
                          | succ n131 ih132 =>
                            intro u120 M122 J123 hI124 hK125 hK126 hK127 h128 h129 hm133
                            refine q_iload C dX12_edit_228 (n := 230) rfl rfl ?_
                            refine q_iload C dX12_edit_230 (n := 232) rfl rfl ?_
                            refine q_icmp_ge C 258 dX12_edit_232 (n := 235) rfl rfl (by omega) (fun h134 => ?_) (fun h134 => ?_)
                            · exact zK.weak (J_81 M122 J123 hI124 hK125 hK126) (zwk_c (zwk_c (zwk_c (zwk_n (zwk_n (zwk_c (zwk_n (zwk_c (zwk_n (zwk_n (zwk_n (zwk_n zwk_e))))))))))))
                            · refine q_aload_n C dX12_edit_235 (n := 236) rfl rfl ?_
                              refine q_getR C dX12_edit_236 (n := 239) rfl f_X12_24 (zM0 h0) (hF _ _ _ (zM13 h0)) ?_
                              refine q_iload C dX12_edit_239 (n := 241) rfl rfl ?_
                              refine q_iload C dX12_edit_241 (n := 243) rfl rfl ?_
                              refine q_iadd C dX12_edit_243 (n := 244) rfl (v := u120 + ((M3 a 3) - u71)) rfl ?_
                              refine q_aload_n C dX12_edit_244 (n := 245) rfl rfl ?_
                              refine q_getR C dX12_edit_245 (n := 248) rfl f_X12_24 (zM0 h0) (hF _ _ _ (zM13 h0)) ?_
                              refine q_iload C dX12_edit_248 (n := 250) rfl rfl ?_
                              have g135 := zI.at hI124 ((zM15 h0) u120)
                              refine q_bald C dX12_edit_250 (n := 251) rfl (zM14 h0) (by omega) (v := M122 (a + 4) u120) rfl ?_
                              refine q_bast C dX12_edit_251 (n := 252) rfl (zM14 h0) (by omega) (by omega) (fun M136 e137 => ?_)
                              have hI138 : zI G M136 := hI124.put e137 ((zM15 h0) (u120 + ((M3 a 3) - u71))) rfl (by omega)
                              have hK139 := hK125.upA e137 rfl
                              have hK140 := hK126.upA e137 rfl
                              have hK141 := hK127.upA e137 rfl
                              refine q_iinc C [.ref (w.2.1 + a), zi v1, zi v2, .null, .null, zi u35, .null, zi x59, zi x67, .null, zi ((M3 a 3) - u71), zi (u120 + 1)] dX12_edit_252 (n := 255) rfl rfl rfl rfl ?_
                              refine q_goto C 228 dX12_edit_255 rfl ?_
                              exact zK.weak (ih132 (u120 + 1) M136 J123 hI138 hK139 hK140 hK141 (by omega) (by omega) (by omega)) (zwk_c (zwk_c (zwk_c (zwk_n (zwk_n (zwk_c (zwk_n (zwk_c (zwk_c (zwk_n (zwk_c (zwk_c zwk_e))))))))))))
                        exact zK.weak (L_130 _ (x59 + u71) M3 J4 hI5 hK8 (zMd.rf : zMd a [4] [] [] M3 M3) (zMd.rf : zMd a [4] [] [] M3 M3) (by omega) (by omega) (Int.self_le_toNat _)) (zwk_c (zwk_c (zwk_c (zwk_n (zwk_n (zwk_c (zwk_n (zwk_c (zwk_c (zwk_n (zwk_c (zwk_c zwk_e))))))))))))
                      · refine q_iload C dX12_edit_179 (n := 181) rfl rfl ?_
                        refine q_iconst C dX12_edit_181 (n := 182) rfl ?_
                        refine q_isub C dX12_edit_182 (n := 183) rfl (v := x67 - 1) rfl ?_
                        refine q_istore C [.ref (w.2.1 + a), zi v1, zi v2, .null, .null, zi u35, .null, zi x59, zi x67, zi u71, zi ((M3 a 3) - u71), zi (x67 - 1)] dX12_edit_183 (n := 185) rfl rfl rfl ?_
                        have L_152 : ∀ n153 : Nat, ∀ (u142 : Int) (M144 : zMm) (J145 : zJm), zI G M144 → zMd a [2, 4] [0, 2, 3, 9] [] M M144 → zMd a [4] [] [] M3 M144 → zMd a [4] [] [] M3 M144 → (-2147483648 ≤ u142 ∧ u142 ≤ 2147483647) → (x59 + u71 - 1 ≤ u142 ∧ u142 ≤ x67 - 1) → (u142 + 2 ≤ (n153 : Int)) → zK w p e 3 0 0 s m args below meth c 12 T Po 185 [.ref (w.2.1 + a), zi v1, zi v2, .null, .null, zi u35, .null, zi x59, .null, zi u71, zi ((M3 a 3) - u71), zi u142] [] (T, M144, J145, R) := by
                          intro n153
                          induction n153 with
                          | zero =>
                            intro u142 M144 J145 hI146 hK147 hK148 hK149 h150 h151 hm155
                            exfalso
                            omega
                          | succ n153 ih154 =>
                            intro u142 M144 J145 hI146 hK147 hK148 hK149 h150 h151 hm155
                            refine q_iload C dX12_edit_185 (n := 187) rfl rfl ?_
                            refine q_iload C dX12_edit_187 (n := 189) rfl rfl ?_
                            refine q_iload C dX12_edit_189 (n := 191) rfl rfl ?_
                            refine q_iadd C dX12_edit_191 (n := 192) rfl (v := x59 + u71) rfl ?_
                            refine q_icmp_lt C 218 dX12_edit_192 (n := 195) rfl rfl (by omega) (fun h156 => ?_) (fun h156 => ?_)
                            · refine q_goto C 258 dX12_edit_218 rfl ?_
                              exact zK.weak (J_81 M144 J145 hI146 hK147 hK148) (zwk_c (zwk_c (zwk_c (zwk_n (zwk_n (zwk_c (zwk_n (zwk_c (zwk_n (zwk_n (zwk_n (zwk_n zwk_e))))))))))))
                            · refine q_aload_n C dX12_edit_195 (n := 196) rfl rfl ?_
                              refine q_getR C dX12_edit_196 (n := 199) rfl f_X12_24 (zM0 h0) (hF _ _ _ (zM13 h0)) ?_
                              refine q_iload C dX12_edit_199 (n := 201) rfl rfl ?_
                              refine q_iload C dX12_edit_201 (n := 203) rfl rfl ?_
                              refine q_iadd C dX12_edit_203 (n := 204) rfl (v := u142 + ((M3 a 3) - u71)) rfl ?_
                              refine q_aload_n C dX12_edit_204 (n := 205) rfl rfl ?_
                              refine q_getR C dX12_edit_205 (n := 208) rfl f_X12_24 (zM0 h0) (hF _ _ _ (zM13 h0)) ?_
                              refine q_iload C dX12_edit_208 (n := 210) rfl rfl ?_
                              have g157 := zI.at hI146 ((zM15 h0) u142)
                              refine q_bald C dX12_edit_210 (n := 211) rfl (zM14 h0) (by omega) (v := M144 (a + 4) u142) rfl ?_
                              refine q_bast C dX12_edit_211 (n := 212) rfl (zM14 h0) (by omega) (by omega) (fun M158 e159 => ?_)
                              have hI160 : zI G M158 := hI146.put e159 ((zM15 h0) (u142 + ((M3 a 3) - u71))) rfl (by omega)
                              have hK161 := hK147.upA e159 rfl
                              have hK162 := hK148.upA e159 rfl
                              have hK163 := hK149.upA e159 rfl
                              refine q_iinc C [.ref (w.2.1 + a), zi v1, zi v2, .null, .null, zi u35, .null, zi x59, .null, zi u71, zi ((M3 a 3) - u71), zi (u142 + (-1))] dX12_edit_212 (n := 215) rfl rfl rfl rfl ?_
                              refine q_goto C 185 dX12_edit_215 rfl ?_
                              exact zK.weak (ih154 (u142 + (-1)) M158 J145 hI160 hK161 hK162 hK163 (by omega) (by omega) (by omega)) (zwk_c (zwk_c (zwk_c (zwk_n (zwk_n (zwk_c (zwk_n (zwk_c (zwk_n (zwk_c (zwk_c (zwk_c zwk_e))))))))))))
                        exact zK.weak (L_152 _ (x67 - 1) M3 J4 hI5 hK8 (zMd.rf : zMd a [4] [] [] M3 M3) (zMd.rf : zMd a [4] [] [] M3 M3) (by omega) (by omega) (Int.self_le_toNat _)) (zwk_c (zwk_c (zwk_c (zwk_n (zwk_n (zwk_c (zwk_n (zwk_c (zwk_n (zwk_c (zwk_c (zwk_c zwk_e))))))))))))
                    refine q_icmp_ge C 162 dX12_edit_150 (n := 153) rfl rfl (by omega) (fun h164 => ?_) (fun h164 => ?_)
                    · refine q_iconst C dX12_edit_162 (n := 163) rfl ?_
                      exact zK.weak (J_74 0 (by omega) (by omega)) (zwk_c (zwk_c (zwk_c (zwk_n (zwk_n (zwk_c (zwk_n (zwk_c (zwk_c (zwk_n (zwk_n (zwk_n zwk_e))))))))))))
                    · refine q_aload_n C dX12_edit_153 (n := 154) rfl rfl ?_
                      refine q_iload_n C dX12_edit_154 (n := 155) rfl rfl ?_
                      refine q_iload_n C dX12_edit_155 (n := 156) rfl rfl ?_
                      refine q_callVp C dX12_edit_156 (n := 159) rfl m_X12_289 v_yX12_lengthOf (zM0 h0) ⟨by decide, rfl⟩ (c_X12_lengthOf (w := w) (J := J4) hI5 hF h0 v1 v2 (by omega) (by omega)) (Nat.le_of_ble_eq_true rfl) rfl rfl (Nat.le_of_ble_eq_true rfl) ⟨Nat.le_refl _, Nat.le_refl _⟩ (fun x167 h168 => ?_)
                      obtain ⟨h165, h166⟩ := h168
                      have hz169 : M3 (a + 2) (8 + 40 * v1 + v2) = M (a + 2) (8 + 40 * v1 + v2) := (hk7.getA rfl rfl rfl)
                      refine q_goto C 163 dX12_edit_159 rfl ?_
                      exact zK.weak (J_74 x167 (by omega) (by omega)) (zwk_c (zwk_c (zwk_c (zwk_n (zwk_n (zwk_c (zwk_n (zwk_c (zwk_c (zwk_n (zwk_n (zwk_n zwk_e))))))))))))
                  · refine q_bipush C dX12_edit_127 (n := 129) rfl (x := (-3)) (by decide) ?_
                    have hp170 : zFi M3 a := p1.cg (fun j => (hk7.getA rfl rfl rfl))
                    exact q_iret C dX12_edit_129 ⟨rfl, rfl⟩ (by rw [hPo]; exact ⟨(-3), M3, J4, rfl, rfl, hI5, hK8, hp170, by omega⟩)
              · have gz1 := zSum_s (g := M (a + 2)) (b := 8 + 40 * v1) (i := u41) (by omega)
                have gle := zFi.le p1 hI h0 (k := v1) (l := u41) (by omega) (by omega)
                have gl : ¬ (u41 : Int) = v2 ∨ M (a + 2) (8 + 40 * v1 + u41) = M (a + 2) (8 + 40 * v1 + v2) := (Decidable.em ((u41 : Int) = v2)).symm.imp id (fun h => by rw [h])
                refine q_iload C dX12_edit_86 (n := 88) rfl rfl ?_
                refine q_iload_n C dX12_edit_88 (n := 89) rfl rfl ?_
                have J_174 : ∀ (u171 : Int), (-2147483648 ≤ u171 ∧ u171 ≤ 2147483647) → ((u41 + 1) ≤ v2 ∧ u171 = M a 2 + 1 + zSum (M (a + 2)) (8 + 40 * v1) ((u41 + 1) : Int).toNat + (u41 + 1) ∨ v2 < (u41 + 1) ∧ u171 = M a 2 + zSum (M (a + 2)) (8 + 40 * v1) ((u41 + 1) : Int).toNat + (u41 + 1) - M (a + 2) (8 + 40 * v1 + v2)) → zK w p e 3 0 0 s m args below meth c 12 T Po 106 [.ref (w.2.1 + a), zi v1, zi v2, .null, zi x32, zi u35, zi u171, zi u41, .null, .null, .null, .null] [] (T, M3, J4, R) := by
                  intro u171 h172 h173
                  refine q_iinc C [.ref (w.2.1 + a), zi v1, zi v2, .null, zi x32, zi u35, zi u171, zi (u41 + 1), .null, .null, .null, .null] dX12_edit_106 (n := 109) rfl rfl rfl rfl ?_
                  refine q_goto C 79 dX12_edit_109 rfl ?_
                  exact zK.weak (ih48 u171 (u41 + 1) (by omega) (by omega) (by omega) (by omega) (by omega)) (zwk_c (zwk_c (zwk_c (zwk_n (zwk_c (zwk_c (zwk_c (zwk_c (zwk_n (zwk_n (zwk_n (zwk_n zwk_e))))))))))))
                refine q_icmp_eq C 106 dX12_edit_89 (n := 92) rfl rfl (by omega) (fun h175 => ?_) (fun h175 => ?_)
                · exact zK.weak (J_174 u40 (by omega) (by omega)) (zwk_c (zwk_c (zwk_c (zwk_n (zwk_c (zwk_c (zwk_c (zwk_c (zwk_n (zwk_n (zwk_n (zwk_n zwk_e))))))))))))
                · refine q_iload C dX12_edit_92 (n := 94) rfl rfl ?_
                  refine q_aload_n C dX12_edit_94 (n := 95) rfl rfl ?_
                  refine q_iload_n C dX12_edit_95 (n := 96) rfl rfl ?_
                  refine q_iload C dX12_edit_96 (n := 98) rfl rfl ?_
                  refine q_callVp C dX12_edit_98 (n := 101) rfl m_X12_289 v_yX12_lengthOf (zM0 h0) ⟨by decide, rfl⟩ (c_X12_lengthOf (w := w) (J := J4) hI5 hF h0 v1 u41 (by omega) (by omega)) (Nat.le_of_ble_eq_true rfl) rfl rfl (Nat.le_of_ble_eq_true rfl) ⟨Nat.le_refl _, Nat.le_refl _⟩ (fun x178 h179 => ?_)
                  obtain ⟨h176, h177⟩ := h179
                  have hz180 : M3 (a + 2) (8 + 40 * v1 + u41) = M (a + 2) (8 + 40 * v1 + u41) := (hk7.getA rfl rfl rfl)
                  refine q_iconst C dX12_edit_101 (n := 102) rfl ?_
                  refine q_iadd C dX12_edit_102 (n := 103) rfl (v := x178 + 1) rfl ?_
                  refine q_iadd C dX12_edit_103 (n := 104) rfl (v := u40 + (x178 + 1)) rfl ?_
                  refine q_istore C [.ref (w.2.1 + a), zi v1, zi v2, .null, zi x32, zi u35, zi (u40 + (x178 + 1)), zi u41, .null, .null, .null, .null] dX12_edit_104 (n := 106) rfl rfl rfl ?_
                  exact zK.weak (J_174 (u40 + (x178 + 1)) (by omega) (by omega)) (zwk_c (zwk_c (zwk_c (zwk_n (zwk_c (zwk_c (zwk_c (zwk_c (zwk_n (zwk_n (zwk_n (zwk_n zwk_e))))))))))))
          exact zK.weak (L_46 _ ((M3 a 3) + 1) 0 (by omega) (by omega) (by omega) (by omega) (Int.self_le_toNat _)) (zwk_c (zwk_c (zwk_c (zwk_n (zwk_c (zwk_c (zwk_c (zwk_c (zwk_n (zwk_n (zwk_n (zwk_n zwk_e))))))))))))
        refine q_icmp_ne C 64 dX12_edit_54 (n := 57) rfl rfl (by omega) (fun h181 => ?_) (fun h181 => ?_)
        · refine q_iload C dX12_edit_64 (n := 66) rfl rfl ?_
          exact zK.weak (J_38 x32 (by omega) (by omega)) (zwk_c (zwk_c (zwk_c (zwk_n (zwk_c (zwk_n (zwk_n (zwk_n (zwk_n (zwk_n (zwk_n (zwk_n zwk_e))))))))))))
        · refine q_iload C dX12_edit_57 (n := 59) rfl rfl ?_
          refine q_iconst C dX12_edit_59 (n := 60) rfl ?_
          refine q_iadd C dX12_edit_60 (n := 61) rfl (v := x32 + 1) rfl ?_
          refine q_goto C 66 dX12_edit_61 rfl ?_
          exact zK.weak (J_38 (x32 + 1) (by omega) (by omega)) (zwk_c (zwk_c (zwk_c (zwk_n (zwk_c (zwk_n (zwk_n (zwk_n (zwk_n (zwk_n (zwk_n (zwk_n zwk_e))))))))))))
      · refine q_sipush C dX12_edit_38 (n := 41) rfl (x := (-1000)) (by decide) ?_
        refine q_iload_n C dX12_edit_41 (n := 42) rfl rfl ?_
        refine q_isub C dX12_edit_42 (n := 43) rfl (v := (-1000) - x27) rfl ?_
        have hp182 : zFi M3 a := p1.cg (fun j => (hk7.getA rfl rfl rfl))
        exact q_iret C dX12_edit_43 ⟨rfl, rfl⟩ (by rw [hPo]; exact ⟨(-1000) - x27, M3, J4, rfl, rfl, hI5, hK8, hp182, by omega⟩)
    · refine q_bipush C dX12_edit_25 (n := 27) rfl (x := (-2)) (by decide) ?_
      have hp183 : zFi M3 a := p1.cg (fun j => (hk7.getA rfl rfl rfl))
      exact q_iret C dX12_edit_27 ⟨rfl, rfl⟩ (by rw [hPo]; exact ⟨(-2), M3, J4, rfl, rfl, hI5, hK8, hp183, by omega⟩)
