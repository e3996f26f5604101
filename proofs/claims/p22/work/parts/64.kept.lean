/-! the pages of a source, of all sources of an object -/
def zSA (M : zMm) (p : Nat) : Prop := ∀ j : Int, 0 ≤ j → j < 4 → zPr M (p + 9 + 4 * j.toNat)
def zSB (M : zMm) (p : Nat) (n : Int) : Prop := ∀ j : Int, 0 ≤ j → j < n → zPr M (p + 9 + 4 * j.toNat)
def zCI (M : zMm) (a : Nat) : Prop := zSA M (a + 2) ∧ ∀ q : Int, 0 ≤ q → q < 2 → zSA M (a + 786 + 25 * q.toNat)
theorem zKr.sub {a n b m : Nat} {M M2 : zMm} (h : zKr b m M M2) (hb : a ≤ b ∧ b + m ≤ a + n) : zKr a n M M2 := fun c k q => h c k (by omega)
theorem zKp.ofr {G : zGt} {a n : Nat} {M M2 : zMm} (h : zKr a n M M2) (hg : ∀ (c : Nat) (k : Int), a ≤ c → c < a + n → (G c k).1 < 30) : zKp G 30 M M2 := fun c k q => h c k (by
  by_cases h1 : a ≤ c
  · by_cases h2 : c < a + n
    · have := hg c k h1 h2
      omega
    · omega
  · omega)
theorem zPr.kp {T : zTl} {F : zRm'} {G : zGt} {M M2 : zMm} {p n : Nat} (hz : zPr M p) (h : zPage T F G p) (hk : zKp G n M M2) (hn : n ≤ 20) : zPr M2 p := by
  refine hz.cg (hk _ _ ?_) (hk _ _ ?_) (hk _ _ ?_) (fun i => hk _ _ ?_)
  · rw [h.2.2.2.2.2.2.2.2.2.2.1]; exact Nat.le_trans hn (by decide)
  · rw [h.2.2.2.2.2.2.2.2.2.2.2.2.1]; exact hn
  · rw [h.2.2.2.2.2.2.2.2.2.2.2.2.2]; exact hn
  · rw [h.2.2.2.2.2.2.1 i]; exact hn
theorem zPr.off {M M2 : zMm} {p b n : Nat} (hz : zPr M p) (hr : zKr b n M M2) (hd : b + n ≤ p ∨ p + 4 ≤ b) : zPr M2 p := hz.cg (hr _ _ (by omega)) (hr _ _ (by omega)) (hr _ _ (by omega)) (fun i => hr _ _ (by omega))
theorem zSA.kp {T : zTl} {F : zRm'} {G : zGt} {M M2 : zMm} {p n : Nat} (h : zSA M p) (hs : zSource T F G p) (hk : zKp G n M M2) (hn : n ≤ 20) : zSA M2 p := fun j j0 j1 => (h j j0 j1).kp (hs.2.2.2.1 j j0 j1).2 hk hn
theorem zSA.off {M M2 : zMm} {p b n : Nat} (h : zSA M p) (hr : zKr b n M M2) (hd : b + n ≤ p ∨ p + 25 ≤ b) : zSA M2 p := fun j j0 j1 => (h j j0 j1).off hr (by omega)
theorem zSA.up {M M2 : zMm} {p c : Nat} {i x : Int} (h : zSA M p) (e : M2 = zup M c i x) (hd : c < p + 9 ∨ p + 25 ≤ c) : zSA M2 p := fun j j0 j1 => (h j j0 j1).cg (zup_p e (by omega) _) (zup_p e (by omega) _) (zup_p e (by omega) _) (fun i => zup_p e (by omega) _)
theorem zSA.cp {M M2 : zMm} {p c c0 : Nat} {sp dp z : Int} (h : zSA M p) (e : M2 = zcp M c0 c sp dp z) (hd : c < p + 9 ∨ p + 25 ≤ c) : zSA M2 p := fun j j0 j1 => (h j j0 j1).cg (zcp_p e (by omega) _) (zcp_p e (by omega) _) (zcp_p e (by omega) _) (fun i => zcp_p e (by omega) _)
theorem zSA.pg {M M2 : zMm} {p : Nat} {k : Int} (h : zSA M p) (hr : zKr (p + 9 + 4 * k.toNat) 4 M M2) (hk : 0 ≤ k ∧ k < 4) (hz : zPr M2 (p + 9 + 4 * k.toNat)) : zSA M2 p := fun j j0 j1 => by
  by_cases q : j = k
  · rw [q]
    exact hz
  · exact (h j j0 j1).off hr (by omega)
theorem zSB.pg {M M2 : zMm} {p : Nat} {k : Int} (h : zSB M p k) (hr : zKr (p + 9 + 4 * k.toNat) 4 M M2) (hk : 0 ≤ k ∧ k < 4) (hz : zPr M2 (p + 9 + 4 * k.toNat)) : zSB M2 p (k + 1) := fun j j0 j1 => by
  by_cases q : j = k
  · rw [q]
    exact hz
  · exact (h j j0 (by omega)).off hr (by omega)
theorem zSB.all {M : zMm} {p : Nat} {k : Int} (h : zSB M p k) (hk : 4 ≤ k) : zSA M p := fun j j0 j1 => h j j0 (by omega)
theorem zCI.kp {T : zTl} {F : zRm'} {G : zGt} {M M2 : zMm} {a n : Nat} (h : zCI M a) (h0 : zHideSets T F G a) (hk : zKp G n M M2) (hn : n ≤ 20) : zCI M2 a := ⟨h.1.kp h0.2.2.2.2.2.2.1 hk hn, fun q q0 q1 => (h.2 q q0 q1).kp (h0.2.2.2.2.2.2.2.2.2.1 q q0 q1).2 hk hn⟩
theorem zCI.pg {M M2 : zMm} {a : Nat} {k : Int} (h : zCI M a) (hr : zKr (a + 2 + 9 + 4 * k.toNat) 4 M M2) (hk : 0 ≤ k ∧ k < 4) (hz : zPr M2 (a + 2 + 9 + 4 * k.toNat)) : zCI M2 a := ⟨h.1.pg hr hk hz, fun q q0 q1 => (h.2 q q0 q1).off hr (by omega)⟩
theorem zCI.img {M M2 : zMm} {a : Nat} {k : Int} (h : zCI M a) (hr : zKr (a + 786 + 25 * k.toNat) 25 M M2) (hk : 0 ≤ k ∧ k < 2) (hz : zSA M2 (a + 786 + 25 * k.toNat)) : zCI M2 a := ⟨h.1.off hr (by omega), fun q q0 q1 => by
  by_cases e : q = k
  · rw [e]
    exact hz
  · exact (h.2 q q0 q1).off hr (by omega)⟩
theorem zCI.res {M M2 : zMm} {a : Nat} (h : zCI M a) (hr : zKr (a + 2) 25 M M2) (hz : zSA M2 (a + 2)) : zCI M2 a := ⟨hz, fun q q0 q1 => (h.2 q q0 q1).off hr (by omega)⟩
theorem zCI.up {M M2 : zMm} {a c : Nat} {i x : Int} (h : zCI M a) (e : M2 = zup M (a + c) i x) (hc : c < 2 ∨ c = 28 ∨ c = 29) : zCI M2 a := ⟨h.1.up e (by omega), fun q q0 q1 => (h.2 q q0 q1).up e (by omega)⟩

theorem c_X7_copy {w : zWp} {T : zTl} {M : zMm} {J : zJm} {R : zRm'} {G : zGt} {F : zRm'} {a o : Nat} (hI : zI G M) (hF : zF F R) (h0 : zSource T F G a) (h_oth : zSource T F G o) (p1 : zSA M o) (p2 : o + 25 ≤ a ∨ a + 25 ≤ o) : zCt w 2 0 0 yX7_copy cX7_copy 3 none [.ref (w.2.1 + a), .ref (w.2.1 + o)] (T, M, J, R) (zPv T R G (fun M2 => (zKr a 25 M M2) ∧ (zSA M2 a))) := by
  refine zCt.of rfl (Nat.le_of_ble_eq_true rfl) ?_
  intro p e s m args below meth c C
  obtain ⟨Po, hPo⟩ : ∃ Po, Po = zPv T R G (fun M2 => (zKr a 25 M M2) ∧ (zSA M2 a)) := ⟨_, rfl⟩
  rw [← hPo]
  have hK0 : zKr a 25 M M := zKr.rf
  show zK w p e 2 0 0 s m args below meth c 3 T Po 0 [.ref (w.2.1 + a), .ref (w.2.1 + o), .null] [] (T, M, J, R)
  refine q_iconst C dX7_copy_0 (n := 1) rfl ?_
  refine q_istore_n C [.ref (w.2.1 + a), .ref (w.2.1 + o), zi 0] dX7_copy_1 (n := 2) rfl rfl rfl ?_
  have L_10 : ∀ n11 : Nat, ∀ (u1 : Int) (M2 : zMm) (J3 : zJm), zI G M2 → zKr a 25 M M2 → (-2147483648 ≤ u1 ∧ u1 ≤ 2147483647) → (0 ≤ u1 ∧ u1 ≤ 4) → (zSB M2 a u1) → (zSA M2 o) → (4 - u1 + 1 ≤ (n11 : Int)) → zK w p e 2 0 0 s m args below meth c 3 T Po 2 [.ref (w.2.1 + a), .ref (w.2.1 + o), zi u1] [] (T, M2, J3, R) := by
    intro n11
    induction n11 with
    | zero =>
      intro u1 M2 J3 hI4 hK5 h6 h7 h8 h9 hm13
      exfalso
      omega
    | succ n11 ih12 =>
      intro u1 M2 J3 hI4 hK5 h6 h7 h8 h9 hm13
      refine q_iload_n C dX7_copy_2 (n := 3) rfl rfl ?_
      refine q_iconst C dX7_copy_3 (n := 4) rfl ?_
      refine q_icmp_ge C 28 dX7_copy_4 (n := 7) rfl rfl (by omega) (fun h14 => ?_) (fun h14 => ?_)
      · have hsa := zSB.all h8 (by omega)
        refine q_iconst C dX7_copy_28 (n := 29) rfl ?_
        refine q_istore_n C [.ref (w.2.1 + a), .ref (w.2.1 + o), zi 0] dX7_copy_29 (n := 30) rfl rfl rfl ?_
        have L_23 : ∀ n24 : Nat, ∀ (u15 : Int) (M16 : zMm) (J17 : zJm), zI G M16 → zKr a 25 M M16 → (-2147483648 ≤ u15 ∧ u15 ≤ 2147483647) → (0 ≤ u15 ∧ u15 ≤ 3) → (zSA M16 a) → (3 - u15 + 1 ≤ (n24 : Int)) → zK w p e 2 0 0 s m args below meth c 3 T Po 30 [.ref (w.2.1 + a), .ref (w.2.1 + o), zi u15] [] (T, M16, J17, R) := by
          intro n24
          induction n24 with
          | zero =>
            intro u15 M16 J17 hI18 hK19 h20 h21 h22 hm26
            exfalso
            omega
          | succ n24 ih25 =>
            intro u15 M16 J17 hI18 hK19 h20 h21 h22 hm26
            refine q_iload_n C dX7_copy_30 (n := 31) rfl rfl ?_
            refine q_iconst C dX7_copy_31 (n := 32) rfl ?_
            refine q_icmp_ge C 72 dX7_copy_32 (n := 35) rfl rfl (by omega) (fun h27 => ?_) (fun h27 => ?_)
            · refine q_aload_n C dX7_copy_72 (n := 73) rfl rfl ?_
              refine q_aload_n C dX7_copy_73 (n := 74) rfl rfl ?_
              have g28 := zI.at hI h_oth.2.2.2.2.2.2.2.2.2.2.1
              refine q_getI C dX7_copy_74 (n := 77) rfl f_X7_26 h_oth.1 (v := M o 3) (hK19 _ _ (by omega)) ?_
              refine q_putI C dX7_copy_77 (n := 80) rfl f_X7_26 h0.1 ⟨rfl, rfl⟩ (fun M29 (e30 : M29 = zup M16 a 3 (M o 3)) => ?_)
              have hI31 : zI G M29 := hI18.put e30 h0.2.2.2.2.2.2.2.2.2.2.1 rfl (by omega)
              have hK32 := hK19.put e30 (by omega)
              refine q_aload_n C dX7_copy_80 (n := 81) rfl rfl ?_
              refine q_aload_n C dX7_copy_81 (n := 82) rfl rfl ?_
              have g33 := zI.at hI h_oth.2.2.2.2.2.2.2.2.2.2.2.1
              refine q_getI C dX7_copy_82 (n := 85) rfl f_X7_30 h_oth.1 (v := M o 4) ((zup_p e30 (by omega) _).trans (hK19 _ _ (by omega))) ?_
              refine q_putI C dX7_copy_85 (n := 88) rfl f_X7_30 h0.1 ⟨rfl, rfl⟩ (fun M34 (e35 : M34 = zup M29 a 4 (M o 4)) => ?_)
              have hI36 : zI G M34 := hI31.put e35 h0.2.2.2.2.2.2.2.2.2.2.2.1 rfl (by omega)
              have hK37 := hK32.put e35 (by omega)
              exact q_vret C dX7_copy_88 ⟨rfl, rfl⟩ (by rw [hPo]; exact ⟨M34, J17, rfl, rfl, hI36, hK37, (zSA.up (zSA.up h22 e30 (by omega)) e35 (by omega))⟩)
            · refine q_aload_n C dX7_copy_35 (n := 36) rfl rfl ?_
              refine q_getR C dX7_copy_36 (n := 39) rfl f_X7_19 h_oth.1 (hF _ _ _ h_oth.2.2.2.2.1) ?_
              refine q_iload_n C dX7_copy_39 (n := 40) rfl rfl ?_
              refine q_aald7 C dX7_copy_40 (n := 41) rfl h_oth.2.2.2.2.2.1 (by omega) (hF _ _ _ (h_oth.2.2.2.2.2.2.1 u15 (by omega) (by omega)).1) ?_
              refine q_iconst C dX7_copy_41 (n := 42) rfl ?_
              refine q_aload_n C dX7_copy_42 (n := 43) rfl rfl ?_
              refine q_getR C dX7_copy_43 (n := 46) rfl f_X7_19 h0.1 (hF _ _ _ h0.2.2.2.2.1) ?_
              refine q_iload_n C dX7_copy_46 (n := 47) rfl rfl ?_
              refine q_aald7 C dX7_copy_47 (n := 48) rfl h0.2.2.2.2.2.1 (by omega) (hF _ _ _ (h0.2.2.2.2.2.2.1 u15 (by omega) (by omega)).1) ?_
              refine q_iconst C dX7_copy_48 (n := 49) rfl ?_
              refine q_bipush C dX7_copy_49 (n := 51) rfl (x := 30) (by decide) ?_
              refine q_copyB C dX7_copy_51 (n := 54) rfl x_X7_55 (h_oth.2.2.2.2.2.2.1 u15 (by omega) (by omega)).2.1 (h0.2.2.2.2.2.2.1 u15 (by omega) (by omega)).2.1 (by omega) (fun j => by have := zI.at hI18 ((h_oth.2.2.2.2.2.2.1 u15 (by omega) (by omega)).2.2 j); omega) (Nat.le_of_ble_eq_true rfl) (Nat.le_of_ble_eq_true rfl) (fun M38 e39 => ?_)
              have hI40 : zI G M38 := hI18.cp e39 (h_oth.2.2.2.2.2.2.1 u15 (by omega) (by omega)).2.2 (h0.2.2.2.2.2.2.1 u15 (by omega) (by omega)).2.2 rfl (by omega)
              have hK41 := hK19.cp e39 (by omega)
              refine q_aload_n C dX7_copy_54 (n := 55) rfl rfl ?_
              refine q_getR C dX7_copy_55 (n := 58) rfl f_X7_22 h0.1 (hF _ _ _ h0.2.2.2.2.2.2.2.1) ?_
              refine q_iload_n C dX7_copy_58 (n := 59) rfl rfl ?_
              refine q_aload_n C dX7_copy_59 (n := 60) rfl rfl ?_
              refine q_getR C dX7_copy_60 (n := 63) rfl f_X7_22 h_oth.1 (hF _ _ _ h_oth.2.2.2.2.2.2.2.1) ?_
              refine q_iload_n C dX7_copy_63 (n := 64) rfl rfl ?_
              have g42 := zI.at hI40 (h_oth.2.2.2.2.2.2.2.2.2.1 u15)
              refine q_iald C dX7_copy_64 (n := 65) rfl h_oth.2.2.2.2.2.2.2.2.1 (by omega) (v := M38 (o + 6) u15) rfl ?_
              refine q_iast C dX7_copy_65 (n := 66) rfl h0.2.2.2.2.2.2.2.2.1 (by omega)  (fun M43 e44 => ?_)
              have hI45 : zI G M43 := hI40.put e44 (h0.2.2.2.2.2.2.2.2.2.1 u15) rfl (by omega)
              have hK46 := hK41.put e44 (by omega)
              refine q_iinc C [.ref (w.2.1 + a), .ref (w.2.1 + o), zi (u15 + 1)] dX7_copy_66 (n := 69) rfl rfl rfl rfl ?_
              refine q_goto C 30 dX7_copy_69 rfl ?_
              exact zK.weak (ih25 (u15 + 1) M43 J17 hI45 hK46 (by omega) (by omega) (zSA.up (zSA.cp h22 e39 (by omega)) e44 (by omega)) (by omega)) (zwk_c (zwk_c (zwk_c zwk_e)))
        exact zK.weak (L_23 _ 0 M2 J3 hI4 hK5 (by omega) (by omega) hsa (Int.self_le_toNat _)) (zwk_c (zwk_c (zwk_c zwk_e)))
      · refine q_aload_n C dX7_copy_7 (n := 8) rfl rfl ?_
        refine q_getR C dX7_copy_8 (n := 11) rfl f_X7_11 h0.1 (hF _ _ _ h0.2.1) ?_
        refine q_iload_n C dX7_copy_11 (n := 12) rfl rfl ?_
        refine q_aald C dX7_copy_12 (n := 13) rfl ⟨by decide, by decide⟩ h0.2.2.1 (by omega) (hF _ _ _ (h0.2.2.2.1 u1 (by omega) (by omega)).1) ?_
        refine q_aload_n C dX7_copy_13 (n := 14) rfl rfl ?_
        refine q_getR C dX7_copy_14 (n := 17) rfl f_X7_11 h_oth.1 (hF _ _ _ h_oth.2.1) ?_
        refine q_iload_n C dX7_copy_17 (n := 18) rfl rfl ?_
        refine q_aald C dX7_copy_18 (n := 19) rfl ⟨by decide, by decide⟩ h_oth.2.2.1 (by omega) (hF _ _ _ (h_oth.2.2.2.1 u1 (by omega) (by omega)).1) ?_
        refine q_callVv C dX7_copy_19 (n := 22) rfl m_X7_82 v_yX4_copy (h0.2.2.2.1 u1 (by omega) (by omega)).2.1 ⟨by decide, rfl⟩ (c_X4_copy (w := w) (J := J3) hI4 hF (h0.2.2.2.1 u1 (by omega) (by omega)).2 (h_oth.2.2.2.1 u1 (by omega) (by omega)).2 (h9 u1 (by omega) (by omega)) (by omega)) (Nat.le_of_ble_eq_true rfl) rfl rfl (Nat.le_of_ble_eq_true rfl) ⟨Nat.le_refl _, Nat.le_refl _⟩ (fun M48 J49  hI50 h51 => ?_)
        obtain ⟨hk52, h47⟩ := h51
        have hK53 := hK5.tr (zKr.sub hk52 (by omega))
        refine q_iinc C [.ref (w.2.1 + a), .ref (w.2.1 + o), zi (u1 + 1)] dX7_copy_22 (n := 25) rfl rfl rfl rfl ?_
        refine q_goto C 2 dX7_copy_25 rfl ?_
        exact zK.weak (ih12 (u1 + 1) M48 J49 hI50 hK53 (by omega) (by omega) (zSB.pg h8 hk52 (by omega) h47) (zSA.off h9 hk52 (by omega)) (by omega)) (zwk_c (zwk_c (zwk_c zwk_e)))
  exact zK.weak (L_10 _ 0 M J hI hK0 (by omega) (by omega) (fun j j0 j1 => by omega) p1 (Int.self_le_toNat _)) (zwk_c (zwk_c (zwk_c zwk_e)))
