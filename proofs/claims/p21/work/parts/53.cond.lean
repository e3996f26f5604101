theorem zLy.og {M : zMm} {a : Nat} {og lg : Int → Int} {i : Int} (h : zLy M a i) (ho : zOg M a og lg) (hn : M a 23 ≤ 440) : ∀ t, 0 ≤ t → t < M a 23 → 0 ≤ og t ∧ 1 ≤ lg t ∧ og t + lg t ≤ i ∧ (M a 23 ≤ t + 1 ∨ og t + lg t ≤ og (t + 1)) := fun t t0 t1 => by
  obtain ⟨h1, h2, h3, h4⟩ := h t t0 t1
  obtain ⟨o1, o2⟩ := ho t (by omega)
  rw [o1, o2] at h3 h4
  rw [o1] at h1
  rw [o2] at h2
  refine ⟨h1, h2, h3, ?_⟩
  by_cases q : t + 1 < M a 23
  · have := h4 q
    rw [(ho (t + 1) (by omega)).1] at this
    exact Or.inr this
  · exact Or.inl (by omega)
def zMe (M : zMm) (a : Nat) : Prop := ∃ mb mp, zMa M a mb mp
theorem zMe.cg {M M2 : zMm} {a : Nat} (h : zMe M a) (e18 : ∀ j, 199 ≤ j → (j < 223 ∨ 259 ≤ j ∧ j < 739 ∨ 979 ≤ j) → M2 (a + 18) j = M (a + 18) j) (e20 : ∀ j, M2 (a + 20) j = M (a + 20) j) : zMe M2 a := by
  obtain ⟨mb, mp, q⟩ := h
  exact ⟨mb, mp, q.cg e18 e20⟩
theorem zMe.up {M M2 : zMm} {a : Nat} {i x : Int} (h : zMe M a) (e : M2 = zup M (a + 18) i x) (hi : i < 199 ∨ 223 ≤ i ∧ i < 259 ∨ 739 ≤ i ∧ i < 979) : zMe M2 a := by
  obtain ⟨mb, mp, q⟩ := h
  exact ⟨mb, mp, q.up e hi⟩
theorem c_X12_conditions {w : zWp} {T : zTl} {M : zMm} {J : zJm} {R : zRm'} {G : zGt} {F : zRm'} {a : Nat} {mb mp og lg : Int → Int} (hI : zI G M) (hF : zF F R) (h0 : zModel T F G a) (v1 : Int) (p1 : zOg M a og lg) (p2 : zMa M a mb mp) (p3 : zLy M a 440) (p4 : M a 26 = 3500 ∧ M a 25 = 440 ∧ 0 ≤ M a 24 ∧ M a 24 ≤ 440) (p5 : 0 ≤ v1 ∧ v1 ≤ 2) : zCt w 7 0 0 yX12_conditions cX12_conditions 5 (some .boolean) [.ref (w.2.1 + a), zi v1] (T, M, J, R) (zPi T R G (fun x M2 => (zMd a [9, 10, 11, 12, 13, 14, 15, 16, 17, 18, 24, 25, 26, 27, 28, 29, 30, 31, 32, 33, 34, 35, 36, 37, 38, 39, 40, 41, 42, 43, 44, 45, 46, 47, 48] [24, 25, 26, 34, 57, 58, 59, 60, 61, 62, 63, 64, 65, 74, 75, 76, 78] [] M M2) ∧ (x = 0 ∨ x = 1) ∧ (zOg M2 a og lg) ∧ (zMa M2 a mb mp) ∧ (M2 (a + 18) 3 = M (a + 18) 3))) := by
  refine zCt.of rfl (Nat.le_of_ble_eq_true rfl) ?_
  intro p e s m args below meth c C
  obtain ⟨Po, hPo⟩ : ∃ Po, Po = zPi T R G (fun x M2 => (zMd a [9, 10, 11, 12, 13, 14, 15, 16, 17, 18, 24, 25, 26, 27, 28, 29, 30, 31, 32, 33, 34, 35, 36, 37, 38, 39, 40, 41, 42, 43, 44, 45, 46, 47, 48] [24, 25, 26, 34, 57, 58, 59, 60, 61, 62, 63, 64, 65, 74, 75, 76, 78] [] M M2) ∧ (x = 0 ∨ x = 1) ∧ (zOg M2 a og lg) ∧ (zMa M2 a mb mp) ∧ (M2 (a + 18) 3 = M (a + 18) 3)) := ⟨_, rfl⟩
  rw [← hPo]
  have hK0 : zMd a [9, 10, 11, 12, 13, 14, 15, 16, 17, 18, 24, 25, 26, 27, 28, 29, 30, 31, 32, 33, 34, 35, 36, 37, 38, 39, 40, 41, 42, 43, 44, 45, 46, 47, 48] [24, 25, 26, 34, 57, 58, 59, 60, 61, 62, 63, 64, 65, 74, 75, 76, 78] [] M M := zMd.rf
  have gk_tokens := zI.at hI (zM58 h0)
  have hyl := zLy.og p3 p1 gk_tokens.2
  show zK w p e 7 0 0 s m args below meth c 5 T Po 0 [.ref (w.2.1 + a), zi v1, .null, .null, .null] [] (T, M, J, R)
  refine q_aload_n C dX12_conditions_0 (n := 1) rfl rfl ?_
  refine q_iconst C dX12_conditions_1 (n := 2) rfl ?_
  refine q_putI C dX12_conditions_2 (n := 5) rfl f_X12_500 (zM0 h0) ⟨rfl, rfl⟩ (fun M1 (e2 : M1 = zup M a 59 0) => ?_)
  have hI3 : zI G M1 := hI.put e2 (zM144 h0) rfl (by omega)
  have hK4 := hK0.upS e2 rfl
  refine q_iload_n C dX12_conditions_5 (n := 6) rfl rfl ?_
  refine q_istore_n C [.ref (w.2.1 + a), zi v1, zi v1, .null, .null] dX12_conditions_6 (n := 7) rfl rfl rfl ?_
  have L_18 : ∀ n19 : Nat, ∀ (u5 : Int) (M7 : zMm) (J8 : zJm), zI G M7 → zMd a [9, 10, 11, 12, 13, 14, 15, 16, 17, 18, 24, 25, 26, 27, 28, 29, 30, 31, 32, 33, 34, 35, 36, 37, 38, 39, 40, 41, 42, 43, 44, 45, 46, 47, 48] [24, 25, 26, 34, 57, 58, 59, 60, 61, 62, 63, 64, 65, 74, 75, 76, 78] [] M M7 → zMd a [9, 10, 11, 12, 13, 14, 15, 16, 17, 40] [24, 25, 59] [] M1 M7 → (-2147483648 ≤ u5 ∧ u5 ≤ 2147483647) → (v1 ≤ u5 ∧ u5 ≤ 445) → ((u5 < M a 23 ∧ 8 * (M7 a 25 - 440) ≤ og u5) ∨ (M a 23 ≤ u5 ∧ 8 * (M7 a 25 - 440) ≤ 440)) → (M7 a 24 = M a 24 + (M7 a 25 - 440) ∧ 440 ≤ M7 a 25) → (0 ≤ M7 a 59 ∧ M7 a 59 ≤ u5 - v1 ∧ M7 a 59 ≤ 440) → (zOg M7 a og lg) → (450 - u5 ≤ (n19 : Int)) → zK w p e 7 0 0 s m args below meth c 5 T Po 7 [.ref (w.2.1 + a), .null, zi u5, .null, .null] [] (T, M7, J8, R) := by
    intro n19
    induction n19 with
    | zero =>
      intro u5 M7 J8 hI9 hK10 hK11 h12 h13 h14 h15 h16 h17 hm21
      exfalso
      omega
    | succ n19 ih20 =>
      intro u5 M7 J8 hI9 hK10 hK11 h12 h13 h14 h15 h16 h17 hm21
      refine q_iload_n C dX12_conditions_7 (n := 8) rfl rfl ?_
      refine q_aload_n C dX12_conditions_8 (n := 9) rfl rfl ?_
      have g22 := zI.at hI (zM58 h0)
      refine q_getI C dX12_conditions_9 (n := 12) rfl f_X12_355 (zM0 h0) (v := M a 23) ((hK11.getS rfl rfl).trans (zup_n e2 (by omega))) ?_
      refine q_icmp_ge C 289 dX12_conditions_12 (n := 15) rfl rfl (by omega) (fun h23 => ?_) (fun h23 => ?_)
      · refine q_aload_n C dX12_conditions_289 (n := 290) rfl rfl ?_
        refine q_iconst C dX12_conditions_290 (n := 291) rfl ?_
        refine q_putI C dX12_conditions_291 (n := 294) rfl f_X12_448 (zM0 h0) ⟨rfl, rfl⟩ (fun M24 (e25 : M24 = zup M7 a 57 0) => ?_)
        have hI26 : zI G M24 := hI9.put e25 (zM142 h0) rfl (by omega)
        have hK27 := hK10.upS e25 rfl
        refine q_aload_n C dX12_conditions_294 (n := 295) rfl rfl ?_
        refine q_iconst C dX12_conditions_295 (n := 296) rfl ?_
        refine q_putI C dX12_conditions_296 (n := 299) rfl f_X12_445 (zM0 h0) ⟨rfl, rfl⟩ (fun M29 (e30 : M29 = zup M24 a 58 0) => ?_)
        have hI31 : zI G M29 := hI26.put e30 (zM143 h0) rfl (by omega)
        have hK32 := hK27.upS e30 rfl
        refine q_aload_n C dX12_conditions_299 (n := 300) rfl rfl ?_
        refine q_iconst C dX12_conditions_300 (n := 301) rfl ?_
        refine q_putI C dX12_conditions_301 (n := 304) rfl f_X12_458 (zM0 h0) ⟨rfl, rfl⟩ (fun M33 (e34 : M33 = zup M29 a 60 0) => ?_)
        have hI35 : zI G M33 := hI31.put e34 (zM145 h0) rfl (by omega)
        have hK36 := hK32.upS e34 rfl
        refine q_aload_n C dX12_conditions_304 (n := 305) rfl rfl ?_
        refine q_iconst C dX12_conditions_305 (n := 306) rfl ?_
        refine q_aload_n C dX12_conditions_306 (n := 307) rfl rfl ?_
        have g37 := zI.at hI9 (zM144 h0)
        refine q_getI C dX12_conditions_307 (n := 310) rfl f_X12_500 (zM0 h0) (v := M7 a 59) ((zup_n e34 (by omega)).trans ((zup_n e30 (by omega)).trans (zup_n e25 (by omega)))) ?_
        refine q_iconst C dX12_conditions_310 (n := 311) rfl ?_
        refine q_callVv C dX12_conditions_311 (n := 314) rfl m_X12_550 v_yX12_opensLine (zM0 h0) ⟨by decide, rfl⟩ (c_X12_opensLine (w := w) (J := J8) hI35 hF h0 0 (M7 a 59) 1 (by omega) (by omega) (by omega)) (Nat.le_of_ble_eq_true rfl) rfl rfl (Nat.le_of_ble_eq_true rfl) ⟨Nat.le_refl _, Nat.le_refl _⟩ (fun M39 J40  hI41 h42 => ?_)
        obtain ⟨hk43, h38⟩ := h42
        have hK44 := hK36.tr hk43 rfl rfl rfl
        obtain ⟨M46, e45⟩ : ∃ q, q = zup M33 a 63 0 := ⟨_, rfl⟩
        obtain ⟨M48, e47⟩ : ∃ q, q = zup M46 a 64 (M7 a 59) := ⟨_, rfl⟩
        have e49 : M39 = zup M48 a 65 1 := by rw [e47]; rw [e45]; exact h38
        refine q_aload_n C dX12_conditions_314 (n := 315) rfl rfl ?_
        have hp50 : zOg M39 a og lg := h17.cg (fun j => ((zup_p e49 (by omega) _).trans ((zup_p e47 (by omega) _).trans ((zup_p e45 (by omega) _).trans ((zup_p e34 (by omega) _).trans ((zup_p e30 (by omega) _).trans (zup_p e25 (by omega) _))))))) (fun j => ((zup_p e49 (by omega) _).trans ((zup_p e47 (by omega) _).trans ((zup_p e45 (by omega) _).trans ((zup_p e34 (by omega) _).trans ((zup_p e30 (by omega) _).trans (zup_p e25 (by omega) _)))))))
        have hp51 : zMa M39 a mb mp := p2.cg (fun j j0 j1 => ((zup_p e49 (by omega) _).trans ((zup_p e47 (by omega) _).trans ((zup_p e45 (by omega) _).trans ((zup_p e34 (by omega) _).trans ((zup_p e30 (by omega) _).trans ((zup_p e25 (by omega) _).trans ((hK11.getA rfl rfl rfl).trans (zup_p e2 (by omega) _))))))))) (fun j => ((zup_p e49 (by omega) _).trans ((zup_p e47 (by omega) _).trans ((zup_p e45 (by omega) _).trans ((zup_p e34 (by omega) _).trans ((zup_p e30 (by omega) _).trans ((zup_p e25 (by omega) _).trans ((hK11.getA rfl rfl rfl).trans (zup_p e2 (by omega) _)))))))))
        refine q_callVi C dX12_conditions_315 (n := 318) rfl m_X12_553 v_yX12_expands (zM0 h0) ⟨by decide, rfl⟩ (c_X12_expands (w := w) (J := J40) hI41 hF h0 hp50 hp51 (by have hz52 : M39 a 57 = 0 := ((zup_n e49 (by omega)).trans ((zup_n e47 (by omega)).trans ((zup_n e45 (by omega)).trans ((zup_n e34 (by omega)).trans ((zup_n e30 (by omega)).trans (zup_s e25)))))); have hz53 : M39 a 58 = 0 := ((zup_n e49 (by omega)).trans ((zup_n e47 (by omega)).trans ((zup_n e45 (by omega)).trans ((zup_n e34 (by omega)).trans (zup_s e30))))); have hz54 : M39 a 60 = 0 := ((zup_n e49 (by omega)).trans ((zup_n e47 (by omega)).trans ((zup_n e45 (by omega)).trans (zup_s e34)))); have hz55 : M39 a 26 = M a 26 := ((zup_n e49 (by omega)).trans ((zup_n e47 (by omega)).trans ((zup_n e45 (by omega)).trans ((zup_n e34 (by omega)).trans ((zup_n e30 (by omega)).trans ((zup_n e25 (by omega)).trans ((hK11.getS rfl rfl).trans (zup_n e2 (by omega))))))))); omega) (by have hz56 : M39 a 25 = M7 a 25 := ((zup_n e49 (by omega)).trans ((zup_n e47 (by omega)).trans ((zup_n e45 (by omega)).trans ((zup_n e34 (by omega)).trans ((zup_n e30 (by omega)).trans (zup_n e25 (by omega))))))); have hz57 : M39 a 24 = M7 a 24 := ((zup_n e49 (by omega)).trans ((zup_n e47 (by omega)).trans ((zup_n e45 (by omega)).trans ((zup_n e34 (by omega)).trans ((zup_n e30 (by omega)).trans (zup_n e25 (by omega))))))); have hz58 : M39 a 59 = M7 a 59 := ((zup_n e49 (by omega)).trans ((zup_n e47 (by omega)).trans ((zup_n e45 (by omega)).trans ((zup_n e34 (by omega)).trans ((zup_n e30 (by omega)).trans (zup_n e25 (by omega))))))); omega) (by have hz59 : M39 a 63 = 0 := ((zup_n e49 (by omega)).trans ((zup_n e47 (by omega)).trans (zup_s e45))); have hz60 : M39 a 64 = M7 a 59 := ((zup_n e49 (by omega)).trans (zup_s e47)); have hz61 : M39 a 65 = 1 := (zup_s e49); omega)) (Nat.le_of_ble_eq_true rfl) rfl rfl (Nat.le_of_ble_eq_true rfl) ⟨Nat.le_refl _, Nat.le_refl _⟩ (fun x71 M67 J68  hI69 h70 => ?_)
        obtain ⟨hk72, h62, h63, h64, h65, h66⟩ := h70
        have hK73 := hK44.tr hk72 rfl rfl rfl
        have hz74 : M39 (a + 18) 3 = M (a + 18) 3 := ((zup_p e49 (by omega) _).trans ((zup_p e47 (by omega) _).trans ((zup_p e45 (by omega) _).trans ((zup_p e34 (by omega) _).trans ((zup_p e30 (by omega) _).trans ((zup_p e25 (by omega) _).trans ((hK11.getA rfl rfl rfl).trans (zup_p e2 (by omega) _))))))))
        refine q_if_eq C 339 dX12_conditions_318 (n := 321) rfl rfl (by omega) (fun h75 => ?_) (fun h75 => ?_)
        · refine q_iconst C dX12_conditions_339 (n := 340) rfl ?_
          exact q_zret C dX12_conditions_340 ⟨rfl, rfl⟩ (by omega) (by rw [hPo]; exact ⟨0, M67, J68, rfl, rfl, hI69, hK73, by omega, h63, h64, by have hz76 : M67 (a + 18) 3 = M (a + 18) 3 := ((h66).trans ((zup_p e49 (by omega) _).trans ((zup_p e47 (by omega) _).trans ((zup_p e45 (by omega) _).trans ((zup_p e34 (by omega) _).trans ((zup_p e30 (by omega) _).trans ((zup_p e25 (by omega) _).trans ((hK11.getA rfl rfl rfl).trans (zup_p e2 (by omega) _))))))))); omega⟩)
        · refine q_aload_n C dX12_conditions_321 (n := 322) rfl rfl ?_
          refine q_callVi C dX12_conditions_322 (n := 325) rfl m_X12_630 v_yX12_readsList (zM0 h0) ⟨by decide, rfl⟩ (c_X12_readsList (w := w) (J := J68) hI69 hF h0 (by omega)) (Nat.le_of_ble_eq_true rfl) rfl rfl (Nat.le_of_ble_eq_true rfl) ⟨Nat.le_refl _, Nat.le_refl _⟩ (fun x83 M79 J80  hI81 h82 => ?_)
          obtain ⟨hk84, h77, h78⟩ := h82
          have hK85 := hK73.tr hk84 rfl rfl rfl
          refine q_if_eq C 339 dX12_conditions_325 (n := 328) rfl rfl (by omega) (fun h86 => ?_) (fun h86 => ?_)
          · refine q_iconst C dX12_conditions_339 (n := 340) rfl ?_
            have hp87 : zOg M79 a og lg := h63.cg (fun j => (hk84.getA rfl rfl rfl)) (fun j => (hk84.getA rfl rfl rfl))
            have hp88 : zMa M79 a mb mp := h64.cg (fun j j0 j1 => (hk84.getW rfl rfl (by omega))) (fun j => (hk84.getA rfl rfl rfl))
            exact q_zret C dX12_conditions_340 ⟨rfl, rfl⟩ (by omega) (by rw [hPo]; exact ⟨0, M79, J80, rfl, rfl, hI81, hK85, by omega, hp87, hp88, by have hz89 : M79 (a + 18) 3 = M (a + 18) 3 := ((hk84.getP rfl rfl rfl).trans ((h66).trans ((zup_p e49 (by omega) _).trans ((zup_p e47 (by omega) _).trans ((zup_p e45 (by omega) _).trans ((zup_p e34 (by omega) _).trans ((zup_p e30 (by omega) _).trans ((zup_p e25 (by omega) _).trans ((hK11.getA rfl rfl rfl).trans (zup_p e2 (by omega) _)))))))))); omega⟩)
          · have hsf := h78.resolve_left (by omega)
            refine q_aload_n C dX12_conditions_328 (n := 329) rfl rfl ?_
            refine q_callVi C dX12_conditions_329 (n := 332) rfl m_X12_633 v_yX12_works (zM0 h0) ⟨by decide, rfl⟩ (c_X12_works (w := w) (J := J80) hI81 hF h0 hsf) (Nat.le_of_ble_eq_true rfl) rfl rfl (Nat.le_of_ble_eq_true rfl) ⟨Nat.le_refl _, Nat.le_refl _⟩ (fun x95 M91 J92  hI93 h94 => ?_)
            obtain ⟨hk96, h90⟩ := h94
            have hK97 := hK85.tr hk96 rfl rfl rfl
            refine q_if_eq C 339 dX12_conditions_332 (n := 335) rfl rfl (by omega) (fun h98 => ?_) (fun h98 => ?_)
            · refine q_iconst C dX12_conditions_339 (n := 340) rfl ?_
              have hp99 : zOg M91 a og lg := h63.cg (fun j => ((hk96.getA rfl rfl rfl).trans (hk84.getA rfl rfl rfl))) (fun j => ((hk96.getA rfl rfl rfl).trans (hk84.getA rfl rfl rfl)))
              have hp100 : zMa M91 a mb mp := h64.cg (fun j j0 j1 => ((hk96.getW rfl rfl (by omega)).trans (hk84.getW rfl rfl (by omega)))) (fun j => ((hk96.getA rfl rfl rfl).trans (hk84.getA rfl rfl rfl)))
              exact q_zret C dX12_conditions_340 ⟨rfl, rfl⟩ (by omega) (by rw [hPo]; exact ⟨0, M91, J92, rfl, rfl, hI93, hK97, by omega, hp99, hp100, by have hz101 : M91 (a + 18) 3 = M (a + 18) 3 := ((hk96.getP rfl rfl rfl).trans ((hk84.getP rfl rfl rfl).trans ((h66).trans ((zup_p e49 (by omega) _).trans ((zup_p e47 (by omega) _).trans ((zup_p e45 (by omega) _).trans ((zup_p e34 (by omega) _).trans ((zup_p e30 (by omega) _).trans ((zup_p e25 (by omega) _).trans ((hK11.getA rfl rfl rfl).trans (zup_p e2 (by omega) _))))))))))); omega⟩)
            · refine q_iconst C dX12_conditions_335 (n := 336) rfl ?_
              refine q_goto C 340 dX12_conditions_336 rfl ?_
              have hp102 : zOg M91 a og lg := h63.cg (fun j => ((hk96.getA rfl rfl rfl).trans (hk84.getA rfl rfl rfl))) (fun j => ((hk96.getA rfl rfl rfl).trans (hk84.getA rfl rfl rfl)))
              have hp103 : zMa M91 a mb mp := h64.cg (fun j j0 j1 => ((hk96.getW rfl rfl (by omega)).trans (hk84.getW rfl rfl (by omega)))) (fun j => ((hk96.getA rfl rfl rfl).trans (hk84.getA rfl rfl rfl)))
              exact q_zret C dX12_conditions_340 ⟨rfl, rfl⟩ (by omega) (by rw [hPo]; exact ⟨1, M91, J92, rfl, rfl, hI93, hK97, by omega, hp102, hp103, by have hz104 : M91 (a + 18) 3 = M (a + 18) 3 := ((hk96.getP rfl rfl rfl).trans ((hk84.getP rfl rfl rfl).trans ((h66).trans ((zup_p e49 (by omega) _).trans ((zup_p e47 (by omega) _).trans ((zup_p e45 (by omega) _).trans ((zup_p e34 (by omega) _).trans ((zup_p e30 (by omega) _).trans ((zup_p e25 (by omega) _).trans ((hK11.getA rfl rfl rfl).trans (zup_p e2 (by omega) _))))))))))); omega⟩)
      · refine q_aload_n C dX12_conditions_15 (n := 16) rfl rfl ?_
        refine q_iload_n C dX12_conditions_16 (n := 17) rfl rfl ?_
        refine q_callVp C dX12_conditions_17 (n := 20) rfl m_X12_433 v_yX12_isDefined (zM0 h0) ⟨by decide, rfl⟩ (c_X12_isDefined (w := w) (J := J8) hI9 hF h0 u5 (by omega)) (Nat.le_of_ble_eq_true rfl) rfl rfl (Nat.le_of_ble_eq_true rfl) ⟨Nat.le_refl _, Nat.le_refl _⟩ (fun x107 h108 => ?_)
        obtain ⟨h105, h106⟩ := h108
        refine q_if_ne C 49 dX12_conditions_20 (n := 23) rfl rfl (by omega) (fun h109 => ?_) (fun h109 => ?_)
        · have go := h17 u5 (by omega)
          have hy0 := hyl u5 (by omega) (by omega)
          have hy1 : M a 23 ≤ u5 + 1 ∨ (0 ≤ og (u5 + 1) ∧ 1 ≤ lg (u5 + 1) ∧ og (u5 + 1) + lg (u5 + 1) ≤ 440 ∧ (M a 23 ≤ u5 + 1 + 1 ∨ og (u5 + 1) + lg (u5 + 1) ≤ og (u5 + 1 + 1))) := (Decidable.em (u5 + 1 < M a 23)).symm.imp (fun q => by omega) (fun q => hyl (u5 + 1) (by omega) q)
          have hy2 : M a 23 ≤ u5 + 2 ∨ (0 ≤ og (u5 + 2) ∧ 1 ≤ lg (u5 + 2) ∧ og (u5 + 2) + lg (u5 + 2) ≤ 440 ∧ (M a 23 ≤ u5 + 2 + 1 ∨ og (u5 + 2) + lg (u5 + 2) ≤ og (u5 + 2 + 1))) := (Decidable.em (u5 + 2 < M a 23)).symm.imp (fun q => by omega) (fun q => hyl (u5 + 2) (by omega) q)
          have hy3 : M a 23 ≤ u5 + 3 ∨ (0 ≤ og (u5 + 3) ∧ 1 ≤ lg (u5 + 3) ∧ og (u5 + 3) + lg (u5 + 3) ≤ 440 ∧ (M a 23 ≤ u5 + 3 + 1 ∨ og (u5 + 3) + lg (u5 + 3) ≤ og (u5 + 3 + 1))) := (Decidable.em (u5 + 3 < M a 23)).symm.imp (fun q => by omega) (fun q => hyl (u5 + 3) (by omega) q)
          have ee1 : og (u5 + 1 + 1) = og (u5 + 2) ∧ og (u5 + 2 + 1) = og (u5 + 3) := ⟨by rw [show u5 + 1 + 1 = u5 + 2 by omega], by rw [show u5 + 2 + 1 = u5 + 3 by omega]⟩
          refine q_iload_n C dX12_conditions_49 (n := 50) rfl rfl ?_
          refine q_iconst C dX12_conditions_50 (n := 51) rfl ?_
          refine q_iadd C dX12_conditions_51 (n := 52) rfl (v := u5 + 1) rfl ?_
          refine q_aload_n C dX12_conditions_52 (n := 53) rfl rfl ?_
          refine q_getI C dX12_conditions_53 (n := 56) rfl f_X12_355 (zM0 h0) (v := M a 23) ((hK11.getS rfl rfl).trans (zup_n e2 (by omega))) ?_
          have J_114 : ∀ (u110 : Int), (-2147483648 ≤ u110 ∧ u110 ≤ 2147483647) → (u110 = 0 ∨ u110 = 1) → (u110 = 0 ∨ u5 + 1 < M a 23) → zK w p e 7 0 0 s m args below meth c 5 T Po 76 [.ref (w.2.1 + a), .null, zi u5, .null, .null] [zi u110] (T, M7, J8, R) := by
            intro u110 h111 h112 h113
            refine q_istore_n C [.ref (w.2.1 + a), .null, zi u5, zi u110, .null] dX12_conditions_76 (n := 77) rfl rfl rfl ?_
            refine q_iload_n C dX12_conditions_77 (n := 78) rfl rfl ?_
            have J_118 : ∀ (u115 : Int), (-2147483648 ≤ u115 ∧ u115 ≤ 2147483647) → (u115 = u5 + 1 ∧ u110 = 0 ∨ u115 = u5 + 2 ∧ ¬ u110 = 0) → zK w p e 7 0 0 s m args below meth c 5 T Po 90 [.ref (w.2.1 + a), .null, zi u5, zi u110, .null] [zi u115] (T, M7, J8, R) := by
              intro u115 h116 h117
              refine q_istore C [.ref (w.2.1 + a), .null, zi u5, zi u110, zi u115] dX12_conditions_90 (n := 92) rfl rfl rfl ?_
              refine q_iload C dX12_conditions_92 (n := 94) rfl rfl ?_
              refine q_aload_n C dX12_conditions_94 (n := 95) rfl rfl ?_
              refine q_getI C dX12_conditions_95 (n := 98) rfl f_X12_355 (zM0 h0) (v := M a 23) ((hK11.getS rfl rfl).trans (zup_n e2 (by omega))) ?_
              have J_119 : zK w p e 7 0 0 s m args below meth c 5 T Po 111 [.ref (w.2.1 + a), .null, .null, .null, zi u115] [] (T, M7, J8, R) := by
                refine q_aload_n C dX12_conditions_111 (n := 112) rfl rfl ?_
                refine q_bipush C dX12_conditions_112 (n := 114) rfl (x := 8) (by decide) ?_
                refine q_iload C dX12_conditions_114 (n := 116) rfl rfl ?_
                refine q_callVi C dX12_conditions_116 (n := 119) rfl m_X12_430 v_yX12_badToken (zM0 h0) ⟨by decide, rfl⟩ (c_X12_badToken (w := w) (J := J8) hI9 hF h0 8 u115 (by omega) (by omega)) (Nat.le_of_ble_eq_true rfl) rfl rfl (Nat.le_of_ble_eq_true rfl) ⟨Nat.le_refl _, Nat.le_refl _⟩ (fun x126 M122 J123  hI124 h125 => ?_)
                obtain ⟨hk127, h120, h121⟩ := h125
                have hK128 := hK10.tr hk127 rfl rfl rfl
                have hp129 : zOg M122 a og lg := h17.cg (fun j => (hk127.getA rfl rfl rfl)) (fun j => (hk127.getA rfl rfl rfl))
                have hp130 : zMa M122 a mb mp := p2.cg (fun j j0 j1 => ((hk127.getW rfl rfl (by omega)).trans ((hK11.getA rfl rfl rfl).trans (zup_p e2 (by omega) _)))) (fun j => ((hk127.getA rfl rfl rfl).trans ((hK11.getA rfl rfl rfl).trans (zup_p e2 (by omega) _))))
                exact q_zret C dX12_conditions_119 ⟨rfl, rfl⟩ (by omega) (by rw [hPo]; exact ⟨x126, M122, J123, rfl, rfl, hI124, hK128, by omega, hp129, hp130, by have hz131 : M122 (a + 18) 3 = M (a + 18) 3 := ((hk127.getP rfl rfl rfl).trans ((hK11.getA rfl rfl rfl).trans (zup_p e2 (by omega) _))); omega⟩)
              refine q_icmp_ge C 111 dX12_conditions_98 (n := 101) rfl rfl (by omega) (fun h132 => ?_) (fun h132 => ?_)
              · exact zK.weak (J_119) (zwk_c (zwk_n (zwk_n (zwk_n (zwk_c zwk_e)))))
              · refine q_aload_n C dX12_conditions_101 (n := 102) rfl rfl ?_
                refine q_getR C dX12_conditions_102 (n := 105) rfl f_X12_40 (zM0 h0) (hF _ _ _ (zM31 h0)) ?_
                refine q_iload C dX12_conditions_105 (n := 107) rfl rfl ?_
                have g133 := zI.at hI9 ((zM33 h0) u115)
                refine q_iald C dX12_conditions_107 (n := 108) rfl (zM32 h0) (by omega) (v := M7 (a + 9) u115) rfl ?_
                refine q_if_eq C 120 dX12_conditions_108 (n := 111) rfl rfl (by omega) (fun h134 => ?_) (fun h134 => ?_)
                · refine q_iload_n C dX12_conditions_120 (n := 121) rfl rfl ?_
                  have J_136 : (u110 = 0 ∨ u115 + 1 < M a 23) → zK w p e 7 0 0 s m args below meth c 5 T Po 159 [.ref (w.2.1 + a), .null, zi u5, zi u110, zi u115] [] (T, M7, J8, R) := by
                    intro h135
                    refine q_aload_n C dX12_conditions_159 (n := 160) rfl rfl ?_
                    refine q_iload_n C dX12_conditions_160 (n := 161) rfl rfl ?_
                    refine q_aload_n C dX12_conditions_161 (n := 162) rfl rfl ?_
                    have g137 := zI.at hI9 (zM60 h0)
                    refine q_getI C dX12_conditions_162 (n := 165) rfl f_X12_394 (zM0 h0) (v := M7 a 25) rfl ?_
                    refine q_callVv C dX12_conditions_165 (n := 168) rfl m_X12_461 v_yX12_copies (zM0 h0) ⟨by decide, rfl⟩ (c_X12_copies (w := w) (J := J8) hI9 hF h0 u5 (M7 a 25) h17 (by omega) (by omega) (by omega)) (Nat.le_of_ble_eq_true rfl) rfl rfl (Nat.le_of_ble_eq_true rfl) ⟨Nat.le_refl _, Nat.le_refl _⟩ (fun M139 J140  hI141 h142 => ?_)
                    obtain ⟨hk143, h138⟩ := h142
                    have hK144 := hK10.tr hk143 rfl rfl rfl
                    have hK145 := hK11.tr hk143 rfl rfl rfl
                    refine q_aload_n C dX12_conditions_168 (n := 169) rfl rfl ?_
                    refine q_getR C dX12_conditions_169 (n := 172) rfl f_X12_40 (zM0 h0) (hF _ _ _ (zM31 h0)) ?_
                    refine q_aload_n C dX12_conditions_172 (n := 173) rfl rfl ?_
                    refine q_getI C dX12_conditions_173 (n := 176) rfl f_X12_394 (zM0 h0) (v := M7 a 25) (hk143.getS rfl rfl) ?_
                    refine q_iconst C dX12_conditions_176 (n := 177) rfl ?_
                    refine q_iast C dX12_conditions_177 (n := 178) rfl (zM32 h0) (by omega)  (fun M146 e147 => ?_)
                    have hI148 : zI G M146 := hI141.put e147 ((zM33 h0) (M7 a 25)) rfl (by omega)
                    have hK149 := hK144.upA e147 rfl
                    have hK150 := hK145.upA e147 rfl
                    refine q_aload_n C dX12_conditions_178 (n := 179) rfl rfl ?_
                    refine q_getR C dX12_conditions_179 (n := 182) rfl f_X12_46 (zM0 h0) (hF _ _ _ (zM37 h0)) ?_
                    refine q_aload_n C dX12_conditions_182 (n := 183) rfl rfl ?_
                    refine q_getI C dX12_conditions_183 (n := 186) rfl f_X12_394 (zM0 h0) (v := M7 a 25) ((zup_p e147 (by omega) _).trans (hk143.getS rfl rfl)) ?_
                    refine q_iconst C dX12_conditions_186 (n := 187) rfl ?_
                    refine q_iast C dX12_conditions_187 (n := 188) rfl (zM38 h0) (by omega)  (fun M151 e152 => ?_)
                    have hp153 : zOg M146 a og lg := h138.cg (fun j => (zup_p e147 (by omega) _)) (fun j => (zup_p e147 (by omega) _))
                    have hp154 : zOg M151 a og lg := hp153.up1 e152 (by omega)
                    have hI155 : zI G M151 := hI148.put e152 ((zM39 h0) (M7 a 25)) rfl (by omega)
                    have hK156 := hK149.upA e152 rfl
                    have hK157 := hK150.upA e152 rfl
                    refine q_aload_n C dX12_conditions_188 (n := 189) rfl rfl ?_
                    refine q_getR C dX12_conditions_189 (n := 192) rfl f_X12_43 (zM0 h0) (hF _ _ _ (zM34 h0)) ?_
                    refine q_aload_n C dX12_conditions_192 (n := 193) rfl rfl ?_
                    refine q_getI C dX12_conditions_193 (n := 196) rfl f_X12_394 (zM0 h0) (v := M7 a 25) ((zup_p e152 (by omega) _).trans ((zup_p e147 (by omega) _).trans (hk143.getS rfl rfl))) ?_
                    refine q_aload_n C dX12_conditions_196 (n := 197) rfl rfl ?_
                    have g158 := zI.at hI9 (zM59 h0)
                    refine q_getI C dX12_conditions_197 (n := 200) rfl f_X12_391 (zM0 h0) (v := M7 a 24) ((zup_p e152 (by omega) _).trans ((zup_p e147 (by omega) _).trans (hk143.getS rfl rfl))) ?_
                    refine q_iast C dX12_conditions_200 (n := 201) rfl (zM35 h0) (by omega)  (fun M159 e160 => ?_)
                    have hp161 : zOg M159 a og lg := hp154.up0 e160 (by omega)
                    have hI162 : zI G M159 := hI155.put e160 ((zM36 h0) (M7 a 25)) rfl (by omega)
                    have hK163 := hK156.upA e160 rfl
                    have hK164 := hK157.upA e160 rfl
                    refine q_aload_n C dX12_conditions_201 (n := 202) rfl rfl ?_
                    refine q_getR C dX12_conditions_202 (n := 205) rfl f_X12_65 (zM0 h0) (hF _ _ _ (zM55 h0)) ?_
                    refine q_aload_n C dX12_conditions_205 (n := 206) rfl rfl ?_
                    refine q_getI C dX12_conditions_206 (n := 209) rfl f_X12_391 (zM0 h0) (v := M7 a 24) ((zup_p e160 (by omega) _).trans ((zup_p e152 (by omega) _).trans ((zup_p e147 (by omega) _).trans (hk143.getS rfl rfl)))) ?_
                    refine q_aload_n C dX12_conditions_209 (n := 210) rfl rfl ?_
                    refine q_iload C dX12_conditions_210 (n := 212) rfl rfl ?_
                    refine q_callVp C dX12_conditions_212 (n := 215) rfl m_X12_436 v_yX12_macroOf (zM0 h0) ⟨by decide, rfl⟩ (c_X12_macroOf (w := w) (J := J140) hI162 hF h0 u115 (by omega)) (Nat.le_of_ble_eq_true rfl) rfl rfl (Nat.le_of_ble_eq_true rfl) ⟨Nat.le_refl _, Nat.le_refl _⟩ (fun x166 h167 => ?_)
                    have hz168 : M159 (a + 18) 0 = M (a + 18) 0 := ((zup_p e160 (by omega) _).trans ((zup_p e152 (by omega) _).trans ((zup_p e147 (by omega) _).trans ((hk143.getA rfl rfl rfl).trans ((hK11.getA rfl rfl rfl).trans (zup_p e2 (by omega) _))))))
                    have J_171 : ∀ (u169 : Int), (-2147483648 ≤ u169 ∧ u169 ≤ 2147483647) → zK w p e 7 0 0 s m args below meth c 5 T Po 225 [.ref (w.2.1 + a), .null, .null, zi u110, zi u115] [zi u169, zi (M7 a 24), .ref (w.2.1 + (a + 17))] (T, M159, J140, R) := by
                      intro u169 h170
                      refine q_i2b C dX12_conditions_225 (n := 226) rfl (v := zi2b u169) rfl ?_
                      have g172 := z8_r u169
                      refine q_bast C dX12_conditions_226 (n := 227) rfl (zM56 h0) (by omega) (by omega) (fun M173 e174 => ?_)
                      have hI175 : zI G M173 := hI162.put e174 ((zM57 h0) (M7 a 24)) rfl (by omega)
                      have hK176 := hK163.upA e174 rfl
                      have hK177 := hK164.upA e174 rfl
                      refine q_aload_n C dX12_conditions_227 (n := 228) rfl rfl ?_
                      refine q_dup C dX12_conditions_228 (n := 229) rfl rfl ?_
                      refine q_getI C dX12_conditions_229 (n := 232) rfl f_X12_391 (zM0 h0) (v := M7 a 24) ((zup_p e174 (by omega) _).trans ((zup_p e160 (by omega) _).trans ((zup_p e152 (by omega) _).trans ((zup_p e147 (by omega) _).trans (hk143.getS rfl rfl))))) ?_
                      refine q_iconst C dX12_conditions_232 (n := 233) rfl ?_
                      refine q_iadd C dX12_conditions_233 (n := 234) rfl (v := (M7 a 24) + 1) rfl ?_
                      refine q_putI C dX12_conditions_234 (n := 237) rfl f_X12_391 (zM0 h0) ⟨rfl, rfl⟩ (fun M178 (e179 : M178 = zup M173 a 24 ((M7 a 24) + 1)) => ?_)
                      have hI180 : zI G M178 := hI175.put e179 (zM59 h0) rfl (by omega)
                      have hK181 := hK176.upS e179 rfl
                      have hK182 := hK177.upS e179 rfl
                      refine q_aload_n C dX12_conditions_237 (n := 238) rfl rfl ?_
                      refine q_getR C dX12_conditions_238 (n := 241) rfl f_X12_135 (zM0 h0) (hF _ _ _ (zM133 h0)) ?_
                      refine q_aload_n C dX12_conditions_241 (n := 242) rfl rfl ?_
                      have g183 := zI.at hI9 (zM144 h0)
                      refine q_getI C dX12_conditions_242 (n := 245) rfl f_X12_500 (zM0 h0) (v := M7 a 59) ((zup_n e179 (by omega)).trans ((zup_p e174 (by omega) _).trans ((zup_p e160 (by omega) _).trans ((zup_p e152 (by omega) _).trans ((zup_p e147 (by omega) _).trans (hk143.getS rfl rfl)))))) ?_
                      refine q_aload_n C dX12_conditions_245 (n := 246) rfl rfl ?_
                      refine q_getI C dX12_conditions_246 (n := 249) rfl f_X12_394 (zM0 h0) (v := M7 a 25) ((zup_n e179 (by omega)).trans ((zup_p e174 (by omega) _).trans ((zup_p e160 (by omega) _).trans ((zup_p e152 (by omega) _).trans ((zup_p e147 (by omega) _).trans (hk143.getS rfl rfl)))))) ?_
                      refine q_iast C dX12_conditions_249 (n := 250) rfl (zM134 h0) (by omega)  (fun M184 e185 => ?_)
                      have hI186 : zI G M184 := hI180.put e185 ((zM135 h0) (M7 a 59)) rfl (by omega)
                      have hK187 := hK181.upA e185 rfl
                      have hK188 := hK182.upA e185 rfl
                      refine q_aload_n C dX12_conditions_250 (n := 251) rfl rfl ?_
                      refine q_dup C dX12_conditions_251 (n := 252) rfl rfl ?_
                      refine q_getI C dX12_conditions_252 (n := 255) rfl f_X12_500 (zM0 h0) (v := M7 a 59) ((zup_p e185 (by omega) _).trans ((zup_n e179 (by omega)).trans ((zup_p e174 (by omega) _).trans ((zup_p e160 (by omega) _).trans ((zup_p e152 (by omega) _).trans ((zup_p e147 (by omega) _).trans (hk143.getS rfl rfl))))))) ?_
                      refine q_iconst C dX12_conditions_255 (n := 256) rfl ?_
                      refine q_iadd C dX12_conditions_256 (n := 257) rfl (v := (M7 a 59) + 1) rfl ?_
                      refine q_putI C dX12_conditions_257 (n := 260) rfl f_X12_500 (zM0 h0) ⟨rfl, rfl⟩ (fun M189 (e190 : M189 = zup M184 a 59 ((M7 a 59) + 1)) => ?_)
                      have hI191 : zI G M189 := hI186.put e190 (zM144 h0) rfl (by omega)
                      have hK192 := hK187.upS e190 rfl
                      have hK193 := hK188.upS e190 rfl
                      refine q_aload_n C dX12_conditions_260 (n := 261) rfl rfl ?_
                      refine q_dup C dX12_conditions_261 (n := 262) rfl rfl ?_
                      refine q_getI C dX12_conditions_262 (n := 265) rfl f_X12_394 (zM0 h0) (v := M7 a 25) ((zup_n e190 (by omega)).trans ((zup_p e185 (by omega) _).trans ((zup_n e179 (by omega)).trans ((zup_p e174 (by omega) _).trans ((zup_p e160 (by omega) _).trans ((zup_p e152 (by omega) _).trans ((zup_p e147 (by omega) _).trans (hk143.getS rfl rfl)))))))) ?_
                      refine q_iconst C dX12_conditions_265 (n := 266) rfl ?_
                      refine q_iadd C dX12_conditions_266 (n := 267) rfl (v := (M7 a 25) + 1) rfl ?_
                      refine q_putI C dX12_conditions_267 (n := 270) rfl f_X12_394 (zM0 h0) ⟨rfl, rfl⟩ (fun M194 (e195 : M194 = zup M189 a 25 ((M7 a 25) + 1)) => ?_)
                      have hI196 : zI G M194 := hI191.put e195 (zM60 h0) rfl (by omega)
                      have hK197 := hK192.upS e195 rfl
                      have hK198 := hK193.upS e195 rfl
                      refine q_iload_n C dX12_conditions_270 (n := 271) rfl rfl ?_
                      have J_202 : ∀ (u199 : Int), (-2147483648 ≤ u199 ∧ u199 ≤ 2147483647) → (u199 = u115 + 1 ∧ u110 = 0 ∨ u199 = u115 + 2 ∧ ¬ u110 = 0) → zK w p e 7 0 0 s m args below meth c 5 T Po 285 [.ref (w.2.1 + a), .null, .null, .null, .null] [zi u199] (T, M194, J140, R) := by
                        intro u199 h200 h201
                        refine q_istore_n C [.ref (w.2.1 + a), .null, zi u199, .null, .null] dX12_conditions_285 (n := 286) rfl rfl rfl ?_
                        refine q_goto C 7 dX12_conditions_286 rfl ?_
                        have hp209 : zOg M194 a og lg := hp161.cg (fun j => ((zup_p e195 (by omega) _).trans ((zup_p e190 (by omega) _).trans ((zup_p e185 (by omega) _).trans ((zup_p e179 (by omega) _).trans (zup_p e174 (by omega) _)))))) (fun j => ((zup_p e195 (by omega) _).trans ((zup_p e190 (by omega) _).trans ((zup_p e185 (by omega) _).trans ((zup_p e179 (by omega) _).trans (zup_p e174 (by omega) _))))))
                        exact zK.weak (ih20 u199 M194 J140 hI196 hK197 hK198 (by omega) (by omega) (by have hw : M194 a 25 = (M7 a 25) + 1 := (zup_s e195); rcases (show u199 = u5 + 1 ∨ u199 = u5 + 2 ∨ u199 = u5 + 3 ∨ u199 = u5 + 4 by omega) with q | q | q | q <;> rw [q] <;> first | omega | (rw [show u5 + 4 = u5 + 3 + 1 by omega]; omega)) (by have hz203 : M194 a 24 = (M7 a 24) + 1 := ((zup_n e195 (by omega)).trans ((zup_n e190 (by omega)).trans ((zup_p e185 (by omega) _).trans (zup_s e179)))); have hz204 : M194 a 25 = (M7 a 25) + 1 := (zup_s e195); have hz205 : M194 a 25 = (M7 a 25) + 1 := (zup_s e195); omega) (by have hz206 : M194 a 59 = (M7 a 59) + 1 := ((zup_n e195 (by omega)).trans (zup_s e190)); have hz207 : M194 a 59 = (M7 a 59) + 1 := ((zup_n e195 (by omega)).trans (zup_s e190)); have hz208 : M194 a 59 = (M7 a 59) + 1 := ((zup_n e195 (by omega)).trans (zup_s e190)); omega) hp209 (by omega)) (zwk_c (zwk_n (zwk_c (zwk_n (zwk_n zwk_e)))))
                      refine q_if_eq C 281 dX12_conditions_271 (n := 274) rfl rfl (by omega) (fun h210 => ?_) (fun h210 => ?_)
                      · refine q_iload C dX12_conditions_281 (n := 283) rfl rfl ?_
                        refine q_iconst C dX12_conditions_283 (n := 284) rfl ?_
                        refine q_iadd C dX12_conditions_284 (n := 285) rfl (v := u115 + 1) rfl ?_
                        exact zK.weak (J_202 (u115 + 1) (by omega) (by omega)) (zwk_c (zwk_n (zwk_n (zwk_n (zwk_n zwk_e)))))
                      · refine q_iload C dX12_conditions_274 (n := 276) rfl rfl ?_
                        refine q_iconst C dX12_conditions_276 (n := 277) rfl ?_
                        refine q_iadd C dX12_conditions_277 (n := 278) rfl (v := u115 + 2) rfl ?_
                        refine q_goto C 285 dX12_conditions_278 rfl ?_
                        exact zK.weak (J_202 (u115 + 2) (by omega) (by omega)) (zwk_c (zwk_n (zwk_n (zwk_n (zwk_n zwk_e)))))
                    refine q_if_lt C 223 dX12_conditions_215 (n := 218) rfl rfl (by omega) (fun h211 => ?_) (fun h211 => ?_)
                    · refine q_bipush C dX12_conditions_223 (n := 225) rfl (x := 48) (by decide) ?_
                      exact zK.weak (J_171 48 (by omega)) (zwk_c (zwk_n (zwk_n (zwk_c (zwk_c zwk_e)))))
                    · refine q_bipush C dX12_conditions_218 (n := 220) rfl (x := 49) (by decide) ?_
                      refine q_goto C 225 dX12_conditions_220 rfl ?_
                      exact zK.weak (J_171 49 (by omega)) (zwk_c (zwk_n (zwk_n (zwk_c (zwk_c zwk_e)))))
                  refine q_if_eq C 159 dX12_conditions_121 (n := 124) rfl rfl (by omega) (fun h212 => ?_) (fun h212 => ?_)
                  · exact zK.weak (J_136 (by omega)) (zwk_c (zwk_n (zwk_c (zwk_c (zwk_c zwk_e)))))
                  · refine q_iload C dX12_conditions_124 (n := 126) rfl rfl ?_
                    refine q_iconst C dX12_conditions_126 (n := 127) rfl ?_
                    refine q_iadd C dX12_conditions_127 (n := 128) rfl (v := u115 + 1) rfl ?_
                    refine q_aload_n C dX12_conditions_128 (n := 129) rfl rfl ?_
                    refine q_getI C dX12_conditions_129 (n := 132) rfl f_X12_355 (zM0 h0) (v := M a 23) ((hK11.getS rfl rfl).trans (zup_n e2 (by omega))) ?_
                    have J_213 : zK w p e 7 0 0 s m args below meth c 5 T Po 148 [.ref (w.2.1 + a), .null, .null, .null, zi u115] [] (T, M7, J8, R) := by
                      refine q_aload_n C dX12_conditions_148 (n := 149) rfl rfl ?_
                      refine q_bipush C dX12_conditions_149 (n := 151) rfl (x := 8) (by decide) ?_
                      refine q_iload C dX12_conditions_151 (n := 153) rfl rfl ?_
                      refine q_iconst C dX12_conditions_153 (n := 154) rfl ?_
                      refine q_iadd C dX12_conditions_154 (n := 155) rfl (v := u115 + 1) rfl ?_
                      refine q_callVi C dX12_conditions_155 (n := 158) rfl m_X12_430 v_yX12_badToken (zM0 h0) ⟨by decide, rfl⟩ (c_X12_badToken (w := w) (J := J8) hI9 hF h0 8 (u115 + 1) (by omega) (by omega)) (Nat.le_of_ble_eq_true rfl) rfl rfl (Nat.le_of_ble_eq_true rfl) ⟨Nat.le_refl _, Nat.le_refl _⟩ (fun x220 M216 J217  hI218 h219 => ?_)
                      obtain ⟨hk221, h214, h215⟩ := h219
                      have hK222 := hK10.tr hk221 rfl rfl rfl
                      have hp223 : zOg M216 a og lg := h17.cg (fun j => (hk221.getA rfl rfl rfl)) (fun j => (hk221.getA rfl rfl rfl))
                      have hp224 : zMa M216 a mb mp := p2.cg (fun j j0 j1 => ((hk221.getW rfl rfl (by omega)).trans ((hK11.getA rfl rfl rfl).trans (zup_p e2 (by omega) _)))) (fun j => ((hk221.getA rfl rfl rfl).trans ((hK11.getA rfl rfl rfl).trans (zup_p e2 (by omega) _))))
                      exact q_zret C dX12_conditions_158 ⟨rfl, rfl⟩ (by omega) (by rw [hPo]; exact ⟨x220, M216, J217, rfl, rfl, hI218, hK222, by omega, hp223, hp224, by have hz225 : M216 (a + 18) 3 = M (a + 18) 3 := ((hk221.getP rfl rfl rfl).trans ((hK11.getA rfl rfl rfl).trans (zup_p e2 (by omega) _))); omega⟩)
                    refine q_icmp_ge C 148 dX12_conditions_132 (n := 135) rfl rfl (by omega) (fun h226 => ?_) (fun h226 => ?_)
                    · exact zK.weak (J_213) (zwk_c (zwk_n (zwk_n (zwk_n (zwk_c zwk_e)))))
                    · refine q_aload_n C dX12_conditions_135 (n := 136) rfl rfl ?_
                      refine q_iload C dX12_conditions_136 (n := 138) rfl rfl ?_
                      refine q_iconst C dX12_conditions_138 (n := 139) rfl ?_
                      refine q_iadd C dX12_conditions_139 (n := 140) rfl (v := u115 + 1) rfl ?_
                      refine q_bipush C dX12_conditions_140 (n := 142) rfl (x := 41) (by decide) ?_
                      refine q_callVp C dX12_conditions_142 (n := 145) rfl m_X12_406 v_yX12_isSign (zM0 h0) ⟨by decide, rfl⟩ (c_X12_isSign (w := w) (J := J8) hI9 hF h0 (u115 + 1) 41 (by omega) (by omega)) (Nat.le_of_ble_eq_true rfl) rfl rfl (Nat.le_of_ble_eq_true rfl) ⟨Nat.le_refl _, Nat.le_refl _⟩ (fun x230 h231 => ?_)
                      obtain ⟨h227, h228, h229⟩ := h231
                      refine q_if_ne C 159 dX12_conditions_145 (n := 148) rfl rfl (by omega) (fun h232 => ?_) (fun h232 => ?_)
                      · exact zK.weak (J_136 (by omega)) (zwk_c (zwk_n (zwk_c (zwk_c (zwk_c zwk_e)))))
                      · exact zK.weak (J_213) (zwk_c (zwk_n (zwk_n (zwk_n (zwk_c zwk_e)))))
                · exact zK.weak (J_119) (zwk_c (zwk_n (zwk_n (zwk_n (zwk_c zwk_e)))))
            refine q_if_eq C 87 dX12_conditions_78 (n := 81) rfl rfl (by omega) (fun h233 => ?_) (fun h233 => ?_)
            · refine q_iload_n C dX12_conditions_87 (n := 88) rfl rfl ?_
              refine q_iconst C dX12_conditions_88 (n := 89) rfl ?_
              refine q_iadd C dX12_conditions_89 (n := 90) rfl (v := u5 + 1) rfl ?_
              exact zK.weak (J_118 (u5 + 1) (by omega) (by omega)) (zwk_c (zwk_n (zwk_c (zwk_c (zwk_n zwk_e)))))
            · refine q_iload_n C dX12_conditions_81 (n := 82) rfl rfl ?_
              refine q_iconst C dX12_conditions_82 (n := 83) rfl ?_
              refine q_iadd C dX12_conditions_83 (n := 84) rfl (v := u5 + 2) rfl ?_
              refine q_goto C 90 dX12_conditions_84 rfl ?_
              exact zK.weak (J_118 (u5 + 2) (by omega) (by omega)) (zwk_c (zwk_n (zwk_c (zwk_c (zwk_n zwk_e)))))
          have J_234 : zK w p e 7 0 0 s m args below meth c 5 T Po 75 [.ref (w.2.1 + a), .null, zi u5, .null, .null] [] (T, M7, J8, R) := by
            refine q_iconst C dX12_conditions_75 (n := 76) rfl ?_
            exact zK.weak (J_114 0 (by omega) (by omega) (by omega)) (zwk_c (zwk_n (zwk_c (zwk_n (zwk_n zwk_e)))))
          refine q_icmp_ge C 75 dX12_conditions_56 (n := 59) rfl rfl (by omega) (fun h235 => ?_) (fun h235 => ?_)
          · exact zK.weak (J_234) (zwk_c (zwk_n (zwk_c (zwk_n (zwk_n zwk_e)))))
          · refine q_aload_n C dX12_conditions_59 (n := 60) rfl rfl ?_
            refine q_iload_n C dX12_conditions_60 (n := 61) rfl rfl ?_
            refine q_iconst C dX12_conditions_61 (n := 62) rfl ?_
            refine q_iadd C dX12_conditions_62 (n := 63) rfl (v := u5 + 1) rfl ?_
            refine q_bipush C dX12_conditions_63 (n := 65) rfl (x := 40) (by decide) ?_
            refine q_callVp C dX12_conditions_65 (n := 68) rfl m_X12_406 v_yX12_isSign (zM0 h0) ⟨by decide, rfl⟩ (c_X12_isSign (w := w) (J := J8) hI9 hF h0 (u5 + 1) 40 (by omega) (by omega)) (Nat.le_of_ble_eq_true rfl) rfl rfl (Nat.le_of_ble_eq_true rfl) ⟨Nat.le_refl _, Nat.le_refl _⟩ (fun x239 h240 => ?_)
            obtain ⟨h236, h237, h238⟩ := h240
            refine q_if_eq C 75 dX12_conditions_68 (n := 71) rfl rfl (by omega) (fun h241 => ?_) (fun h241 => ?_)
            · exact zK.weak (J_234) (zwk_c (zwk_n (zwk_c (zwk_n (zwk_n zwk_e)))))
            · refine q_iconst C dX12_conditions_71 (n := 72) rfl ?_
              refine q_goto C 76 dX12_conditions_72 rfl ?_
              exact zK.weak (J_114 1 (by omega) (by omega) (by omega)) (zwk_c (zwk_n (zwk_c (zwk_n (zwk_n zwk_e)))))
        · have go := h17 u5 (by omega)
          have hy0 := hyl u5 (by omega) (by omega)
          have hy1 : M a 23 ≤ u5 + 1 ∨ (0 ≤ og (u5 + 1) ∧ 1 ≤ lg (u5 + 1) ∧ og (u5 + 1) + lg (u5 + 1) ≤ 440 ∧ (M a 23 ≤ u5 + 1 + 1 ∨ og (u5 + 1) + lg (u5 + 1) ≤ og (u5 + 1 + 1))) := (Decidable.em (u5 + 1 < M a 23)).symm.imp (fun q => by omega) (fun q => hyl (u5 + 1) (by omega) q)
          have hy2 : M a 23 ≤ u5 + 2 ∨ (0 ≤ og (u5 + 2) ∧ 1 ≤ lg (u5 + 2) ∧ og (u5 + 2) + lg (u5 + 2) ≤ 440 ∧ (M a 23 ≤ u5 + 2 + 1 ∨ og (u5 + 2) + lg (u5 + 2) ≤ og (u5 + 2 + 1))) := (Decidable.em (u5 + 2 < M a 23)).symm.imp (fun q => by omega) (fun q => hyl (u5 + 2) (by omega) q)
          have hy3 : M a 23 ≤ u5 + 3 ∨ (0 ≤ og (u5 + 3) ∧ 1 ≤ lg (u5 + 3) ∧ og (u5 + 3) + lg (u5 + 3) ≤ 440 ∧ (M a 23 ≤ u5 + 3 + 1 ∨ og (u5 + 3) + lg (u5 + 3) ≤ og (u5 + 3 + 1))) := (Decidable.em (u5 + 3 < M a 23)).symm.imp (fun q => by omega) (fun q => hyl (u5 + 3) (by omega) q)
          have ee1 : og (u5 + 1 + 1) = og (u5 + 2) ∧ og (u5 + 2 + 1) = og (u5 + 3) := ⟨by rw [show u5 + 1 + 1 = u5 + 2 by omega], by rw [show u5 + 2 + 1 = u5 + 3 by omega]⟩
          refine q_aload_n C dX12_conditions_23 (n := 24) rfl rfl ?_
          refine q_getR C dX12_conditions_24 (n := 27) rfl f_X12_135 (zM0 h0) (hF _ _ _ (zM133 h0)) ?_
          refine q_aload_n C dX12_conditions_27 (n := 28) rfl rfl ?_
          have g242 := zI.at hI9 (zM144 h0)
          refine q_getI C dX12_conditions_28 (n := 31) rfl f_X12_500 (zM0 h0) (v := M7 a 59) rfl ?_
          refine q_iload_n C dX12_conditions_31 (n := 32) rfl rfl ?_
          refine q_iast C dX12_conditions_32 (n := 33) rfl (zM134 h0) (by omega)  (fun M243 e244 => ?_)
          have hI245 : zI G M243 := hI9.put e244 ((zM135 h0) (M7 a 59)) rfl (by omega)
          have hK246 := hK10.upA e244 rfl
          have hK247 := hK11.upA e244 rfl
          refine q_aload_n C dX12_conditions_33 (n := 34) rfl rfl ?_
          refine q_dup C dX12_conditions_34 (n := 35) rfl rfl ?_
          refine q_getI C dX12_conditions_35 (n := 38) rfl f_X12_500 (zM0 h0) (v := M7 a 59) (zup_p e244 (by omega) _) ?_
          refine q_iconst C dX12_conditions_38 (n := 39) rfl ?_
          refine q_iadd C dX12_conditions_39 (n := 40) rfl (v := (M7 a 59) + 1) rfl ?_
          refine q_putI C dX12_conditions_40 (n := 43) rfl f_X12_500 (zM0 h0) ⟨rfl, rfl⟩ (fun M248 (e249 : M248 = zup M243 a 59 ((M7 a 59) + 1)) => ?_)
          have hI250 : zI G M248 := hI245.put e249 (zM144 h0) rfl (by omega)
          have hK251 := hK246.upS e249 rfl
          have hK252 := hK247.upS e249 rfl
          refine q_iinc C [.ref (w.2.1 + a), .null, zi (u5 + 1), .null, .null] dX12_conditions_43 (n := 46) rfl rfl rfl rfl ?_
          refine q_goto C 7 dX12_conditions_46 rfl ?_
          have hp259 : zOg M248 a og lg := h17.cg (fun j => ((zup_p e249 (by omega) _).trans (zup_p e244 (by omega) _))) (fun j => ((zup_p e249 (by omega) _).trans (zup_p e244 (by omega) _)))
          exact zK.weak (ih20 (u5 + 1) M248 J8 hI250 hK251 hK252 (by omega) (by omega) (by have hw : M248 a 25 = M7 a 25 := ((zup_n e249 (by omega)).trans (zup_p e244 (by omega) _)); rcases (show u5 + 1 = u5 + 1 ∨ u5 + 1 = u5 + 2 ∨ u5 + 1 = u5 + 3 ∨ u5 + 1 = u5 + 4 by omega) with q | q | q | q <;> rw [q] <;> first | omega | (rw [show u5 + 4 = u5 + 3 + 1 by omega]; omega)) (by have hz253 : M248 a 24 = M7 a 24 := ((zup_n e249 (by omega)).trans (zup_p e244 (by omega) _)); have hz254 : M248 a 25 = M7 a 25 := ((zup_n e249 (by omega)).trans (zup_p e244 (by omega) _)); have hz255 : M248 a 25 = M7 a 25 := ((zup_n e249 (by omega)).trans (zup_p e244 (by omega) _)); omega) (by have hz256 : M248 a 59 = (M7 a 59) + 1 := (zup_s e249); have hz257 : M248 a 59 = (M7 a 59) + 1 := (zup_s e249); have hz258 : M248 a 59 = (M7 a 59) + 1 := (zup_s e249); omega) hp259 (by omega)) (zwk_c (zwk_n (zwk_c (zwk_n (zwk_n zwk_e)))))
  have hp266 : zOg M1 a og lg := p1.cg (fun j => (zup_p e2 (by omega) _)) (fun j => (zup_p e2 (by omega) _))
  exact zK.weak (L_18 _ v1 M1 J hI3 hK4 (zMd.rf : zMd a [9, 10, 11, 12, 13, 14, 15, 16, 17, 40] [24, 25, 59] [] M1 M1) (by omega) (by omega) (by have hw : M1 a 25 = M a 25 := (zup_n e2 (by omega)); by_cases q : v1 < M a 23; (have := hyl v1 (by omega) q; omega); omega) (by have hz260 : M1 a 24 = M a 24 := (zup_n e2 (by omega)); have hz261 : M1 a 25 = M a 25 := (zup_n e2 (by omega)); have hz262 : M1 a 25 = M a 25 := (zup_n e2 (by omega)); omega) (by have hz263 : M1 a 59 = 0 := (zup_s e2); have hz264 : M1 a 59 = 0 := (zup_s e2); have hz265 : M1 a 59 = 0 := (zup_s e2); omega) hp266 (Int.self_le_toNat _)) (zwk_c (zwk_n (zwk_c (zwk_n (zwk_n zwk_e)))))
