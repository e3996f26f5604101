theorem c_X11_forget_n {w : zWp} {T : zTl} {M : zMm} {J : zJm} {R : zRm'} {G : zGt} {F : zRm'} {a : Nat} (hI : zI G M) (hF : zF F R) (h0 : zHideSets T F G a) (hst : R a 8 = none) : zCt w 1 0 0 yX11_forgetStudy cX11_forgetStudy 1 none [.ref (w.2.1 + a)] (T, M, J, R) (zPv T R G (fun M2 => (zKp G 17 M M2))) := by
  refine zCt.of rfl (Nat.le_of_ble_eq_true rfl) ?_
  intro p e s m args below meth c C
  obtain ⟨Po, hPo⟩ : ∃ Po, Po = zPv T R G (fun M2 => (zKp G 17 M M2)) := ⟨_, rfl⟩
  rw [← hPo]
  have hK0 : zKp G 17 M M := zKp.rf
  show zK w p e 1 0 0 s m args below meth c 1 T Po 0 [.ref (w.2.1 + a)] [] (T, M, J, R)
  refine q_aload_n C dX11_forgetStudy_0 (n := 1) rfl rfl ?_
  refine q_getN C dX11_forgetStudy_1 (n := 4) rfl f_X11_47 h0.1 hst ?_
  refine q_ifnullN C 15 dX11_forgetStudy_4 rfl ?_
  exact q_vret C dX11_forgetStudy_15 ⟨rfl, rfl⟩ (by rw [hPo]; exact ⟨M, J, rfl, rfl, hI, hK0⟩)
theorem c_X11_forget_s {w : zWp} {T : zTl} {M : zMm} {J : zJm} {R : zRm'} {G : zGt} {F : zRm'} {a sy : Nat} (hI : zI G M) (hF : zF F R) (h0 : zHideSets T F G a) (hst : R a 8 = some sy) (h_sy : zStudy T F G sy) : zCt w 1 0 0 yX11_forgetStudy cX11_forgetStudy 1 none [.ref (w.2.1 + a)] (T, M, J, R) (zPv T R G (fun M2 => (zKp G 17 M M2))) := by
  refine zCt.of rfl (Nat.le_of_ble_eq_true rfl) ?_
  intro p e s m args below meth c C
  obtain ⟨Po, hPo⟩ : ∃ Po, Po = zPv T R G (fun M2 => (zKp G 17 M M2)) := ⟨_, rfl⟩
  rw [← hPo]
  have hK0 : zKp G 17 M M := zKp.rf
  show zK w p e 1 0 0 s m args below meth c 1 T Po 0 [.ref (w.2.1 + a)] [] (T, M, J, R)
  refine q_aload_n C dX11_forgetStudy_0 (n := 1) rfl rfl ?_
  refine q_getR C dX11_forgetStudy_1 (n := 4) rfl f_X11_47 h0.1 hst ?_
  refine q_ifnullR C dX11_forgetStudy_4 (n := 7) rfl ?_
  refine q_aload_n C dX11_forgetStudy_7 (n := 8) rfl rfl ?_
  refine q_getR C dX11_forgetStudy_8 (n := 11) rfl f_X11_47 h0.1 hst ?_
  refine q_iconst C dX11_forgetStudy_11 (n := 12) rfl ?_
  refine q_putI C dX11_forgetStudy_12 (n := 15) rfl f_X11_82 h_sy.1 ⟨rfl, rfl⟩ (fun M1 (e2 : M1 = zup M sy 5 (-1)) => ?_)
  have hI3 : zI G M1 := hI.put e2 h_sy.2.2.2.2.2.2.2.2.2.2.2.2.2.2.2 rfl (by omega)
  have hK4 := hK0.put e2 h_sy.2.2.2.2.2.2.2.2.2.2.2.2.2.2.2 (by decide)
  exact q_vret C dX11_forgetStudy_15 ⟨rfl, rfl⟩ (by rw [hPo]; exact ⟨M1, J, rfl, rfl, hI3, hK4⟩)
theorem c_X11_forgetStudy {w : zWp} {T : zTl} {M : zMm} {J : zJm} {R : zRm'} {G : zGt} {F : zRm'} {a : Nat} (hI : zI G M) (hF : zF F R) (h0 : zHideSets T F G a) (hst : R a 8 = none ∨ ∃ sy, R a 8 = some sy ∧ zStudy T F G sy) : zCt w 1 0 0 yX11_forgetStudy cX11_forgetStudy 1 none [.ref (w.2.1 + a)] (T, M, J, R) (zPv T R G (fun M2 => (zKp G 17 M M2))) := hst.elim (fun h => c_X11_forget_n hI hF h0 h) (fun ⟨_, h, hs⟩ => c_X11_forget_s hI hF h0 h hs)
