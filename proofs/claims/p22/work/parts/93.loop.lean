/-! ===== the law: its loop ===== -/
section LAWL
variable {w : zWp} {p : Program} {e : Env} {s : State} {m : MethodId} {args : Array Value} {below : List Frame} {meth : Method} {c : Code} {Q : State → Prop} {sb L : Nat} {xs : Nat → Int32} {a : Nat}
theorem lw_loop (C : zCx w p s m args meth c yL_law cL_law 8 (some .boolean)) (hS0 : zScr w s sb L xs) (hend : ∀ (T : zTl) (M : zMm) (J : zJm) (R : zRm') (kc nc : Nat) (i : Int), kc ≤ 601024 → nc ≤ 7293034 → zJ w p e 1312 601024 7293034 s m args below meth c 8 Q kc nc 1027 [.ref sb, .ref (w.2.1 + a), .ref (w.2.1 + (a + 836)), .ref (w.2.1 + (a + 919)), zi i, .null, .null, .null] [] (T, M, J, R)) : ∀ (n it : Nat) (i : Int) (kc nc : Nat) (T : zTl) (M : zMm) (J : zJm) (R : zRm'), i = 6 * (it : Int) → i ≤ (L : Int) → (L : Int) - i < (n : Int) → zLv a it kc nc T M R → zJ w p e 1312 601024 7293034 s m args below meth c 8 Q kc nc 23 [.ref sb, .ref (w.2.1 + a), .ref (w.2.1 + (a + 836)), .ref (w.2.1 + (a + 919)), zi i, .null, .null, .null] [] (T, M, J, R)
  | 0, it, i, kc, nc, T, M, J, R, hi, h1, h2, hv => absurd h2 (by omega)
  | n + 1, it, i, kc, nc, T, M, J, R, hi, h1, h2, hv => by
    have hL2 := hS0.2.2.2
    have hk1 := hv.1.1
    have hk2 := hv.1.2.1
    refine jq_iload C dL_law_23 (n := 25) rfl rfl ?_
    refine jq_aload_n C dL_law_25 (n := 26) rfl rfl ?_
    refine j_slen C hS0 dL_law_26 (n := 27) rfl ?_
    refine jq_bipush C dL_law_27 (n := 29) rfl (x := 6) (by decide) ?_
    refine jq_isub C dL_law_29 (n := 30) rfl (v := (L : Int) - 6) rfl ?_
    refine jq_icmp_gt C 1027 dL_law_30 (n := 33) rfl rfl ⟨by omega, by omega⟩ (fun h => ?_) (fun h => ?_)
    · exact hend T M J R kc nc i (by omega) (by omega)
    · refine jq_aload_n C dL_law_33 (n := 34) rfl rfl ?_
      refine jq_iload C dL_law_34 (n := 36) rfl rfl ?_
      refine j_sld C hS0 dL_law_36 (n := 37) rfl ⟨by omega, by omega⟩ ?_
      refine jq_bipush C dL_law_37 (n := 39) rfl (x := 31) (by decide) ?_
      refine jq_iand C dL_law_39 (n := 40) rfl (v := zand (zsc xs i) 31) rfl ?_
      have g := zand_r (x := zsc xs i) (k := 31) (by omega)
      have kk : ∀ (T2 : zTl) (M2 : zMm) (J2 : zJm) (R2 : zRm') (kc2 nc2 : Nat), zLv a (it + 1) kc2 nc2 T2 M2 R2 → zJ w p e 1312 601024 7293034 s m args below meth c 8 Q kc2 nc2 1021 [.ref sb, .ref (w.2.1 + a), .ref (w.2.1 + (a + 836)), .ref (w.2.1 + (a + 919)), zi i, .null, .null, .null] [] (T2, M2, J2, R2) := fun T2 M2 J2 R2 kc2 nc2 hv2 => by
        refine jq_iinc C [.ref sb, .ref (w.2.1 + a), .ref (w.2.1 + (a + 836)), .ref (w.2.1 + (a + 919)), zi (i + 6), .null, .null, .null] dL_law_1021 (n := 1024) rfl rfl rfl rfl ?_
        refine jq_goto C 23 dL_law_1024 rfl ?_
        exact lw_loop C hS0 hend n (it + 1) (i + 6) kc2 nc2 T2 M2 J2 R2 (by omega) (by omega) (by omega) hv2
      by_cases h0 : zand (zsc xs i) 31 = 0
      · refine jq_tabIn C 168 dL_law_40 h0 (by omega) rfl rfl ?_
        exact lc_0 C hS0 hi h hv kk
      by_cases h1 : zand (zsc xs i) 31 = 1
      · refine jq_tabIn C 241 dL_law_40 h1 (by omega) rfl rfl ?_
        exact lc_1 C hS0 hi h hv kk
      by_cases h2 : zand (zsc xs i) 31 = 2
      · refine jq_tabIn C 266 dL_law_40 h2 (by omega) rfl rfl ?_
        exact lc_2 C hS0 hi h hv kk
      by_cases h3 : zand (zsc xs i) 31 = 3
      · refine jq_tabIn C 291 dL_law_40 h3 (by omega) rfl rfl ?_
        exact lc_3 C hS0 hi h hv kk
      by_cases h4 : zand (zsc xs i) 31 = 4
      · refine jq_tabIn C 304 dL_law_40 h4 (by omega) rfl rfl ?_
        exact lc_4 C hS0 hi h hv kk
      by_cases h5 : zand (zsc xs i) 31 = 5
      · refine jq_tabIn C 329 dL_law_40 h5 (by omega) rfl rfl ?_
        exact lc_5 C hS0 hi h hv kk
      by_cases h6 : zand (zsc xs i) 31 = 6
      · refine jq_tabIn C 354 dL_law_40 h6 (by omega) rfl rfl ?_
        exact lc_6 C hS0 hi h hv kk
      by_cases h7 : zand (zsc xs i) 31 = 7
      · refine jq_tabIn C 379 dL_law_40 h7 (by omega) rfl rfl ?_
        exact lc_7 C hS0 hi h hv kk
      by_cases h8 : zand (zsc xs i) 31 = 8
      · refine jq_tabIn C 392 dL_law_40 h8 (by omega) rfl rfl ?_
        exact lc_8 C hS0 hi h hv kk
      by_cases h9 : zand (zsc xs i) 31 = 9
      · refine jq_tabIn C 408 dL_law_40 h9 (by omega) rfl rfl ?_
        exact lc_9 C hS0 hi h hv kk
      by_cases h10 : zand (zsc xs i) 31 = 10
      · refine jq_tabIn C 448 dL_law_40 h10 (by omega) rfl rfl ?_
        exact lc_10 C hS0 hi h hv kk
      by_cases h11 : zand (zsc xs i) 31 = 11
      · refine jq_tabIn C 485 dL_law_40 h11 (by omega) rfl rfl ?_
        exact lc_11 C hS0 hi h hv kk
      by_cases h12 : zand (zsc xs i) 31 = 12
      · refine jq_tabIn C 525 dL_law_40 h12 (by omega) rfl rfl ?_
        exact lc_12 C hS0 hi h hv kk
      by_cases h13 : zand (zsc xs i) 31 = 13
      · refine jq_tabIn C 562 dL_law_40 h13 (by omega) rfl rfl ?_
        exact lc_13 C hS0 hi h hv kk
      by_cases h14 : zand (zsc xs i) 31 = 14
      · refine jq_tabIn C 587 dL_law_40 h14 (by omega) rfl rfl ?_
        exact lc_14 C hS0 hi h hv kk
      by_cases h15 : zand (zsc xs i) 31 = 15
      · refine jq_tabIn C 624 dL_law_40 h15 (by omega) rfl rfl ?_
        exact lc_15 C hS0 hi h hv kk
      by_cases h16 : zand (zsc xs i) 31 = 16
      · refine jq_tabIn C 673 dL_law_40 h16 (by omega) rfl rfl ?_
        exact lc_16 C hS0 hi h hv kk
      by_cases h17 : zand (zsc xs i) 31 = 17
      · refine jq_tabIn C 698 dL_law_40 h17 (by omega) rfl rfl ?_
        exact lc_17 C hS0 hi h hv kk
      by_cases h18 : zand (zsc xs i) 31 = 18
      · refine jq_tabIn C 735 dL_law_40 h18 (by omega) rfl rfl ?_
        exact lc_18 C hS0 hi h hv kk
      by_cases h19 : zand (zsc xs i) 31 = 19
      · refine jq_tabIn C 760 dL_law_40 h19 (by omega) rfl rfl ?_
        exact lc_19 C hS0 hi h hv kk
      by_cases h20 : zand (zsc xs i) 31 = 20
      · refine jq_tabIn C 785 dL_law_40 h20 (by omega) rfl rfl ?_
        exact lc_20 C hS0 hi h hv kk
      by_cases h21 : zand (zsc xs i) 31 = 21
      · refine jq_tabIn C 810 dL_law_40 h21 (by omega) rfl rfl ?_
        exact lc_21 C hS0 hi h hv kk
      by_cases h22 : zand (zsc xs i) 31 = 22
      · refine jq_tabIn C 847 dL_law_40 h22 (by omega) rfl rfl ?_
        exact lc_22 C hS0 hi h hv kk
      by_cases h23 : zand (zsc xs i) 31 = 23
      · refine jq_tabIn C 884 dL_law_40 h23 (by omega) rfl rfl ?_
        exact lc_23 C hS0 hi h hv kk
      by_cases h24 : zand (zsc xs i) 31 = 24
      · refine jq_tabIn C 921 dL_law_40 h24 (by omega) rfl rfl ?_
        exact lc_24 C hS0 hi h hv kk
      by_cases h25 : zand (zsc xs i) 31 = 25
      · refine jq_tabIn C 946 dL_law_40 h25 (by omega) rfl rfl ?_
        exact lc_25 C hS0 hi h hv kk
      by_cases h26 : zand (zsc xs i) 31 = 26
      · refine jq_tabIn C 971 dL_law_40 h26 (by omega) rfl rfl ?_
        exact lc_26 C hS0 hi h hv kk
      by_cases h27 : zand (zsc xs i) 31 = 27
      · refine jq_tabIn C 996 dL_law_40 h27 (by omega) rfl rfl ?_
        exact lc_27 C hS0 hi h hv kk
      refine jq_tabOut C 1021 dL_law_40 (by omega) (by omega) rfl ?_
      exact kk T M J R kc nc ⟨hv.1.up ⟨by omega, by omega⟩, hv.2⟩
end LAWL
