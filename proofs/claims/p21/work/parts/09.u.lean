set_option maxRecDepth 100000 in
theorem m_X10_19 : zCw RX10 19 yJ0_length_8abf5 cJ0_length_8abf5 1 (some .int) 0 := ⟨zt3 112 rfl rfl, zt3 115 rfl rfl, zt1 13 rfl rfl, ⟨by decide +kernel, by decide +kernel, by decide +kernel⟩, by decide⟩
set_option maxRecDepth 100000 in
theorem m_X10_25 : zCw RX10 25 yJ0_charAt_5068e cJ0_charAt_5068e 2 (some .char) 1 := ⟨zt3 122 rfl rfl, zt3 125 rfl rfl, zt1 13 rfl rfl, ⟨by decide +kernel, by decide +kernel, by decide +kernel⟩, by decide⟩
set_option maxRecDepth 100000 in
theorem m_J0_335 : zCw RJ0 335 yJ0_coder_7d493 cJ0_coder_7d493 1 (some .byte) 0 := ⟨zt3 116 rfl rfl, zt3 119 rfl rfl, zt1 13 rfl rfl, ⟨by decide +kernel, by decide +kernel, by decide +kernel⟩, by decide⟩
set_option maxRecDepth 100000 in
theorem m_J0_492 : zCw RJ0 492 yJ0_isLatin1_aae02 cJ0_isLatin1_aae02 1 (some .boolean) 0 := ⟨zt3 126 rfl rfl, zt3 129 rfl rfl, zt1 13 rfl rfl, ⟨by decide +kernel, by decide +kernel, by decide +kernel⟩, by decide⟩
set_option maxRecDepth 100000 in
theorem m_J0_495 : zCw RJ0 495 yJ1_charAt_3b067 cJ1_charAt_3b067 2 (some .char) 2 := ⟨zt3 130 rfl rfl, zt3 132 rfl rfl, zt1 14 rfl rfl, ⟨by decide +kernel, by decide +kernel, by decide +kernel⟩, by decide⟩
set_option maxRecDepth 100000 in
theorem m_J1_9 : zCw RJ1 9 yJ0_checkIndex_df160 cJ0_checkIndex_df160 2 none 2 := ⟨zt3 133 rfl rfl, zt3 135 rfl rfl, zt1 13 rfl rfl, ⟨by decide +kernel, by decide +kernel, by decide +kernel⟩, by decide⟩
set_option maxRecDepth 100000 in
theorem m_J0_1059 : zCw RJ0 1059 yJ3_checkIndex_8e157 cJ3_checkIndex_8e157 3 (some .int) 3 := ⟨zt3 138 rfl rfl, zt3 140 rfl rfl, zt1 15 rfl rfl, ⟨by decide +kernel, by decide +kernel, by decide +kernel⟩, by decide⟩
set_option maxRecDepth 100000 in
theorem v_yJ0_length_8abf5 : (Cond.instanceMethod yJ0_length_8abf5) ∈ lw_g ∧ (Cond.selects yJ0_length_8abf5.cls yJ0_length_8abf5 yJ0_length_8abf5) ∈ lw_g := ⟨zt3 113 rfl rfl, zt3 114 rfl rfl⟩
set_option maxRecDepth 100000 in
theorem v_yJ0_charAt_5068e : (Cond.instanceMethod yJ0_charAt_5068e) ∈ lw_g ∧ (Cond.selects yJ0_charAt_5068e.cls yJ0_charAt_5068e yJ0_charAt_5068e) ∈ lw_g := ⟨zt3 123 rfl rfl, zt3 124 rfl rfl⟩
set_option maxRecDepth 100000 in
theorem v_yJ0_coder_7d493 : (Cond.instanceMethod yJ0_coder_7d493) ∈ lw_g ∧ (Cond.selects yJ0_coder_7d493.cls yJ0_coder_7d493 yJ0_coder_7d493) ∈ lw_g := ⟨zt3 117 rfl rfl, zt3 118 rfl rfl⟩
set_option maxRecDepth 100000 in
theorem v_yJ0_isLatin1_aae02 : (Cond.instanceMethod yJ0_isLatin1_aae02) ∈ lw_g ∧ (Cond.selects yJ0_isLatin1_aae02.cls yJ0_isLatin1_aae02 yJ0_isLatin1_aae02) ∈ lw_g := ⟨zt3 127 rfl rfl, zt3 128 rfl rfl⟩
set_option maxRecDepth 100000 in
theorem s_yJ1_charAt_3b067 : (Cond.static yJ1_charAt_3b067) ∈ lw_g := zt3 131 rfl rfl
set_option maxRecDepth 100000 in
theorem s_yJ0_checkIndex_df160 : (Cond.static yJ0_checkIndex_df160) ∈ lw_g := zt3 134 rfl rfl
set_option maxRecDepth 100000 in
theorem s_yJ3_checkIndex_8e157 : (Cond.static yJ3_checkIndex_8e157) ∈ lw_g := zt3 139 rfl rfl
section STR
variable {w : zWp} {p : Program} {e : Env} {d mc ms : Nat} {s : State} {m : MethodId} {args : Array Value} {below : List Frame} {meth : Method} {c : Code} {y : MethodName} {b : ByteArray} {nL : Nat} {ret : Option FieldType} {T0 T : zTl} {M : zMm} {J : zJm} {R : zRm'} {Post : Option Value → zSg → Prop} {pc n : Nat} {lv st : List Value} {σ : zSg}
theorem zi_one : zi 1 = Value.int 1 := rfl
theorem zi_zero : zi 0 = Value.int 0 := rfl
theorem q_gsC (C : zCx w p s m args meth c y b nL ret) (hy : y.cls = "java/lang/String") (hd : decode b pc = .ok (.getstatic 38, 3)) (hn : pc + 3 = n) (kk : zK w p e d mc ms s m args below meth c nL T0 Post n lv (zi 1 :: st) σ) : zK w p e d mc ms s m args below meth c nL T0 Post pc lv st σ := fun ls H locs q n2 h1 h2 hl hW hS => by
  have hc := C.2.2.2.1
  rw [hy] at hc
  have hk := kk ls H locs q n2 h1 h2 hl hW hS
  rw [← hn] at hk
  rw [zi_one] at hk
  exact va_gets (own := "java/lang/String") (ref := "java/lang/String") C.1 C.2.1 C.2.2.2.2.2.2.2.2.2.1.1.2.2.2.2.2.1 hS hc (C.2.2.2.2.1 (.fieldLink "java/lang/String" 38 "java/lang/String" "COMPACT_STRINGS" "Z") (zt3 120 rfl rfl)) (fun _ h => h) hd hk
theorem q_gsF (C : zCx w p s m args meth c y b nL ret) (hy : y.cls = "java/lang/String") (hd : decode b pc = .ok (.getstatic 1053, 3)) (hn : pc + 3 = n) (k0 : zK w p e d mc ms s m args below meth c nL T0 Post n lv (.null :: st) σ) (k1 : ∀ t : Nat, zK w p e d mc ms s m args below meth c nL T0 Post n lv (.ref t :: st) σ) : zK w p e d mc ms s m args below meth c nL T0 Post pc lv st σ := fun ls H locs q n2 h1 h2 hl hW hS => by
  have hc := C.2.2.2.1
  rw [hy] at hc
  subst hn
  have hl2 := C.2.2.2.2.1 (.fieldLink "java/lang/String" 1053 "jdk/internal/util/Preconditions" "SIOOBE_FORMATTER" "Ljava/util/function/BiFunction;") (zt3 136 rfl rfl)
  rcases C.2.2.2.2.2.2.2.2.2.1.1.2.2.2.2.2.2.2.2 with hz | ⟨t, hz⟩
  · exact va_gets (own := "java/lang/String") (ref := "jdk/internal/util/Preconditions") C.1 C.2.1 hz hS hc hl2 (fun _ h => h) hd (k0 ls H locs q n2 h1 h2 hl hW hS)
  · exact va_gets (own := "java/lang/String") (ref := "jdk/internal/util/Preconditions") C.1 C.2.1 hz hS hc hl2 (fun _ h => h) hd (k1 t ls H locs q n2 h1 h2 hl hW hS)
theorem q_gfV (C : zCx w p s m args meth c y b nL ret) {k : Nat} (h10 : k < 10) (hy : y.cls = "java/lang/String") (hd : decode b pc = .ok (.getfield 9, 3)) (hn : pc + 3 = n) (kk : zK w p e d mc ms s m args below meth c nL T0 Post n lv (.ref (w.2.2.2.2 (100 + k)) :: st) σ) : zK w p e d mc ms s m args below meth c nL T0 Post pc lv (.ref (w.2.2.2.2 k) :: st) σ := fun ls H locs q n2 h1 h2 hl hW hS => by
  have hc := C.2.2.2.1
  rw [hy] at hc
  have hk := kk ls H locs q n2 h1 h2 hl hW hS
  rw [← hn] at hk
  exact vk_getf (own := "java/lang/String") (ref := "java/lang/String") C.1 C.2.1 (C.2.2.2.2.2.2.2.2.2.1.1.2.2.2.2.1.1 k h10).2.2.1 hS hc (C.2.2.2.2.1 (.fieldLink "java/lang/String" 9 "java/lang/String" "value" "[B") (zt10 143 rfl rfl)) (fun _ h => h) hd hk
theorem q_gfC (C : zCx w p s m args meth c y b nL ret) {k : Nat} (h10 : k < 10) (hy : y.cls = "java/lang/String") (hd : decode b pc = .ok (.getfield 15, 3)) (hn : pc + 3 = n) (kk : zK w p e d mc ms s m args below meth c nL T0 Post n lv (zi 0 :: st) σ) : zK w p e d mc ms s m args below meth c nL T0 Post pc lv (.ref (w.2.2.2.2 k) :: st) σ := fun ls H locs q n2 h1 h2 hl hW hS => by
  have hc := C.2.2.2.1
  rw [hy] at hc
  have hk := kk ls H locs q n2 h1 h2 hl hW hS
  rw [← hn] at hk
  rw [zi_zero] at hk
  exact vk_getf (own := "java/lang/String") (ref := "java/lang/String") C.1 C.2.1 (C.2.2.2.2.2.2.2.2.2.1.1.2.2.2.2.1.1 k h10).2.1 hS hc (C.2.2.2.2.1 (.fieldLink "java/lang/String" 15 "java/lang/String" "coder" "B") (zt10 144 rfl rfl)) (fun _ h => h) hd hk
theorem q_alS (C : zCx w p s m args meth c y b nL ret) {k : Nat} (h10 : k < 10) (hd : decode b pc = .ok (.arraylength, 1)) (hn : pc + 1 = n) (kk : zK w p e d mc ms s m args below meth c nL T0 Post n lv (zi ((zTxl.getD k 0 : Nat) : Int) :: st) σ) : zK w p e d mc ms s m args below meth c nL T0 Post pc lv (.ref (w.2.2.2.2 (100 + k)) :: st) σ := fun ls H locs q n2 h1 h2 hl hW hS => by
  have hk := kk ls H locs q n2 h1 h2 hl hW hS
  rw [← hn] at hk
  exact va_tlen C.1 C.2.1 (C.2.2.2.2.2.2.2.2.2.1.1.2.2.2.2.1.1 k h10).2.2.2 hS (v := Int32.ofInt ((zTxl.getD k 0 : Nat) : Int)) Int32.ofInt_eq_ofNat.symm hd hk
theorem zTxl_r (k : Nat) : zTxl.getD k 0 ≤ 7 := by
  by_cases h : k < 10
  · have : ∀ k, k < 10 → zTxl.getD k 0 ≤ 7 := by decide
    exact this k h
  · have e : zTxl.getD k 0 = 0 := by rw [List.getD_eq_getElem?_getD, List.getElem?_eq_none (by show 10 ≤ k; omega)]; rfl
    omega
theorem q_blS (C : zCx w p s m args meth c y b nL ret) {k : Nat} {i : Int} (h10 : k < 10) (hd : decode b pc = .ok (.baload, 1)) (hn : pc + 1 = n) (hi : 0 ≤ i ∧ i < (zTxl.getD k 0 : Nat)) (kk : ∀ x : Int, zK w p e d mc ms s m args below meth c nL T0 Post n lv (zi x :: st) σ) : zK w p e d mc ms s m args below meth c nL T0 Post pc lv (zi i :: .ref (w.2.2.2.2 (100 + k)) :: st) σ := fun ls H locs q n2 h1 h2 hl hW hS => by
  have hk := kk ((zTxb.getD k []).getD (Int32.ofInt i).toNatClampNeg 0).toInt ls H locs q n2 h1 h2 hl hW hS
  rw [← hn, ← zback] at hk
  have h7 := zTxl_r k
  exact va_tb C.1 C.2.1 (C.2.2.2.2.2.2.2.2.2.1.1.2.2.2.2.1.1 k h10).2.2.2 hS (zin ⟨hi.1, hi.2, by omega⟩).1 rfl hd hk
theorem r_nret {ty : FieldType} (C : zCx w p s m args meth c y b nL (some ty)) {x : Int} (hx : narrow ty (zi x) = zi x) (hd : decode b pc = .ok (.ireturn, 1)) (hT : σ.1.length = T0.length + mc ∧ zsz σ.1 = zsz T0 + ms) (hp : Post (some (zi x)) σ) : zK w p e d mc ms s m args below meth c nL T0 Post pc lv [zi x] σ := fun ls H locs k n h1 h2 hl hW hS => by
  obtain ⟨g1, g2⟩ := hT
  have e1 : k = mc := by omega
  have e2 : n = ms := by omega
  subst e1
  subst e2
  exact W.zret C.1 C.2.1 C.2.2.2.2.2.2.1 hx (fun t ht hw => ⟨some (zi x), σ, rfl, ⟨hp, g1, g2⟩, by rw [ht]; exact hW, hS.F ht⟩) (fun q hq => hS.2.2 q hq) hd C.2.2.2.2.2.1
theorem q_i2c (C : zCx w p s m args meth c y b nL ret) {x : Int} (hd : decode b pc = .ok (.i2c, 1)) (hn : pc + 1 = n) (kk : zK w p e d mc ms s m args below meth c nL T0 Post n lv (zi (zand x 255) :: st) σ) : zK w p e d mc ms s m args below meth c nL T0 Post pc lv (zi (zand x 255) :: st) σ := fun ls H locs q n2 h1 h2 hl hW hS => by
  have hk := kk ls H locs q n2 h1 h2 hl hW hS
  rw [← hn] at hk
  refine lv_i2c C.1 C.2.1 hd ?_ hk
  unfold zand
  rw [Int32.ofInt_toInt]
  exact sc_c2 _
theorem z_nar (x : Int) : narrow .char (zi (zand x 255)) = zi (zand x 255) := by
  unfold zi zand
  rw [Int32.ofInt_toInt]
  exact sc_nar _
theorem r_callVT (C : zCx w p s m args meth c y b nL ret) {ix d2 n2 nL2 k : Nat} {y2 : MethodName} {b2 : ByteArray} {ret2 : Option FieldType} {As stk : List Value} {P2 : Option Value → zSg → Prop} (h10 : k < 10) (hy2 : y2.cls = "java/lang/String") (hw : zCw y.cls ix y2 b2 nL2 ret2 n2) (hv : (Cond.instanceMethod y2) ∈ lw_g ∧ (Cond.selects y2.cls y2 y2) ∈ lw_g)
    (hn : As.length = n2) (hM : zCt w d2 0 0 y2 b2 nL2 ret2 (.ref (w.2.2.2.2 k) :: As) σ P2) (hd2 : d2 + 1 ≤ d) (hst : stk = As.reverse ++ .ref (w.2.2.2.2 k) :: st) (hrm : (st.map fun v => v.category).sum ≤ 8) (hrc : σ.1.length ≤ T0.length + mc ∧ zsz σ.1 ≤ zsz T0 + ms) (hd : decode b pc = .ok (.invokevirtual ix, 3))
    (kk : ∀ (v : Option Value) (σ' : zSg), P2 v σ' → σ'.1.length = σ.1.length + 0 → zsz σ'.1 = zsz σ.1 + 0 → zK w p e d mc ms s m args below meth c nL T0 Post (pc + 3) lv (v.toList ++ st) σ') : zK w p e d mc ms s m args below meth c nL T0 Post pc lv stk σ := fun ls H locs k' n h1 h2 hl hW hS => by
  obtain ⟨w1, w2, w3, w4, w5⟩ := hw
  have hts := C.2.2.2.2.1
  have hrecv := va_Orecv (C.2.2.2.2.2.2.2.2.2.1.1.2.2.2.2.1.1 k h10).1 hS
  rw [← hy2] at hrecv
  have hpre := zPc.at (av := .ref (w.2.2.2.2 k) :: As) C hW hS
  have cw : CallW (zRm d mc ms) s args y.cls y2.cls ix y2 b2 nL2 ret2 (zws y2 b2 nL2 ret2) (zRm d2 0 0) 0 0 n2 := ⟨callB_of n2 hts (zgoodIn w2) rfl rfl rfl (hts _ w3) (hts _ w1) w4 ⟨hd2, by show 8 + (nL2 + 11) + 64 * d2 ≤ 64 * d; omega⟩, hts _ hv.1, hts _ hv.2⟩
  have hrun := va_runV (g := F0 m pc ls stk) (rest := st) (H := H) (locs := locs) (cells := k') (slots := n) (p := p) (e := e) (below := below) (meth := meth) (c := c) ⟨C.1, C.2.1, C.2.2.1, C.2.2.2.1, hts⟩ hM cw ⟨hpre.1, hrecv, hpre.2⟩ rfl hn hl.1 hst (lv_room hrm) hd ⟨by show k' + 0 ≤ mc; omega, by show n + 0 ≤ ms; omega⟩
  exact zafter hrun h1 h2 hl hS kk
theorem q_callVT (C : zCx w p s m args meth c y b nL ret) {ix d2 n2 nL2 k : Nat} {y2 : MethodName} {b2 : ByteArray} {ret2 : Option FieldType} {As stk : List Value} {E : Int → Prop} (h10 : k < 10) (hy2 : y2.cls = "java/lang/String") (hd : decode b pc = .ok (.invokevirtual ix, 3)) (hn : pc + 3 = n) (hw : zCw y.cls ix y2 b2 nL2 ret2 n2) (hv : (Cond.instanceMethod y2) ∈ lw_g ∧ (Cond.selects y2.cls y2 y2) ∈ lw_g) (hM : zCt w d2 0 0 y2 b2 nL2 ret2 (.ref (w.2.2.2.2 k) :: As) (T, M, J, R) (zPp T M J R E)) (hd2 : d2 + 1 ≤ d) (hA : As.length = n2) (hst : stk = As.reverse ++ .ref (w.2.2.2.2 k) :: st) (hrm : (st.map fun v => v.category).sum ≤ 8) (hrc : T.length ≤ T0.length + mc ∧ zsz T ≤ zsz T0 + ms) (kk : ∀ x : Int, E x → zK w p e d mc ms s m args below meth c nL T0 Post n lv (zi x :: st) (T, M, J, R)) : zK w p e d mc ms s m args below meth c nL T0 Post pc lv stk (T, M, J, R) := by
  refine r_callVT C h10 hy2 hw hv hA hM hd2 hst hrm hrc hd (fun v τ hp _ _ => ?_)
  obtain ⟨x, rfl, rfl, hE⟩ := hp
  rw [hn]
  exact kk x hE
end STR

theorem c_J0_coder {w : zWp} {T : zTl} {M : zMm} {J : zJm} {R : zRm'} {k : Nat} (h10 : k < 10) : zCt w 1 0 0 yJ0_coder_7d493 cJ0_coder_7d493 1 (some .byte) [.ref (w.2.2.2.2 k)] (T, M, J, R) (zPp T M J R (fun x => x = 0)) := by
  refine zCt.of rfl (Nat.le_of_ble_eq_true rfl) ?_
  intro p e s m args below meth c C
  obtain ⟨Po, hPo⟩ : ∃ Po, Po = zPp T M J R (fun x => x = 0) := ⟨_, rfl⟩
  rw [← hPo]
  show zK w p e 1 0 0 s m args below meth c 1 T Po 0 [.ref (w.2.2.2.2 k)] [] (T, M, J, R)
  refine q_gsC C rfl dJ0_coder_7d493_0 (n := 3) rfl ?_
  refine q_if_eq C 13 dJ0_coder_7d493_3 (n := 6) rfl rfl (by omega) (fun h8 => by omega) (fun h8 => ?_)
  refine q_aload_n C dJ0_coder_7d493_6 (n := 7) rfl rfl ?_
  refine q_gfC C h10 rfl dJ0_coder_7d493_7 (n := 10) rfl ?_
  refine q_goto C 14 dJ0_coder_7d493_10 rfl ?_
  exact r_nret C rfl dJ0_coder_7d493_14 ⟨rfl, rfl⟩ (by rw [hPo]; exact ⟨0, rfl, rfl, rfl⟩)
theorem c_J0_isLatin1 {w : zWp} {T : zTl} {M : zMm} {J : zJm} {R : zRm'} {k : Nat} (h10 : k < 10) : zCt w 1 0 0 yJ0_isLatin1_aae02 cJ0_isLatin1_aae02 1 (some .boolean) [.ref (w.2.2.2.2 k)] (T, M, J, R) (zPp T M J R (fun x => x = 1)) := by
  refine zCt.of rfl (Nat.le_of_ble_eq_true rfl) ?_
  intro p e s m args below meth c C
  obtain ⟨Po, hPo⟩ : ∃ Po, Po = zPp T M J R (fun x => x = 1) := ⟨_, rfl⟩
  rw [← hPo]
  show zK w p e 1 0 0 s m args below meth c 1 T Po 0 [.ref (w.2.2.2.2 k)] [] (T, M, J, R)
  refine q_gsC C rfl dJ0_isLatin1_aae02_0 (n := 3) rfl ?_
  refine q_if_eq C 17 dJ0_isLatin1_aae02_3 (n := 6) rfl rfl (by omega) (fun h8 => by omega) (fun h8 => ?_)
  refine q_aload_n C dJ0_isLatin1_aae02_6 (n := 7) rfl rfl ?_
  refine q_gfC C h10 rfl dJ0_isLatin1_aae02_7 (n := 10) rfl ?_
  refine q_if_ne C 17 dJ0_isLatin1_aae02_10 (n := 13) rfl rfl (by omega) (fun h8 => absurd rfl h8) (fun h8 => ?_)
  refine q_iconst C dJ0_isLatin1_aae02_13 (n := 14) rfl ?_
  refine q_goto C 18 dJ0_isLatin1_aae02_14 rfl ?_
  exact r_nret C rfl dJ0_isLatin1_aae02_18 ⟨rfl, rfl⟩ (by rw [hPo]; exact ⟨1, rfl, rfl, rfl⟩)
theorem c_J0_length {w : zWp} {T : zTl} {M : zMm} {J : zJm} {R : zRm'} {k : Nat} (h10 : k < 10) : zCt w 2 0 0 yJ0_length_8abf5 cJ0_length_8abf5 1 (some .int) [.ref (w.2.2.2.2 k)] (T, M, J, R) (zPp T M J R (fun x => x = ((zTxl.getD k 0 : Nat) : Int))) := by
  refine zCt.of rfl (Nat.le_of_ble_eq_true rfl) ?_
  intro p e s m args below meth c C
  obtain ⟨Po, hPo⟩ : ∃ Po, Po = zPp T M J R (fun x => x = ((zTxl.getD k 0 : Nat) : Int)) := ⟨_, rfl⟩
  rw [← hPo]
  show zK w p e 2 0 0 s m args below meth c 1 T Po 0 [.ref (w.2.2.2.2 k)] [] (T, M, J, R)
  have h7 := zTxl_r k
  refine q_aload_n C dJ0_length_8abf5_0 (n := 1) rfl rfl ?_
  refine q_gfV C h10 rfl dJ0_length_8abf5_1 (n := 4) rfl ?_
  refine q_alS C h10 dJ0_length_8abf5_4 (n := 5) rfl ?_
  refine q_aload_n C dJ0_length_8abf5_5 (n := 6) rfl rfl ?_
  refine q_callVT C h10 rfl dJ0_length_8abf5_6 (n := 9) rfl m_J0_335 v_yJ0_coder_7d493 (c_J0_coder (w := w) (J := J) h10) (Nat.le_of_ble_eq_true rfl) rfl rfl (Nat.le_of_ble_eq_true rfl) ⟨Nat.le_refl _, Nat.le_refl _⟩ (fun x hx => ?_)
  subst hx
  refine q_ishr C dJ0_length_8abf5_9 (n := 10) rfl (v := ((zTxl.getD k 0 : Nat) : Int)) ?_ ?_
  · obtain ⟨j, hj⟩ : ∃ j : Nat, j = zTxl.getD k 0 := ⟨_, rfl⟩
    rw [← hj] at h7 ⊢
    have : j = 0 ∨ j = 1 ∨ j = 2 ∨ j = 3 ∨ j = 4 ∨ j = 5 ∨ j = 6 ∨ j = 7 := by omega
    rcases this with rfl | rfl | rfl | rfl | rfl | rfl | rfl | rfl <;> decide
  exact q_iret C dJ0_length_8abf5_10 ⟨rfl, rfl⟩ (by rw [hPo]; exact ⟨_, rfl, rfl, rfl⟩)
theorem c_J3_check0 {w : zWp} {T : zTl} {M : zMm} {J : zJm} {R : zRm'} (i n : Int) (hi : 0 ≤ i ∧ i < n ∧ n ≤ 1000) : zCt w 1 0 0 yJ3_checkIndex_8e157 cJ3_checkIndex_8e157 3 (some .int) [zi i, zi n, .null] (T, M, J, R) (zPp T M J R (fun x => zr x)) := by
  refine zCt.of rfl (Nat.le_of_ble_eq_true rfl) ?_
  intro p e s m args below meth c C
  obtain ⟨Po, hPo⟩ : ∃ Po, Po = zPp T M J R (fun x => zr x) := ⟨_, rfl⟩
  rw [← hPo]
  show zK w p e 1 0 0 s m args below meth c 3 T Po 0 [zi i, zi n, .null] [] (T, M, J, R)
  refine q_iload_n C dJ3_checkIndex_8e157_0 (n := 1) rfl rfl ?_
  refine q_if_lt C 9 dJ3_checkIndex_8e157_1 (n := 4) rfl rfl (by omega) (fun h8 => by omega) (fun h8 => ?_)
  refine q_iload_n C dJ3_checkIndex_8e157_4 (n := 5) rfl rfl ?_
  refine q_iload_n C dJ3_checkIndex_8e157_5 (n := 6) rfl rfl ?_
  refine q_icmp_lt C 16 dJ3_checkIndex_8e157_6 (n := 9) rfl rfl (by omega) (fun h8 => ?_) (fun h8 => by omega)
  refine q_iload_n C dJ3_checkIndex_8e157_16 (n := 17) rfl rfl ?_
  exact q_iret C dJ3_checkIndex_8e157_17 ⟨rfl, rfl⟩ (by rw [hPo]; exact ⟨i, rfl, rfl, by omega⟩)
theorem c_J3_check1 {w : zWp} {T : zTl} {M : zMm} {J : zJm} {R : zRm'} {t : Nat} (i n : Int) (hi : 0 ≤ i ∧ i < n ∧ n ≤ 1000) : zCt w 1 0 0 yJ3_checkIndex_8e157 cJ3_checkIndex_8e157 3 (some .int) [zi i, zi n, .ref t] (T, M, J, R) (zPp T M J R (fun x => zr x)) := by
  refine zCt.of rfl (Nat.le_of_ble_eq_true rfl) ?_
  intro p e s m args below meth c C
  obtain ⟨Po, hPo⟩ : ∃ Po, Po = zPp T M J R (fun x => zr x) := ⟨_, rfl⟩
  rw [← hPo]
  show zK w p e 1 0 0 s m args below meth c 3 T Po 0 [zi i, zi n, .ref t] [] (T, M, J, R)
  refine q_iload_n C dJ3_checkIndex_8e157_0 (n := 1) rfl rfl ?_
  refine q_if_lt C 9 dJ3_checkIndex_8e157_1 (n := 4) rfl rfl (by omega) (fun h8 => by omega) (fun h8 => ?_)
  refine q_iload_n C dJ3_checkIndex_8e157_4 (n := 5) rfl rfl ?_
  refine q_iload_n C dJ3_checkIndex_8e157_5 (n := 6) rfl rfl ?_
  refine q_icmp_lt C 16 dJ3_checkIndex_8e157_6 (n := 9) rfl rfl (by omega) (fun h8 => ?_) (fun h8 => by omega)
  refine q_iload_n C dJ3_checkIndex_8e157_16 (n := 17) rfl rfl ?_
  exact q_iret C dJ3_checkIndex_8e157_17 ⟨rfl, rfl⟩ (by rw [hPo]; exact ⟨i, rfl, rfl, by omega⟩)
theorem c_J0_check {w : zWp} {T : zTl} {M : zMm} {J : zJm} {R : zRm'} (i n : Int) (hi : 0 ≤ i ∧ i < n ∧ n ≤ 1000) : zCt w 2 0 0 yJ0_checkIndex_df160 cJ0_checkIndex_df160 2 none [zi i, zi n] (T, M, J, R) ((fun v τ => v = none ∧ τ = (T, M, J, R))) := by
  refine zCt.of rfl (Nat.le_of_ble_eq_true rfl) ?_
  intro p e s m args below meth c C
  obtain ⟨Po, hPo⟩ : ∃ Po, Po = (fun v τ => v = none ∧ τ = (T, M, J, R)) := ⟨_, rfl⟩
  rw [← hPo]
  show zK w p e 2 0 0 s m args below meth c 2 T Po 0 [zi i, zi n] [] (T, M, J, R)
  refine q_iload_n C dJ0_checkIndex_df160_0 (n := 1) rfl rfl ?_
  refine q_iload_n C dJ0_checkIndex_df160_1 (n := 2) rfl rfl ?_
  refine q_gsF C rfl dJ0_checkIndex_df160_2 (n := 5) rfl ?_ (fun t => ?_)
  · refine q_callSp C dJ0_checkIndex_df160_5 (n := 8) rfl m_J0_1059 s_yJ3_checkIndex_8e157 (c_J3_check0 (w := w) (J := J) i n hi) (Nat.le_of_ble_eq_true rfl) rfl rfl (Nat.le_of_ble_eq_true rfl) ⟨Nat.le_refl _, Nat.le_refl _⟩ (fun x hx => ?_)
    refine q_pop C dJ0_checkIndex_df160_8 (n := 9) rfl rfl ?_
    exact q_vret C dJ0_checkIndex_df160_9 ⟨rfl, rfl⟩ (by rw [hPo]; exact ⟨rfl, rfl⟩)
  · refine q_callSp C dJ0_checkIndex_df160_5 (n := 8) rfl m_J0_1059 s_yJ3_checkIndex_8e157 (c_J3_check1 (w := w) (J := J) (t := t) i n hi) (Nat.le_of_ble_eq_true rfl) rfl rfl (Nat.le_of_ble_eq_true rfl) ⟨Nat.le_refl _, Nat.le_refl _⟩ (fun x hx => ?_)
    refine q_pop C dJ0_checkIndex_df160_8 (n := 9) rfl rfl ?_
    exact q_vret C dJ0_checkIndex_df160_9 ⟨rfl, rfl⟩ (by rw [hPo]; exact ⟨rfl, rfl⟩)
theorem c_J1_charAt {w : zWp} {T : zTl} {M : zMm} {J : zJm} {R : zRm'} {k : Nat} (h10 : k < 10) (i : Int) (hi : 0 ≤ i ∧ i < (zTxl.getD k 0 : Nat)) : zCt w 3 0 0 yJ1_charAt_3b067 cJ1_charAt_3b067 2 (some .char) [.ref (w.2.2.2.2 (100 + k)), zi i] (T, M, J, R) (zPp T M J R (fun x => zr x ∧ narrow .char (zi x) = zi x)) := by
  refine zCt.of rfl (Nat.le_of_ble_eq_true rfl) ?_
  intro p e s m args below meth c C
  obtain ⟨Po, hPo⟩ : ∃ Po, Po = zPp T M J R (fun x => zr x ∧ narrow .char (zi x) = zi x) := ⟨_, rfl⟩
  rw [← hPo]
  show zK w p e 3 0 0 s m args below meth c 2 T Po 0 [.ref (w.2.2.2.2 (100 + k)), zi i] [] (T, M, J, R)
  have h7 := zTxl_r k
  refine q_iload_n C dJ1_charAt_3b067_0 (n := 1) rfl rfl ?_
  refine q_aload_n C dJ1_charAt_3b067_1 (n := 2) rfl rfl ?_
  refine q_alS C h10 dJ1_charAt_3b067_2 (n := 3) rfl ?_
  refine r_callS C m_J1_9 s_yJ0_checkIndex_df160 rfl (c_J0_check (w := w) (J := J) i ((zTxl.getD k 0 : Nat) : Int) ⟨hi.1, hi.2, by omega⟩) (Nat.le_of_ble_eq_true rfl) rfl (Nat.le_of_ble_eq_true rfl) ⟨Nat.le_refl _, Nat.le_refl _⟩ dJ1_charAt_3b067_3 (fun v τ hp _ _ => ?_)
  obtain ⟨rfl, rfl⟩ := hp
  show zK w p e 3 0 0 s m args below meth c 2 T Po 6 [.ref (w.2.2.2.2 (100 + k)), zi i] [] (T, M, J, R)
  refine q_aload_n C dJ1_charAt_3b067_6 (n := 7) rfl rfl ?_
  refine q_iload_n C dJ1_charAt_3b067_7 (n := 8) rfl rfl ?_
  refine q_blS C h10 dJ1_charAt_3b067_8 (n := 9) rfl hi (fun x => ?_)
  refine q_sipush C dJ1_charAt_3b067_9 (n := 12) rfl (x := 255) (by decide) ?_
  refine q_iand C dJ1_charAt_3b067_12 (n := 13) rfl (v := zand x 255) rfl ?_
  refine q_i2c C dJ1_charAt_3b067_13 (n := 14) rfl ?_
  exact r_nret C (z_nar x) dJ1_charAt_3b067_14 ⟨rfl, rfl⟩ (by rw [hPo]; exact ⟨zand x 255, rfl, rfl, zr_and x 255, z_nar x⟩)
theorem c_J0_charAt {w : zWp} {T : zTl} {M : zMm} {J : zJm} {R : zRm'} {k : Nat} (h10 : k < 10) (i : Int) (hi : 0 ≤ i ∧ i < (zTxl.getD k 0 : Nat)) : zCt w 4 0 0 yJ0_charAt_5068e cJ0_charAt_5068e 2 (some .char) [.ref (w.2.2.2.2 k), zi i] (T, M, J, R) (zPp T M J R (fun x => zr x ∧ narrow .char (zi x) = zi x)) := by
  refine zCt.of rfl (Nat.le_of_ble_eq_true rfl) ?_
  intro p e s m args below meth c C
  obtain ⟨Po, hPo⟩ : ∃ Po, Po = zPp T M J R (fun x => zr x ∧ narrow .char (zi x) = zi x) := ⟨_, rfl⟩
  rw [← hPo]
  show zK w p e 4 0 0 s m args below meth c 2 T Po 0 [.ref (w.2.2.2.2 k), zi i] [] (T, M, J, R)
  refine q_aload_n C dJ0_charAt_5068e_0 (n := 1) rfl rfl ?_
  refine q_callVT C h10 rfl dJ0_charAt_5068e_1 (n := 4) rfl m_J0_492 v_yJ0_isLatin1_aae02 (c_J0_isLatin1 (w := w) (J := J) h10) (Nat.le_of_ble_eq_true rfl) rfl rfl (Nat.le_of_ble_eq_true rfl) ⟨Nat.le_refl _, Nat.le_refl _⟩ (fun x hx => ?_)
  subst hx
  refine q_if_eq C 16 dJ0_charAt_5068e_4 (n := 7) rfl rfl (by omega) (fun h8 => by omega) (fun h8 => ?_)
  refine q_aload_n C dJ0_charAt_5068e_7 (n := 8) rfl rfl ?_
  refine q_gfV C h10 rfl dJ0_charAt_5068e_8 (n := 11) rfl ?_
  refine q_iload_n C dJ0_charAt_5068e_11 (n := 12) rfl rfl ?_
  refine q_callSp C dJ0_charAt_5068e_12 (n := 15) rfl m_J0_495 s_yJ1_charAt_3b067 (c_J1_charAt (w := w) (J := J) h10 i hi) (Nat.le_of_ble_eq_true rfl) rfl rfl (Nat.le_of_ble_eq_true rfl) ⟨Nat.le_refl _, Nat.le_refl _⟩ (fun x hx => ?_)
  exact r_nret C (hx.2) dJ0_charAt_5068e_15 ⟨rfl, rfl⟩ (by rw [hPo]; exact ⟨x, rfl, rfl, hx⟩)
theorem c_X10_says {w : zWp} {T : zTl} {M : zMm} {J : zJm} {R : zRm'} {G : zGt} {F : zRm'} {q N tb : Nat} (hI : zI G M) (hF : zF F R) (t_b0 : T[q]? = some (51, N)) (g_b0 : ∀ k, G q k = (tb, (-128), 127)) (i0 : Int) (j0 : Int) (k0 : Nat) (hk_k0 : k0 < 10) (p1 : N ≤ 1000000) (p2 : -1000000 ≤ i0 ∧ i0 ≤ 1000000) (p3 : -1000000 ≤ j0 ∧ j0 ≤ 1000000) : zCt w 9 0 0 yX10_says cX10_says 5 (some .boolean) [.ref (w.2.1 + q), zi i0, zi j0, .ref (w.2.2.2.2 k0)] (T, M, J, R) (zPp T M J R (fun x => (x = 0 ∨ x = 1))) := by
  refine zCt.of rfl (Nat.le_of_ble_eq_true rfl) ?_
  intro p e s m args below meth c C
  obtain ⟨Po, hPo⟩ : ∃ Po, Po = zPp T M J R (fun x => (x = 0 ∨ x = 1)) := ⟨_, rfl⟩
  rw [← hPo]
  have gtl := zTxl_r k0
  show zK w p e 9 0 0 s m args below meth c 5 T Po 0 [.ref (w.2.1 + q), zi i0, zi j0, .ref (w.2.2.2.2 k0), .null] [] (T, M, J, R)
  refine q_iload_n C dX10_says_0 (n := 1) rfl rfl ?_
  refine q_iload_n C dX10_says_1 (n := 2) rfl rfl ?_
  refine q_isub C dX10_says_2 (n := 3) rfl (v := j0 - i0) rfl ?_
  refine q_aload_n C dX10_says_3 (n := 4) rfl rfl ?_
  refine q_callVT C hk_k0 rfl dX10_says_4 (n := 7) rfl m_X10_19 v_yJ0_length_8abf5 (c_J0_length (w := w) (J := J) hk_k0) (Nat.le_of_ble_eq_true rfl) rfl rfl (Nat.le_of_ble_eq_true rfl) ⟨Nat.le_refl _, Nat.le_refl _⟩ (fun x1 h2 => ?_)
  refine q_icmp_ne C 20 dX10_says_7 (n := 10) rfl rfl (by omega) (fun h3 => ?_) (fun h3 => ?_)
  · refine q_iconst C dX10_says_20 (n := 21) rfl ?_
    exact q_zret C dX10_says_21 ⟨rfl, rfl⟩ (by omega) (by rw [hPo]; exact ⟨0, rfl, rfl, by omega⟩)
  · refine q_iload_n C dX10_says_10 (n := 11) rfl rfl ?_
    refine q_if_lt C 20 dX10_says_11 (n := 14) rfl rfl (by omega) (fun h4 => ?_) (fun h4 => ?_)
    · refine q_iconst C dX10_says_20 (n := 21) rfl ?_
      exact q_zret C dX10_says_21 ⟨rfl, rfl⟩ (by omega) (by rw [hPo]; exact ⟨0, rfl, rfl, by omega⟩)
    · refine q_iload_n C dX10_says_14 (n := 15) rfl rfl ?_
      refine q_aload_n C dX10_says_15 (n := 16) rfl rfl ?_
      refine q_alen C dX10_says_16 (n := 17) rfl ⟨by decide, by decide⟩ t_b0 ?_
      refine q_icmp_le C 22 dX10_says_17 (n := 20) rfl rfl (by omega) (fun h5 => ?_) (fun h5 => ?_)
      · refine q_iconst C dX10_says_22 (n := 23) rfl ?_
        refine q_istore C [.ref (w.2.1 + q), zi i0, zi j0, .ref (w.2.2.2.2 k0), zi 0] dX10_says_23 (n := 25) rfl rfl rfl ?_
        have L_9 : ∀ n10 : Nat, ∀ (u6 : Int), (-2147483648 ≤ u6 ∧ u6 ≤ 2147483647) → (0 ≤ u6 ∧ u6 ≤ ((zTxl.getD k0 0 : Nat) : Int)) → (10 - u6 ≤ (n10 : Int)) → zK w p e 9 0 0 s m args below meth c 5 T Po 25 [.ref (w.2.1 + q), zi i0, .null, .ref (w.2.2.2.2 k0), zi u6] [] (T, M, J, R) := by
          intro n10
          induction n10 with
          | zero =>
            intro u6 h7 h8 hm12
            exfalso
            omega
          | succ n10 ih11 =>
            intro u6 h7 h8 hm12
            refine q_iload C dX10_says_25 (n := 27) rfl rfl ?_
            refine q_aload_n C dX10_says_27 (n := 28) rfl rfl ?_
            refine q_callVT C hk_k0 rfl dX10_says_28 (n := 31) rfl m_X10_19 v_yJ0_length_8abf5 (c_J0_length (w := w) (J := J) hk_k0) (Nat.le_of_ble_eq_true rfl) rfl rfl (Nat.le_of_ble_eq_true rfl) ⟨Nat.le_refl _, Nat.le_refl _⟩ (fun x13 h14 => ?_)
            refine q_icmp_ge C 57 dX10_says_31 (n := 34) rfl rfl (by omega) (fun h15 => ?_) (fun h15 => ?_)
            · refine q_iconst C dX10_says_57 (n := 58) rfl ?_
              exact q_zret C dX10_says_58 ⟨rfl, rfl⟩ (by omega) (by rw [hPo]; exact ⟨1, rfl, rfl, by omega⟩)
            · refine q_aload_n C dX10_says_34 (n := 35) rfl rfl ?_
              refine q_iload_n C dX10_says_35 (n := 36) rfl rfl ?_
              refine q_iload C dX10_says_36 (n := 38) rfl rfl ?_
              refine q_iadd C dX10_says_38 (n := 39) rfl (v := i0 + u6) rfl ?_
              have g16 := zI.at hI (g_b0 (i0 + u6))
              refine q_bald C dX10_says_39 (n := 40) rfl t_b0 (by omega) (v := M q (i0 + u6)) rfl ?_
              refine q_aload_n C dX10_says_40 (n := 41) rfl rfl ?_
              refine q_iload C dX10_says_41 (n := 43) rfl rfl ?_
              refine q_callVT C hk_k0 rfl dX10_says_43 (n := 46) rfl m_X10_25 v_yJ0_charAt_5068e (c_J0_charAt (w := w) (J := J) hk_k0 u6 (by omega)) (Nat.le_of_ble_eq_true rfl) rfl rfl (Nat.le_of_ble_eq_true rfl) ⟨Nat.le_refl _, Nat.le_refl _⟩ (fun x17 h18 => ?_)
              refine q_icmp_eq C 51 dX10_says_46 (n := 49) rfl rfl (by omega) (fun h19 => ?_) (fun h19 => ?_)
              · refine q_iinc C [.ref (w.2.1 + q), zi i0, .null, .ref (w.2.2.2.2 k0), zi (u6 + 1)] dX10_says_51 (n := 54) rfl rfl rfl rfl ?_
                refine q_goto C 25 dX10_says_54 rfl ?_
                exact zK.weak (ih11 (u6 + 1) (by omega) (by omega) (by omega)) (zwk_c (zwk_c (zwk_n (zwk_c (zwk_c zwk_e)))))
              · refine q_iconst C dX10_says_49 (n := 50) rfl ?_
                exact q_zret C dX10_says_50 ⟨rfl, rfl⟩ (by omega) (by rw [hPo]; exact ⟨0, rfl, rfl, by omega⟩)
        exact zK.weak (L_9 _ 0 (by omega) (by omega) (Int.self_le_toNat _)) (zwk_c (zwk_c (zwk_n (zwk_c (zwk_c zwk_e)))))
      · refine q_iconst C dX10_says_20 (n := 21) rfl ?_
        exact q_zret C dX10_says_21 ⟨rfl, rfl⟩ (by omega) (by rw [hPo]; exact ⟨0, rfl, rfl, by omega⟩)
