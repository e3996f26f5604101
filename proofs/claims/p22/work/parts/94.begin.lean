/-! ===== the law: what it makes first ===== -/
section LAWN
variable {w : zWp} {p : Program} {e : Env} {d mc ms : Nat} {s : State} {m : MethodId} {args : Array Value} {below : List Frame} {meth : Method} {c : Code} {y : MethodName} {b : ByteArray} {nL : Nat} {ret : Option FieldType} {Q : State → Prop} {kc nc : Nat} {T : zTl} {M : zMm} {J : zJm} {R : zRm'} {pc n : Nat} {lv st : List Value}
theorem jq_new (C : zCx w p s m args meth c y b nL ret) {ix ci N q : Nat} (hd : decode b pc = .ok (.new ix, 3)) (hn : pc + 3 = n) (hw : zNw y.cls ix ci N) (hp : T.length = q) (hz : zFr q M J R) (hrc : kc + 1 ≤ mc ∧ nc + N ≤ ms) (kk : zJ w p e d mc ms s m args below meth c nL Q (kc + 1) (nc + N) n lv (.ref (w.2.1 + q) :: st) (T ++ [(ci, N)], M, J, R)) : zJ w p e d mc ms s m args below meth c nL Q kc nc pc lv st (T, M, J, R) := fun ls H locs hl hW hS => by
  obtain ⟨Cn, Tn, hci, hc, hcl, hins, hini, hu, hty, hdf⟩ := hw
  subst hn hp
  have hsz : H.size = w.2.1 + T.length := hW.1
  have hts := C.2.2.2.2.1
  have hKn := C.2.2.2.2.2.2.2.2.1.1 ci _ hc
  refine W.newcK C.1 C.2.1 C.2.2.2.1 (hts _ hcl) (hts _ hins) (hts _ hini) rfl hd (by show kc + 1 ≤ mc; omega) (by show nc + N ≤ ms; omega) hKn.2.1 hsz (fun H' kC hkC e1 zs o1 => ?_)
  have hW2 : zW w (T ++ [(ci, N)], M, J, R) H' := hW.add (by rw [zs, hsz]) (fun q hq => o1 q (by omega)) (Or.inr (by
    rw [zE_ob (by show ci < 50; exact hci)]
    refine ⟨_, hc, (u_born (zty ci) hts hu hKn hkC e1 hty).to (fun j hj => ?_)⟩
    show defaultValue (zty ci j) = vp_V ((List.range N).map (fun k => zfv w.2.1 (T ++ [(ci, N)], M, J, R) T.length (zty ci k) k)) j
    rw [zrangeV hj]
    have h0 := hz T.length (Nat.le_refl _) j
    exact zfv_0 (List.all_eq_true.mp hdf j (List.mem_range.mpr hj)) h0.1 h0.2.1 h0.2.2))
  exact kk ls H' locs hl hW2 (zS_push hS (by rw [zs, hsz]) (fun q hq => o1 q (by omega)))
theorem jq_newJ (C : zCx w p s m args meth c y b nL ret) {N q : Nat} {x : Int} (hd : decode b pc = .ok (.newarray .long, 2)) (hn : pc + 2 = n) (hx : x = (N : Int)) (hN : N ≤ 1000000) (hp : T.length = q) (hz : zFr q M J R) (hrc : kc + 1 ≤ mc ∧ nc + N ≤ ms) (kk : zJ w p e d mc ms s m args below meth c nL Q (kc + 1) (nc + N) n lv (.ref (w.2.1 + q) :: st) (T ++ [(53, N)], M, J, R)) : zJ w p e d mc ms s m args below meth c nL Q kc nc pc lv (zi x :: st) (T, M, J, R) := fun ls H locs hl hW hS => by
  subst hx hn hp
  have hsz : H.size = w.2.1 + T.length := hW.1
  obtain ⟨z1, z2⟩ := zin (i := (N : Int)) (n := N + 1) ⟨by omega, by omega, by omega⟩
  refine va_newaK C.1 C.2.1 (C.2.2.2.2.1 _ (zt2 189 rfl rfl)) rfl hd rfl (N := N) (fun q => z1 (Or.inl q)) (by omega) (by show N * _ ≤ _; simp only [componentBytes, newarray.typeOf]; omega) (by show kc + 1 ≤ mc; omega) (by show nc + N ≤ ms; omega) hsz (fun H' cA e1 zs o1 hAr hNm => ?_)
  have hcA : w.2.2.2.1 3 = cA := Option.some.inj ((C.2.2.2.2.2.2.2.2.1.2 3 _ rfl).2.symm.trans hNm)
  subst hcA
  have hW2 : zW w (T ++ [(53, N)], M, J, R) H' := hW.add (by rw [zs, hsz]) (fun q hq => o1 q (by omega)) (Or.inr (by
    show H'[w.2.1 + T.length]? = some _
    rw [e1]
    refine congrArg some (congrArg (arrV (w.2.2.2.1 3) N) (funext (fun j => by show Value.long 0 = Value.long (J T.length j); rw [(hz T.length (Nat.le_refl _) j).2.1])))))
  exact kk ls H' locs hl hW2 (zS_push hS (by rw [zs, hsz]) (fun q hq => o1 q (by omega)))
end LAWN
/-! kinds at the start: where nothing but 0 is stored, nothing but 0 -/
def zUa : zTl := zU11 ++ zU12
def zUz : zTl := zRep [(70, 0)] 30 ++ (zU6 62576 ++ zRep [(70, 0)] 50)
def zUb : zTl := zUz ++ zRep [(70, 0)] 83
theorem zRep1_len (x : Nat × Nat) (n : Nat) : (zRep [x] n).length = n := by rw [zRep_len (L := [x]) (l := 1) rfl, Nat.one_mul]
theorem zUz_len : zUz.length = 836 := by
  unfold zUz
  simp only [List.length_append, zU6_len, zRep1_len]
theorem zUb_w : zWu zUb := zWu.app (zWu.app (zWu.rep (zWu.of rfl) _) (zWu.app (zWu_6 _) (zWu.rep (zWu.of rfl) _))) (zWu.rep (zWu.of rfl) _)
theorem zUa_w : zWu zUa := zWu.app zWu_11 zWu_12
theorem zIn.self {L : zTl} : zIn L 0 L := fun i _ => by rw [Nat.zero_add]
theorem zUa_a : zIn zUa 0 zU11 := zIn.ext (T := zU11) (X := zU12) zIn.self
theorem zUa_m : zIn zUa 836 zU12 := zInB zU11_len
theorem zUb_p : zIn zUb 0 (zRep [(70, 0)] 30) ∧ zIn zUb 30 (zU6 62576) ∧ zIn zUb 786 (zRep [(70, 0)] 50) ∧ zIn zUb 836 (zRep [(70, 0)] 83) := by
  have h : zIn zUb 0 zUz := zIn.ext (T := zUz) zIn.self
  obtain ⟨h1, h⟩ := zIn.ap (l := 30) (a2 := 30) h (zRep1_len _ _) rfl
  obtain ⟨h4, h⟩ := zIn.ap (l := 756) (a2 := 786) h (zU6_len _) rfl
  exact ⟨h1, h4, h, zInB zUz_len⟩
theorem zUa_p : zIn zUa 30 (zU6 62576) := by
  have h := zUa_a
  obtain ⟨h1, h⟩ := zIn.ap (l := 2) (a2 := 2) (L1 := [(35, 0), (32, 0)]) h rfl rfl
  obtain ⟨h2, h⟩ := zIn.ap (l := 25) (a2 := 27) h zU7_len rfl
  obtain ⟨h3, h⟩ := zIn.ap (l := 3) (a2 := 30) h rfl rfl
  obtain ⟨h4, h⟩ := zIn.ap (l := 756) (a2 := 786) h (zU6_len _) rfl
  exact h4
theorem zIn.eq {A B L : zTl} {a l : Nat} (h1 : zIn A a L) (h2 : zIn B a L) (hl : L.length = l) : ∀ c, a ≤ c → c < a + l → A[c]? = B[c]? := fun c q1 q2 => by
  subst hl
  have e1 := h1 (c - a) (by omega)
  have e2 := h2 (c - a) (by omega)
  rw [show a + (c - a) = c by omega] at e1 e2
  rw [e1, e2]
theorem zU01 (c : Nat) (h : 30 ≤ c ∧ c < 786) (k : Int) : zGu zUa c k = zGu zUb c k := by
  have e : zUa[c]? = zUb[c]? := zIn.eq (l := 756) zUa_p zUb_p.2.1 (zU6_len _) c (by omega) (by omega)
  unfold zGu
  rw [e]
theorem zRep_0 {U : zTl} {x : Nat × Nat} {a n : Nat} (h : zIn U a (zRep [x] n)) (c : Nat) (h1 : a ≤ c) (h2 : c < a + n) : U[c]? = some x := by
  have := zIn.h2 (zIn.rep (l := 1) rfl h (c - a) (by omega)) (i := 0) (x := x) (b := c) rfl (by omega)
  exact this
theorem zUb_0 (c : Nat) (h : c < 30 ∨ 786 ≤ c ∧ c < 919) (k : Int) : zGu zUb c k = (0, 0, 0) := by
  obtain ⟨p2, _, p5, p6⟩ := zUb_p
  have e : zUb[c]? = some (70, 0) := by
    by_cases h1 : c < 30
    · exact zRep_0 p2 c (by omega) (by omega)
    · by_cases h2 : c < 836
      · exact zRep_0 p5 c (by omega) (by omega)
      · exact zRep_0 p6 c (by omega) (by omega)
  rw [zGu_at e]
  rfl
theorem zI.start {M : zMm} (h : zI (zGu zUb) M) (h0 : ∀ c k, 919 ≤ c → M c k = 0) : zI (zGu zUa) M ∧ ∀ c k, (c < 30 ∨ 786 ≤ c) → M c k = 0 := by
  have hz : ∀ c k, (c < 30 ∨ 786 ≤ c) → M c k = 0 := fun c k q => by
    by_cases z : 919 ≤ c
    · exact h0 c k z
    · have := zI.at h (zUb_0 c (by omega) k)
      omega
  have hty : zTy (zGu zUa) M := fun a k => by
    by_cases q : 30 ≤ a ∧ a < 786
    · rw [zU01 a q k]
      exact h.2.1 a k
    · rw [hz a k (by omega)]
      exact zKd_z _ _
  refine ⟨⟨zGu_w zUa_w, hty, fun a i q => ?_, fun a q => absurd q zGu_4.1, fun a b q => absurd q zGu_4.2⟩, hz⟩
  by_cases qa : 30 ≤ a ∧ a < 786
  · rw [zU01 a qa i] at q ⊢
    exact h.2.2.1 a i q
  · have hty2 := (hty a i).2
    by_cases qb : a = 29
    · exfalso
      subst qb
      obtain ⟨p, hp⟩ := zGu_2 q
      obtain ⟨p2, hp2⟩ := zUa_w 29 p hp
      have := zIn.h2 zUa_p (i := 0) (x := (31, 0)) (b := 30) rfl rfl
      rw [this] at hp2
      cases hp2
    · rw [hz (a + 1) i (by omega), zand0]
      exact ⟨by omega, by decide⟩
/-- what the class and the reference hold at first -/
theorem zVd.first {F R : zRm'} {M : zMm} (h : zI (zGu zUb) M) (h0 : ∀ c k, 919 ≤ c → M c k = 0) (hF : zF F R) : zTE 0 M ∧ zVd 0 zUa F M R := by
  obtain ⟨hI, hz⟩ := h.start h0
  have pr : ∀ q, (q + 3 < 27 ∨ 786 ≤ q) → zPr M q := fun q hq => ⟨⟨fun i _ _ => by rw [hz (q + 2) i (by omega), hz (q + 2) (i + 1) (by omega)]; exact Int.le_refl _, hz _ _ (by omega)⟩, Or.inl (hz _ _ (by omega))⟩
  refine ⟨⟨by rw [hz _ _ (by omega), hz _ _ (by omega)], fun j _ _ => by rw [hz _ _ (by omega), hz _ _ (by omega)], fun j _ _ => by rw [hz _ _ (by omega), hz _ _ (by omega)], zTF.zero (fun c k q => hz c k (by omega)), zTW.zero (fun c k q => hz c k (by omega)), zTB.zero (fun c k q => hz c k (by omega)), zTG.zero (fun c k q => hz c k (by omega))⟩, hI, hF, ⟨fun j j0 j1 => pr _ (by omega), fun q q0 q1 j j0 j1 => pr _ (by omega)⟩, fun k k0 k1 => ?_, fun q q0 q1 k k0 k1 => ?_, zMe.zero (fun j _ _ => hz _ _ (by omega))⟩
  · rw [hz _ _ (by omega)]
    exact show (0 : Int) ≤ 400 from by decide
  · rw [hz _ _ (by omega)]
    exact show (0 : Int) ≤ 400 from by decide
section LAWM
variable {w : zWp} {p : Program} {e : Env} {s : State} {m : MethodId} {args : Array Value} {below : List Frame} {meth : Method} {c : Code} {Q : State → Prop} {sb L : Nat} {xs : Nat → Int32}
theorem lw_begin (C : zCx w p s m args meth c yL_law cL_law 8 (some .boolean)) (hS0 : zScr w s sb L xs) (hend : ∀ (T : zTl) (M : zMm) (J : zJm) (R : zRm') (kc nc : Nat) (i : Int), kc ≤ 601024 → nc ≤ 7293034 → zJ w p e 1312 601024 7293034 s m args below meth c 8 Q kc nc 1027 [.ref sb, .ref (w.2.1 + 0), .ref (w.2.1 + (0 + 836)), .ref (w.2.1 + (0 + 919)), zi i, .null, .null, .null] [] (T, M, J, R)) : zJ w p e 1312 601024 7293034 s m args below meth c 8 Q 0 0 0 [.ref sb, .null, .null, .null, .null, .null, .null, .null] [] ([], fun _ _ => 0, fun _ _ => 0, fun _ _ => none) := by
  have hz0 : zFr 0 (fun _ _ => 0) (fun _ _ => 0) (fun _ _ => none) := fun _ _ _ => ⟨rfl, rfl, rfl⟩
  refine jq_new C dL_law_0 (n := 3) rfl (q := 0) nw_L_8 rfl hz0 ⟨by decide, by decide⟩ ?_
  refine jq_dup C dL_law_3 (n := 4) rfl rfl ?_
  refine jr_callI C m_L_22 i_yX11_init rfl (n_X11 (P := []) (a := 0) (G := zGu zUb) (zI.zero zUb_w (fun _ _ => rfl)) rfl hz0 (zGk6 zUb_p.2.1)) (Nat.le_of_ble_eq_true rfl) rfl (Nat.le_of_ble_eq_true rfl) ⟨Nat.le_of_ble_eq_true rfl, Nat.le_of_ble_eq_true rfl⟩ dL_law_4 (fun v τ hp _ _ => ?_)
  obtain ⟨rfl, M2, R2, rfl, hI2, hz2, -, -, hN2, -, h82⟩ := hp
  refine jq_astore_n C [.ref sb, .ref (w.2.1 + 0), .null, .null, .null, .null, .null, .null] dL_law_7 (n := 8) rfl rfl rfl ?_
  refine jq_new C dL_law_8 (n := 11) rfl (q := 836) nw_L_23 zL11_len hz2 ⟨Nat.le_of_ble_eq_true rfl, Nat.le_of_ble_eq_true rfl⟩ ?_
  refine jq_dup C dL_law_11 (n := 12) rfl rfl ?_
  refine jr_callI C m_L_25 i_yX12_init rfl (n_X12 (P := [] ++ zL11) (a := 836) hI2 zL11_len hz2) (Nat.le_of_ble_eq_true rfl) rfl (Nat.le_of_ble_eq_true rfl) ⟨Nat.le_of_ble_eq_true rfl, Nat.le_of_ble_eq_true rfl⟩ dL_law_12 (fun v τ hp _ _ => ?_)
  obtain ⟨rfl, M3, R3, rfl, hI3, hz3, -, hr3, hN3⟩ := hp
  have l3 : ([] ++ zL11 ++ zL12).length = 919 := by rw [List.length_append, List.nil_append, zL11_len, zL12_len]
  refine jq_astore_n C [.ref sb, .ref (w.2.1 + 0), .ref (w.2.1 + 836), .null, .null, .null, .null, .null] dL_law_15 (n := 16) rfl rfl rfl ?_
  refine jq_iconst C dL_law_16 (n := 17) rfl ?_
  refine jq_newJ C dL_law_17 (n := 19) rfl (N := 1) (q := 919) rfl (by decide) l3 hz3 ⟨Nat.le_of_ble_eq_true rfl, Nat.le_of_ble_eq_true rfl⟩ ?_
  refine jq_astore_n C [.ref sb, .ref (w.2.1 + 0), .ref (w.2.1 + 836), .ref (w.2.1 + 919), .null, .null, .null, .null] dL_law_19 (n := 20) rfl rfl rfl ?_
  refine jq_iconst C dL_law_20 (n := 21) rfl ?_
  refine jq_istore C [.ref sb, .ref (w.2.1 + 0), .ref (w.2.1 + 836), .ref (w.2.1 + 919), zi 0, .null, .null, .null] dL_law_21 (n := 23) rfl rfl rfl ?_
  obtain ⟨F, hF⟩ : ∃ F : zRm', F = fun c z => if (c = 0 ∧ z = 8 ∨ c = 30 ∧ z = 11 ∨ c = 69 ∧ z = 7 ∨ c = 783 ∧ z = 2) then none else R3 c z := ⟨_, rfl⟩
  have hF0 : ∀ (c : Nat) (z : Int), c = 0 ∧ z = 8 ∨ c = 30 ∧ z = 11 ∨ c = 69 ∧ z = 7 ∨ c = 783 ∧ z = 2 → F c z = none := fun c z q => by
    rw [hF]
    simp only [if_pos q]
  have hF1 : ∀ (c : Nat) (z : Int), ¬ (c = 0 ∧ z = 8 ∨ c = 30 ∧ z = 11 ∨ c = 69 ∧ z = 7 ∨ c = 783 ∧ z = 2) → F c z = R3 c z := fun c z q => by
    rw [hF]
    simp only [if_neg q]
  have hFR : zF F R3 := fun c z r q => by
    by_cases h : (c = 0 ∧ z = 8 ∨ c = 30 ∧ z = 11 ∨ c = 69 ∧ z = 7 ∨ c = 783 ∧ z = 2)
    · rw [hF0 c z h] at q
      cases q
    · rw [hF1 c z h] at q
      exact q
  have T4 : zVs 0 ([] ++ zL11 ++ zL12 ++ [(53, 1)]) zUa F := by
    refine ⟨?_, ?_, ?_, zUa_a, zUa_m, zUa_w, ?_, ⟨R3, zN11.cg (fun c z _ q => hr3 c z (by omega)) hN2, fun c z _ _ q => hF1 c z (by omega)⟩, fun c z q => hF0 c z (by omega), ⟨R3, hN3, fun c z q1 q2 => hF1 c z (by omega)⟩, fun c k q => ?_⟩
    · exact zIn.ext (zIn.ext zIn.self)
    · exact zIn.ext (zInB zL11_len)
    · have := zlast2 (T := [] ++ zL11 ++ zL12) (x := (53, 1)) (q := 919) rfl l3
      exact this
    · rw [List.length_append, l3]
      show (zU11 ++ zU12).length ≤ 919 + 1
      rw [List.length_append, zU11_len, zU12_len]
      decide
    · rw [List.length_append, l3] at q
      have q2 : 920 ≤ c := q
      rw [hF1 c k (by omega)]
      exact (hz3 c (by omega) k).2.2
  refine lw_loop C hS0 hend (L + 1) 0 0 _ _ _ M3 _ R3 rfl (by omega) (by omega) ⟨⟨?_, ?_, fun _ => ⟨?_, ?_⟩⟩, (zVd.first hI3 (fun c k q => (hz3 c q k).1) hFR).1, zUa, F, T4, Or.inl ?_, (zVd.first hI3 (fun c k q => (hz3 c q k).1) hFR).2⟩
  · exact Nat.le_of_ble_eq_true rfl
  · exact Nat.le_of_ble_eq_true rfl
  · exact Nat.le_of_ble_eq_true rfl
  · exact Nat.le_of_ble_eq_true rfl
  · exact (hr3 0 8 (by decide)).trans h82
end LAWM

