/-! ===== new objects and arrays ===== -/
theorem zW.add {w : zWp} {σ : zSg} {H H1 : Heap} {t : Nat × Nat} (hW : zW w σ H) (hs : H1.size = H.size + 1) (hq : ∀ q, q < H.size → H1[q]? = H[q]?) (ht : zat w (σ.1 ++ [t], σ.2) σ.1.length t H1) : zW w (σ.1 ++ [t], σ.2) H1 := by
  refine ⟨by rw [hs, hW.1]; show _ = w.2.1 + (σ.1 ++ [t]).length; rw [List.length_append]; rfl, fun i t2 ht2 => ?_⟩
  by_cases hi : i < σ.1.length
  · have ht3 : σ.1[i]? = some t2 := by
      have : (σ.1 ++ [t])[i]? = some t2 := ht2
      rw [List.getElem?_append_left hi] at this
      exact this
    rcases hW.2 i t2 ht3 with h | h
    · exact Or.inl h
    · exact Or.inr (h.kept (hq _ h.lt))
  · have h2 : (σ.1 ++ [t])[i]? = some t2 := ht2
    rw [List.getElem?_append_right (by omega)] at h2
    have hz : i - σ.1.length < 1 := (List.getElem?_eq_some_iff.mp h2).1
    rw [show i - σ.1.length = 0 by omega] at h2
    cases h2
    rw [show i = σ.1.length by omega]
    exact ht
/-- from n on nothing is told yet -/
def zFr (n : Nat) (M : zMm) (J : zJm) (R : zRm') : Prop := ∀ c, n ≤ c → ∀ k, M c k = 0 ∧ J c k = 0 ∧ R c k = none
theorem zFr.le {n n2 : Nat} {M : zMm} {J : zJm} {R : zRm'} (h : zFr n M J R) (hn : n ≤ n2) : zFr n2 M J R := fun c hc => h c (Nat.le_trans hn hc)
theorem zFr.M {n a : Nat} {M M2 : zMm} {J : zJm} {R : zRm'} {i x : Int} (h : zFr n M J R) (e : M2 = zup M a i x) (ha : a < n) : zFr n M2 J R := fun c hc k => ⟨(zup_p e (by omega) _).trans (h c hc k).1, (h c hc k).2⟩
theorem zFr.R {n a : Nat} {M : zMm} {J : zJm} {R R2 : zRm'} {i : Int} {x : Option Nat} (h : zFr n M J R) (e : R2 = zup R a i x) (ha : a < n) : zFr n M J R2 := fun c hc k => ⟨(h c hc k).1, (h c hc k).2.1, (zup_p e (by omega) _).trans (h c hc k).2.2⟩
theorem zS_push {w : zWp} {s : State} {H H1 : Heap} {locs : List Loc} (hS : va_S (zA w) s.heap H locs) (hs : H1.size = H.size + 1) (hq : ∀ q, q < H.size → H1[q]? = H[q]?) : va_S (zA w) s.heap H1 locs := ⟨Nat.le_trans hS.1 (by omega), fun x h1 h2 => (hq x (Nat.lt_of_lt_of_le h1 hS.1)).trans (hS.2.1 x h1 h2), hS.2.2⟩
def zfo (t : FieldType) : Bool := match t with
  | .int => true
  | .boolean => true
  | .byte => true
  | .long => true
  | .object _ => true
  | .array _ => true
  | _ => false
theorem zfv_0 {n0 i : Nat} {σ : zSg} {t : FieldType} {k : Nat} (ht : zfo t = true) (h1 : σ.2.1 i k = 0) (h2 : σ.2.2.1 i k = 0) (h3 : σ.2.2.2 i k = none) : defaultValue t = zfv n0 σ i t k := by
  unfold zfv
  rw [h1, h2, h3]
  cases t <;> first | rfl | cases ht
theorem zsz_app (T : List (Nat × Nat)) (t : Nat × Nat) : zsz (T ++ [t]) = zsz T + t.2 := by
  unfold zsz
  rw [List.map_append, List.sum_append]
  rfl
section NEWS
variable {w : zWp} {p : Program} {e : Env} {d mc ms : Nat} {s : State} {m : MethodId} {args : Array Value} {below : List Frame} {meth : Method} {c : Code} {y : MethodName} {b : ByteArray} {nL : Nat} {ret : Option FieldType} {T0 T : zTl} {M : zMm} {J : zJm} {R : zRm'} {Post : Option Value → zSg → Prop} {pc : Nat} {lv st : List Value} {σ : zSg}
theorem r_newI (C : zCx w p s m args meth c y b nL ret) {N : Nat} (hd : decode b pc = .ok (.newarray .int, 2)) (hN : N ≤ 1000000) (hz : zFr T.length M J R) (hrc : T.length + 1 ≤ T0.length + mc ∧ zsz T + N ≤ zsz T0 + ms) (kk : zK w p e d mc ms s m args below meth c nL T0 Post (pc + 2) lv (.ref (w.2.1 + T.length) :: st) (T ++ [(50, N)], M, J, R)) : zK w p e d mc ms s m args below meth c nL T0 Post pc lv (zi (N : Int) :: st) (T, M, J, R) := fun ls H locs k n h1 h2 hl hW hS => by
  have hsz : H.size = w.2.1 + T.length := hW.1
  have g1 : T0.length + k = T.length := h1
  have g2 : zsz T0 + n = zsz T := h2
  obtain ⟨z1, z2⟩ := zin (i := (N : Int)) (n := N + 1) ⟨by omega, by omega, by omega⟩
  refine va_newaK C.1 C.2.1 (C.2.2.2.2.1 _ (zt1 84 rfl rfl)) rfl hd rfl (N := N) (fun q => z1 (Or.inl q)) (by omega) (by show N * _ ≤ _; simp only [componentBytes, newarray.typeOf]; omega) (by show k + 1 ≤ mc; omega) (by show n + N ≤ ms; omega) hsz (fun H' cA e1 zs o1 hAr hNm => ?_)
  have hcA : w.2.2.2.1 0 = cA := Option.some.inj ((C.2.2.2.2.2.2.2.2.1.2 0 _ rfl).2.symm.trans hNm)
  subst hcA
  have hW2 : zW w (T ++ [(50, N)], M, J, R) H' := hW.add (by rw [zs, hsz]) (fun q hq => o1 q (by omega)) (Or.inr (by
    show H'[w.2.1 + T.length]? = some _
    rw [e1]
    refine congrArg some (congrArg (arrV (w.2.2.2.1 0) N) (funext (fun j => by show Value.int 0 = Value.int (Int32.ofInt (M T.length j)); rw [(hz T.length (Nat.le_refl _) j).1]; rfl)))))
  exact kk ls H' locs (k + 1) (n + N) (by show T0.length + (k + 1) = (T ++ [(50, N)]).length; rw [List.length_append]; show _ = T.length + 1; omega) (by show zsz T0 + (n + N) = zsz (T ++ [(50, N)]); rw [zsz_app]; show _ = zsz T + N; omega) hl hW2 (zS_push hS (by rw [zs, hsz]) (fun q hq => o1 q (by omega)))
theorem r_newB (C : zCx w p s m args meth c y b nL ret) {N : Nat} (hd : decode b pc = .ok (.newarray .byte, 2)) (hN : N ≤ 1000000) (hz : zFr T.length M J R) (hrc : T.length + 1 ≤ T0.length + mc ∧ zsz T + N ≤ zsz T0 + ms) (kk : zK w p e d mc ms s m args below meth c nL T0 Post (pc + 2) lv (.ref (w.2.1 + T.length) :: st) (T ++ [(51, N)], M, J, R)) : zK w p e d mc ms s m args below meth c nL T0 Post pc lv (zi (N : Int) :: st) (T, M, J, R) := fun ls H locs k n h1 h2 hl hW hS => by
  have hsz : H.size = w.2.1 + T.length := hW.1
  have g1 : T0.length + k = T.length := h1
  have g2 : zsz T0 + n = zsz T := h2
  obtain ⟨z1, z2⟩ := zin (i := (N : Int)) (n := N + 1) ⟨by omega, by omega, by omega⟩
  refine va_newaK C.1 C.2.1 (C.2.2.2.2.1 _ (zt1 83 rfl rfl)) rfl hd rfl (N := N) (fun q => z1 (Or.inl q)) (by omega) (by show N * _ ≤ _; simp only [componentBytes, newarray.typeOf]; omega) (by show k + 1 ≤ mc; omega) (by show n + N ≤ ms; omega) hsz (fun H' cA e1 zs o1 hAr hNm => ?_)
  have hcA : w.2.2.2.1 1 = cA := Option.some.inj ((C.2.2.2.2.2.2.2.2.1.2 1 _ rfl).2.symm.trans hNm)
  subst hcA
  have hW2 : zW w (T ++ [(51, N)], M, J, R) H' := hW.add (by rw [zs, hsz]) (fun q hq => o1 q (by omega)) (Or.inr (by
    show H'[w.2.1 + T.length]? = some _
    rw [e1]
    refine congrArg some (congrArg (arrV (w.2.2.2.1 1) N) (funext (fun j => by show Value.int 0 = Value.int (Int32.ofInt (M T.length j)); rw [(hz T.length (Nat.le_refl _) j).1]; rfl)))))
  exact kk ls H' locs (k + 1) (n + N) (by show T0.length + (k + 1) = (T ++ [(51, N)]).length; rw [List.length_append]; show _ = T.length + 1; omega) (by show zsz T0 + (n + N) = zsz (T ++ [(51, N)]); rw [zsz_app]; show _ = zsz T + N; omega) hl hW2 (zS_push hS (by rw [zs, hsz]) (fun q hq => o1 q (by omega)))
theorem r_newZ (C : zCx w p s m args meth c y b nL ret) {N : Nat} (hd : decode b pc = .ok (.newarray .boolean, 2)) (hN : N ≤ 1000000) (hz : zFr T.length M J R) (hrc : T.length + 1 ≤ T0.length + mc ∧ zsz T + N ≤ zsz T0 + ms) (kk : zK w p e d mc ms s m args below meth c nL T0 Post (pc + 2) lv (.ref (w.2.1 + T.length) :: st) (T ++ [(52, N)], M, J, R)) : zK w p e d mc ms s m args below meth c nL T0 Post pc lv (zi (N : Int) :: st) (T, M, J, R) := fun ls H locs k n h1 h2 hl hW hS => by
  have hsz : H.size = w.2.1 + T.length := hW.1
  have g1 : T0.length + k = T.length := h1
  have g2 : zsz T0 + n = zsz T := h2
  obtain ⟨z1, z2⟩ := zin (i := (N : Int)) (n := N + 1) ⟨by omega, by omega, by omega⟩
  refine va_newaK C.1 C.2.1 (C.2.2.2.2.1 _ (zt1 142 rfl rfl)) rfl hd rfl (N := N) (fun q => z1 (Or.inl q)) (by omega) (by show N * _ ≤ _; simp only [componentBytes, newarray.typeOf]; omega) (by show k + 1 ≤ mc; omega) (by show n + N ≤ ms; omega) hsz (fun H' cA e1 zs o1 hAr hNm => ?_)
  have hcA : w.2.2.2.1 2 = cA := Option.some.inj ((C.2.2.2.2.2.2.2.2.1.2 2 _ rfl).2.symm.trans hNm)
  subst hcA
  have hW2 : zW w (T ++ [(52, N)], M, J, R) H' := hW.add (by rw [zs, hsz]) (fun q hq => o1 q (by omega)) (Or.inr (by
    show H'[w.2.1 + T.length]? = some _
    rw [e1]
    refine congrArg some (congrArg (arrV (w.2.2.2.1 2) N) (funext (fun j => by show Value.int 0 = Value.int (Int32.ofInt (M T.length j)); rw [(hz T.length (Nat.le_refl _) j).1]; rfl)))))
  exact kk ls H' locs (k + 1) (n + N) (by show T0.length + (k + 1) = (T ++ [(52, N)]).length; rw [List.length_append]; show _ = T.length + 1; omega) (by show zsz T0 + (n + N) = zsz (T ++ [(52, N)]); rw [zsz_app]; show _ = zsz T + N; omega) hl hW2 (zS_push hS (by rw [zs, hsz]) (fun q hq => o1 q (by omega)))
theorem r_newJ (C : zCx w p s m args meth c y b nL ret) {N : Nat} (hd : decode b pc = .ok (.newarray .long, 2)) (hN : N ≤ 1000000) (hz : zFr T.length M J R) (hrc : T.length + 1 ≤ T0.length + mc ∧ zsz T + N ≤ zsz T0 + ms) (kk : zK w p e d mc ms s m args below meth c nL T0 Post (pc + 2) lv (.ref (w.2.1 + T.length) :: st) (T ++ [(53, N)], M, J, R)) : zK w p e d mc ms s m args below meth c nL T0 Post pc lv (zi (N : Int) :: st) (T, M, J, R) := fun ls H locs k n h1 h2 hl hW hS => by
  have hsz : H.size = w.2.1 + T.length := hW.1
  have g1 : T0.length + k = T.length := h1
  have g2 : zsz T0 + n = zsz T := h2
  obtain ⟨z1, z2⟩ := zin (i := (N : Int)) (n := N + 1) ⟨by omega, by omega, by omega⟩
  refine va_newaK C.1 C.2.1 (C.2.2.2.2.1 _ (zt2 189 rfl rfl)) rfl hd rfl (N := N) (fun q => z1 (Or.inl q)) (by omega) (by show N * _ ≤ _; simp only [componentBytes, newarray.typeOf]; omega) (by show k + 1 ≤ mc; omega) (by show n + N ≤ ms; omega) hsz (fun H' cA e1 zs o1 hAr hNm => ?_)
  have hcA : w.2.2.2.1 3 = cA := Option.some.inj ((C.2.2.2.2.2.2.2.2.1.2 3 _ rfl).2.symm.trans hNm)
  subst hcA
  have hW2 : zW w (T ++ [(53, N)], M, J, R) H' := hW.add (by rw [zs, hsz]) (fun q hq => o1 q (by omega)) (Or.inr (by
    show H'[w.2.1 + T.length]? = some _
    rw [e1]
    refine congrArg some (congrArg (arrV (w.2.2.2.1 3) N) (funext (fun j => by show Value.long 0 = Value.long (J T.length j); rw [(hz T.length (Nat.le_refl _) j).2.1])))))
  exact kk ls H' locs (k + 1) (n + N) (by show T0.length + (k + 1) = (T ++ [(53, N)]).length; rw [List.length_append]; show _ = T.length + 1; omega) (by show zsz T0 + (n + N) = zsz (T ++ [(53, N)]); rw [zsz_app]; show _ = zsz T + N; omega) hl hW2 (zS_push hS (by rw [zs, hsz]) (fun q hq => o1 q (by omega)))
theorem r_new (C : zCx w p s m args meth c y b nL ret) {ix ci N : Nat} {Cn : String} {Tn : u_T} (hd : decode b pc = .ok (.new ix, 3)) (hci : ci < 50) (hc : zcl[ci]? = some (Cn, Tn, N)) (hcl : (Cond.classLink y.cls ix Cn) ∈ lw_g) (hins : (Cond.instantiable Cn N) ∈ lw_g) (hini : (Cond.initialized Cn) ∈ lw_g) (hu : ∀ v ∈ u_ws Cn Tn N, v ∈ lw_g) (hty : ∀ k, k < N → parseFieldDescriptor (Tn k).2.2.1 = some (zty ci k)) (hdf : ((List.range N).all fun k => zfo (zty ci k)) = true) (hz : zFr T.length M J R) (hrc : T.length + 1 ≤ T0.length + mc ∧ zsz T + N ≤ zsz T0 + ms) (kk : zK w p e d mc ms s m args below meth c nL T0 Post (pc + 3) lv (.ref (w.2.1 + T.length) :: st) (T ++ [(ci, N)], M, J, R)) : zK w p e d mc ms s m args below meth c nL T0 Post pc lv st (T, M, J, R) := fun ls H locs k n h1 h2 hl hW hS => by
  have hsz : H.size = w.2.1 + T.length := hW.1
  have g1 : T0.length + k = T.length := h1
  have g2 : zsz T0 + n = zsz T := h2
  have hts := C.2.2.2.2.1
  have hKn := C.2.2.2.2.2.2.2.2.1.1 ci _ hc
  refine W.newcK C.1 C.2.1 C.2.2.2.1 (hts _ hcl) (hts _ hins) (hts _ hini) rfl hd (by show k + 1 ≤ mc; omega) (by show n + N ≤ ms; omega) hKn.2.1 hsz (fun H' kC hkC e1 zs o1 => ?_)
  have hW2 : zW w (T ++ [(ci, N)], M, J, R) H' := hW.add (by rw [zs, hsz]) (fun q hq => o1 q (by omega)) (Or.inr (by
    rw [zE_ob (by show ci < 50; exact hci)]
    refine ⟨_, hc, (u_born (zty ci) hts hu hKn hkC e1 hty).to (fun j hj => ?_)⟩
    show defaultValue (zty ci j) = vp_V ((List.range N).map (fun k => zfv w.2.1 (T ++ [(ci, N)], M, J, R) T.length (zty ci k) k)) j
    rw [zrangeV hj]
    have h0 := hz T.length (Nat.le_refl _) j
    exact zfv_0 (List.all_eq_true.mp hdf j (List.mem_range.mpr hj)) h0.1 h0.2.1 h0.2.2))
  exact kk ls H' locs (k + 1) (n + N) (by show T0.length + (k + 1) = (T ++ [(ci, N)]).length; rw [List.length_append]; show _ = T.length + 1; omega) (by show zsz T0 + (n + N) = zsz (T ++ [(ci, N)]); rw [zsz_app]; show _ = zsz T + N; omega) hl hW2 (zS_push hS (by rw [zs, hsz]) (fun q hq => o1 q (by omega)))
theorem r_newQ (C : zCx w p s m args meth c y b nL ret) {ix N kd : Nat} {Cn : String} (hd : decode b pc = .ok (.anewarray ix, 3)) (hkd : 54 ≤ kd ∧ kd ≤ 56) (hty : (ztys w.2.2.2.1)[kd - 50]? = some (w.2.2.2.1 (kd - 50), .object Cn)) (hcl : (Cond.classLink y.cls ix Cn) ∈ lw_g) (hao : FieldType.object Cn ∈ zAo) (hN : N ≤ 1000000) (hz : zFr T.length M J R) (hrc : T.length + 1 ≤ T0.length + mc ∧ zsz T + N ≤ zsz T0 + ms) (kk : zK w p e d mc ms s m args below meth c nL T0 Post (pc + 3) lv (.ref (w.2.1 + T.length) :: st) (T ++ [(kd, N)], M, J, R)) : zK w p e d mc ms s m args below meth c nL T0 Post pc lv (zi (N : Int) :: st) (T, M, J, R) := fun ls H locs k n h1 h2 hl hW hS => by
  have hsz : H.size = w.2.1 + T.length := hW.1
  have g1 : T0.length + k = T.length := h1
  have g2 : zsz T0 + n = zsz T := h2
  have hts := C.2.2.2.2.1
  obtain ⟨z1, z2⟩ := zin (i := (N : Int)) (n := N + 1) ⟨by omega, by omega, by omega⟩
  have z3 : (Int32.ofInt (N : Int)).toNatClampNeg = N := by omega
  have hov := C.2.2.2.2.2.2.2.2.2.1.2.2.2.2.2.2 _ hao
  refine W.anew C.1 C.2.1 C.2.2.2.1 (hts _ hcl) (va_AO.use (va_AO.of hov)) rfl hd rfl (fun q => z1 (Or.inl q)) (by rw [z3]; omega) (by show k + 1 ≤ mc; omega) (by rw [z3]; show n + N ≤ ms; omega) (fun cA kA comp f1 f2 f3 f4 => ?_)
  have hcA : w.2.2.2.1 (kd - 50) = cA := by
    obtain ⟨_, kA2, comp2, _, _, _, q4⟩ := C.2.2.2.2.2.2.2.2.1.2 (kd - 50) _ hty
    exact Option.some.inj (q4.symm.trans f1)
  subst hcA
  rw [z3]
  have e0 : (H.push { cls := w.2.2.2.1 (kd - 50), slots := Array.replicate N .null, vm := .none }).size = H.size + 1 := by simp
  have eq : ∀ q, q < H.size → (H.push { cls := w.2.2.2.1 (kd - 50), slots := Array.replicate N .null, vm := .none })[q]? = H[q]? := fun q hq => by rw [Array.getElem?_push, if_neg (Nat.ne_of_lt hq)]
  have hW2 : zW w (T ++ [(kd, N)], M, J, R) (H.push { cls := w.2.2.2.1 (kd - 50), slots := Array.replicate N .null, vm := .none }) := hW.add e0 eq (Or.inr (by
    rw [zE_rf (by show 53 < kd; omega)]
    show (H.push _)[w.2.1 + T.length]? = some (arrV (w.2.2.2.1 (kd - 50)) N (fun j => va_rf (zof w.2.1 (R T.length j))))
    have hf : (fun j : Nat => va_rf (zof w.2.1 (R T.length (j : Int)))) = fun _ => Value.null := funext fun j => by rw [(hz T.length (Nat.le_refl _) j).2.2]; rfl
    rw [hf, ← hsz, ← arrV_new]
    simp))
  rw [hsz]
  exact kk ls _ locs (k + 1) (n + N) (by show T0.length + (k + 1) = (T ++ [(kd, N)]).length; rw [List.length_append]; show _ = T.length + 1; omega) (by show zsz T0 + (n + N) = zsz (T ++ [(kd, N)]); rw [zsz_app]; show _ = zsz T + N; omega) hl hW2 (zS_push hS e0 eq)
end NEWS
