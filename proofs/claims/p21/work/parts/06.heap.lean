/-! ===== rows that end a method, read and write cells ===== -/
def zup {α : Type} (M : Nat → Int → α) (a : Nat) (i : Int) (x : α) : Nat → Int → α := fun c j => if c = a ∧ j = i then x else M c j
theorem zup_at {α : Type} {M : Nat → Int → α} {a : Nat} {i : Int} {x : α} : zup M a i x a i = x := if_pos ⟨rfl, rfl⟩
theorem zup_a {α : Type} {M : Nat → Int → α} {a c : Nat} {i : Int} {x : α} (h : c ≠ a) : zup M a i x c = M c := by
  funext j
  exact if_neg (fun q => h q.1)
theorem zup_i {α : Type} {M : Nat → Int → α} {a c : Nat} {i j : Int} {x : α} (h : j ≠ i) : zup M a i x c j = M c j := if_neg (fun q => h q.2)
theorem zE_cg {cA : Nat → ClassId} {n0 : Nat} {σ τ : zSg} {i : Nat} {t : Nat × Nat} (h1 : τ.2.1 i = σ.2.1 i) (h2 : τ.2.2.1 i = σ.2.2.1 i) (h3 : τ.2.2.2 i = σ.2.2.2 i) : zE cA n0 τ i t = zE cA n0 σ i t := by
  unfold zE zfv
  rw [h1, h2, h3]
theorem zW.put {w : zWp} {σ τ : zSg} {H H1 : Heap} {a : Nat} {t : Nat × Nat} (hW : zW w σ H) (ht : σ.1[a]? = some t) (hT : τ.1 = σ.1) (h1 : ∀ c, c ≠ a → τ.2.1 c = σ.2.1 c) (h2 : ∀ c, c ≠ a → τ.2.2.1 c = σ.2.2.1 c) (h3 : ∀ c, c ≠ a → τ.2.2.2 c = σ.2.2.2 c)
    (hn : va_at w.2.2.1 zcl (w.2.1 + a, zE w.2.2.2.1 w.2.1 τ a t) H1) (hz : H1.size = H.size) (ho : ∀ q : Nat, q ≠ w.2.1 + a → H1[q]? = H[q]?) : zW w τ H1 := by
  refine ⟨by rw [hz, hT]; exact hW.1, fun i u hu => ?_⟩
  rw [hT] at hu
  by_cases hi : i = a
  · subst hi
    cases ht.symm.trans hu
    exact Or.inr hn
  · rcases hW.2 i u hu with h | h
    · exact Or.inl h
    · refine Or.inr ?_
      rw [zE_cg (h1 i hi) (h2 i hi) (h3 i hi)]
      exact h.kept (ho _ (by simp only; omega))
theorem zW.get {w : zWp} {σ : zSg} {H : Heap} {a : Nat} {t : Nat × Nat} (hW : zW w σ H) (ht : σ.1[a]? = some t) (h9 : ¬ t.1 = 99) : va_P w.2.2.1 zcl [(w.2.1 + a, zE w.2.2.2.1 w.2.1 σ a t)] H := by
  intro k q hk
  have hz : k < 1 := (List.getElem?_eq_some_iff.mp hk).1
  rw [show k = 0 by omega] at hk
  cases hk
  exact (hW.2 a t ht).resolve_left h9
/-- a field by its link: its class, its number, int (0), long (1) or reference (2) -/
def zFd (own : String) (ix ci N k t : Nat) : Prop := ∃ (Cn : String) (Tn : u_T), zcl[ci]? = some (Cn, Tn, N) ∧ ci < 50 ∧ k < N ∧ zft (zty ci k) = t ∧ (∀ v ∈ u_ws Cn Tn N, v ∈ lw_g) ∧ (∀ j, j < N → parseFieldDescriptor (Tn j).2.2.1 = some (zty ci j)) ∧ (∀ a, a < N → ∀ b, b < N → a ≠ b → (Tn a).2.1 ≠ (Tn b).2.1) ∧ Cond.fieldLink own ix (Tn k).1 (Tn k).2.1 (Tn k).2.2.1 ∈ lw_g
/-- whether a class's field is final -/
def zfin (ci k : Nat) : Bool := match zcl[ci]? with
  | some r => (r.2.1 k).2.2.2
  | none => true
def zdec (ci k : Nat) : String := match zcl[ci]? with
  | some r => (r.2.1 k).1
  | none => ""
theorem zE_ob {cA : Nat → ClassId} {n0 : Nat} {σ : zSg} {i : Nat} {t : Nat × Nat} (h : t.1 < 50) : zE cA n0 σ i t = .inr (t.1, (List.range t.2).map (fun k => zfv n0 σ i (zty t.1 k) k)) := by unfold zE; rw [if_pos h]
theorem zE_in {cA : Nat → ClassId} {n0 : Nat} {σ : zSg} {i n k : Nat} (h : 50 ≤ k) (h2 : k < 53) : zE cA n0 σ i (k, n) = .inl (cA (k - 50), n, .inl (fun j => Int32.ofInt (σ.2.1 i j))) := by
  unfold zE
  rw [if_neg (by show ¬ k < 50; omega), if_pos (by show k < 53; exact h2)]
theorem zE_lo {cA : Nat → ClassId} {n0 : Nat} {σ : zSg} {i n : Nat} : zE cA n0 σ i (53, n) = .inl (cA 3, n, .inr (.inl (fun j => σ.2.2.1 i j))) := rfl
theorem zE_rf {cA : Nat → ClassId} {n0 : Nat} {σ : zSg} {i n k : Nat} (h : 54 ≤ k) : zE cA n0 σ i (k, n) = .inl (cA (k - 50), n, .inr (.inr (.inr (.inr (fun j => zof n0 (σ.2.2.2 i j)))))) := by
  unfold zE
  rw [if_neg (by show ¬ k < 50; omega), if_neg (by show ¬ k < 53; omega), if_neg (by show ¬ k = 53; omega)]
theorem zrange {N k : Nat} {g : Nat → Value} (h : k < N) : ((List.range N).map g)[k]? = some (g k) := by simp [h]
theorem zrangeV {N k : Nat} {g : Nat → Value} (h : k < N) : vp_V ((List.range N).map g) k = g k := by
  unfold vp_V
  rw [List.getD_eq_getElem?_getD, zrange h]
  rfl
section HEAPROWS
variable {w : zWp} {p : Program} {e : Env} {d mc ms : Nat} {s : State} {m : MethodId} {args : Array Value} {below : List Frame} {meth : Method} {c : Code} {y : MethodName} {b : ByteArray} {nL : Nat} {ret : Option FieldType} {T0 : List (Nat × Nat)} {Post : Option Value → zSg → Prop} {pc : Nat} {lv st : List Value} {σ : zSg}

theorem r_iret (C : zCx w p s m args meth c y b nL (some .int)) {x : Int} (hd : decode b pc = .ok (.ireturn, 1)) (hT : σ.1.length = T0.length + mc ∧ zsz σ.1 = zsz T0 + ms) (hp : Post (some (zi x)) σ) : zK w p e d mc ms s m args below meth c nL T0 Post pc lv [zi x] σ := fun ls H locs k n h1 h2 hl hW hS => by
  obtain ⟨g1, g2⟩ := hT
  have e1 : k = mc := by omega
  have e2 : n = ms := by omega
  subst e1
  subst e2
  exact W.iret C.1 C.2.1 C.2.2.2.2.2.2.1 (fun t ht hw => ⟨some (zi x), σ, rfl, ⟨hp, g1, g2⟩, by rw [ht]; exact hW, hS.F ht⟩) (fun q hq => hS.2.2 q hq) hd C.2.2.2.2.2.1
theorem r_zret (C : zCx w p s m args meth c y b nL (some .boolean)) {x : Int} (hx : x = 0 ∨ x = 1) (hd : decode b pc = .ok (.ireturn, 1)) (hT : σ.1.length = T0.length + mc ∧ zsz σ.1 = zsz T0 + ms) (hp : Post (some (zi x)) σ) : zK w p e d mc ms s m args below meth c nL T0 Post pc lv [zi x] σ := fun ls H locs k n h1 h2 hl hW hS => by
  obtain ⟨g1, g2⟩ := hT
  have e1 : k = mc := by omega
  have e2 : n = ms := by omega
  subst e1
  subst e2
  exact W.zret C.1 C.2.1 C.2.2.2.2.2.2.1 (by rcases hx with rfl | rfl <;> rfl) (fun t ht hw => ⟨some (zi x), σ, rfl, ⟨hp, g1, g2⟩, by rw [ht]; exact hW, hS.F ht⟩) (fun q hq => hS.2.2 q hq) hd C.2.2.2.2.2.1
theorem r_lret (C : zCx w p s m args meth c y b nL (some .long)) {x : Int64} (hd : decode b pc = .ok (.lreturn, 1)) (hT : σ.1.length = T0.length + mc ∧ zsz σ.1 = zsz T0 + ms) (hp : Post (some (.long x)) σ) : zK w p e d mc ms s m args below meth c nL T0 Post pc lv [.long x] σ := fun ls H locs k n h1 h2 hl hW hS => by
  obtain ⟨g1, g2⟩ := hT
  have e1 : k = mc := by omega
  have e2 : n = ms := by omega
  subst e1
  subst e2
  exact W.lret C.1 C.2.1 C.2.2.2.2.2.2.1 (fun t ht hw => ⟨some (.long x), σ, rfl, ⟨hp, g1, g2⟩, by rw [ht]; exact hW, hS.F ht⟩) (fun q hq => hS.2.2 q hq) hd C.2.2.2.2.2.1
theorem r_vret (C : zCx w p s m args meth c y b nL none) (hd : decode b pc = .ok (.return_, 1)) (hT : σ.1.length = T0.length + mc ∧ zsz σ.1 = zsz T0 + ms) (hp : Post (none) σ) : zK w p e d mc ms s m args below meth c nL T0 Post pc lv [] σ := fun ls H locs k n h1 h2 hl hW hS => by
  obtain ⟨g1, g2⟩ := hT
  have e1 : k = mc := by omega
  have e2 : n = ms := by omega
  subst e1
  subst e2
  exact W.vret C.1 C.2.1 C.2.2.2.2.2.2.1 (fun t ht hw => ⟨none, σ, rfl, ⟨hp, g1, g2⟩, by rw [ht]; exact hW, hS.F ht⟩) (fun q hq => hS.2.2 q hq) hd C.2.2.2.2.2.1
theorem r_aret {rt : FieldType} (C : zCx w p s m args meth c y b nL (some rt)) (hrt : (∃ n, rt = .object n) ∨ ∃ t, rt = .array t) {x : Nat} (hd : decode b pc = .ok (.areturn, 1)) (hT : σ.1.length = T0.length + mc ∧ zsz σ.1 = zsz T0 + ms) (hp : Post (some (.ref x)) σ) : zK w p e d mc ms s m args below meth c nL T0 Post pc lv [.ref x] σ := fun ls H locs k n h1 h2 hl hW hS => by
  obtain ⟨g1, g2⟩ := hT
  have e1 : k = mc := by omega
  have e2 : n = ms := by omega
  subst e1
  subst e2
  exact W.aret C.1 C.2.1 C.2.2.2.2.2.2.1 hrt (Or.inr ⟨x, rfl⟩) (fun t ht hw => ⟨some (.ref x), σ, rfl, ⟨hp, g1, g2⟩, by rw [ht]; exact hW, hS.F ht⟩) (fun q hq => hS.2.2 q hq) hd C.2.2.2.2.2.1
theorem r_tableIn (C : zCx w p s m args meth c y b nL ret) {dflt lo hi off x : Int} {offs : Array Int} {len tgt : Nat} (hx : zr x) (hd : decode b pc = .ok (.tableswitch dflt lo hi offs, len)) (g1 : ¬ x < lo) (g2 : ¬ hi < x) (ho : offs[(x - lo).toNat]? = some off) (ht : (pc : Int) + off = (tgt : Int)) (kk : zK w p e d mc ms s m args below meth c nL T0 Post tgt lv st σ) : zK w p e d mc ms s m args below meth c nL T0 Post pc lv (zi x :: st) σ := fun ls H locs k n h1 h2 hl hW hS => lv_tableIn C.1 C.2.1 hd (by rw [zto hx]; exact g1) (by rw [zto hx]; exact g2) (by rw [zto hx]; exact ho) ht (kk ls H locs k n h1 h2 hl hW hS)
theorem r_tableOut (C : zCx w p s m args meth c y b nL ret) {dflt lo hi x : Int} {offs : Array Int} {len tgt : Nat} (hx : zr x) (hd : decode b pc = .ok (.tableswitch dflt lo hi offs, len)) (g1 : x < lo ∨ hi < x) (ht : (pc : Int) + dflt = (tgt : Int)) (kk : zK w p e d mc ms s m args below meth c nL T0 Post tgt lv st σ) : zK w p e d mc ms s m args below meth c nL T0 Post pc lv (zi x :: st) σ := fun ls H locs k n h1 h2 hl hW hS => lv_tableOut C.1 C.2.1 hd (by rw [zto hx]; exact g1) ht (kk ls H locs k n h1 h2 hl hW hS)
theorem r_lookup (C : zCx w p s m args meth c y b nL ret) {dflt off x : Int} {ps : Array (Int × Int)} {len tgt : Nat} (hx : zr x) (hd : decode b pc = .ok (.lookupswitch dflt ps, len)) (hp : (ps.toList.zip (ps.toList.drop 1)).all (fun (a, next) => a.1 < next.1) = true) (ho : Op.lookupswitch.offset ps.toList dflt x = off) (ht : (pc : Int) + off = (tgt : Int)) (kk : zK w p e d mc ms s m args below meth c nL T0 Post tgt lv st σ) : zK w p e d mc ms s m args below meth c nL T0 Post pc lv (zi x :: st) σ := fun ls H locs k n h1 h2 hl hW hS => lv_lookup C.1 C.2.1 hd hp (by rw [zto hx]; exact ho) ht (kk ls H locs k n h1 h2 hl hW hS)
/-- a field read: any -/
theorem r_getV (C : zCx w p s m args meth c y b nL ret) {ix ci N k t a : Nat} (hf : zFd y.cls ix ci N k t) (ht : σ.1[a]? = some (ci, N)) (hd : decode b pc = .ok (.getfield ix, 3)) (kk : zK w p e d mc ms s m args below meth c nL T0 Post (pc + 3) lv (zfv w.2.1 σ a (zty ci k) k :: st) σ) : zK w p e d mc ms s m args below meth c nL T0 Post pc lv (.ref (w.2.1 + a) :: st) σ := fun ls H locs q n h1 h2 hl hW hS => by
  obtain ⟨Cn, Tn, f1, f2, f3, f4, f5, f6, f7, f8⟩ := hf
  have hP := hW.get ht (by show ¬ ci = 99; omega)
  rw [zE_ob (by show ci < 50; exact f2)] at hP
  exact va_get C.1 C.2.1 C.2.2.2.2.1 f5 C.2.2.2.1 C.2.2.2.2.2.2.2.2.1 hP 0 rfl f1 k f3 (C.2.2.2.2.1 _ f8) (fun x h => h) (zrange f3) hd (kk ls H locs q n h1 h2 hl hW hS)
theorem r_getI (C : zCx w p s m args meth c y b nL ret) {ix ci N k a : Nat} (hf : zFd y.cls ix ci N k 0) (ht : σ.1[a]? = some (ci, N)) (hd : decode b pc = .ok (.getfield ix, 3)) (kk : zK w p e d mc ms s m args below meth c nL T0 Post (pc + 3) lv (zi (σ.2.1 a k) :: st) σ) : zK w p e d mc ms s m args below meth c nL T0 Post pc lv (.ref (w.2.1 + a) :: st) σ := by
  refine r_getV C hf ht hd ?_
  obtain ⟨Cn, Tn, f1, f2, f3, f4, f5⟩ := hf
  unfold zfv
  rw [if_pos f4]
  exact kk
theorem r_getL (C : zCx w p s m args meth c y b nL ret) {ix ci N k a : Nat} (hf : zFd y.cls ix ci N k 1) (ht : σ.1[a]? = some (ci, N)) (hd : decode b pc = .ok (.getfield ix, 3)) (kk : zK w p e d mc ms s m args below meth c nL T0 Post (pc + 3) lv (.long (σ.2.2.1 a k) :: st) σ) : zK w p e d mc ms s m args below meth c nL T0 Post pc lv (.ref (w.2.1 + a) :: st) σ := by
  refine r_getV C hf ht hd ?_
  obtain ⟨Cn, Tn, f1, f2, f3, f4, f5⟩ := hf
  unfold zfv
  rw [if_neg (by rw [f4]; decide), if_pos f4]
  exact kk
theorem r_getR (C : zCx w p s m args meth c y b nL ret) {ix ci N k a r : Nat} (hf : zFd y.cls ix ci N k 2) (ht : σ.1[a]? = some (ci, N)) (hr : σ.2.2.2 a k = some r) (hd : decode b pc = .ok (.getfield ix, 3)) (kk : zK w p e d mc ms s m args below meth c nL T0 Post (pc + 3) lv (.ref (w.2.1 + r) :: st) σ) : zK w p e d mc ms s m args below meth c nL T0 Post pc lv (.ref (w.2.1 + a) :: st) σ := by
  refine r_getV C hf ht hd ?_
  obtain ⟨Cn, Tn, f1, f2, f3, f4, f5⟩ := hf
  unfold zfv
  rw [if_neg (by rw [f4]; decide), if_neg (by rw [f4]; decide), hr]
  exact kk
/-- a field written: any that is not final -/
theorem r_putV (C : zCx w p s m args meth c y b nL ret) {ix ci N k t a : Nat} {v : Value} {τ : zSg} (hf : zFd y.cls ix ci N k t) (hfin : zfin ci k = false) (ht : σ.1[a]? = some (ci, N)) (hn : narrow (zty ci k) v = v) (hfit : fits (zty ci k) v = true) (hT : τ.1 = σ.1) (g1 : ∀ c, c ≠ a → τ.2.1 c = σ.2.1 c) (g2 : ∀ c, c ≠ a → τ.2.2.1 c = σ.2.2.1 c) (g3 : ∀ c, c ≠ a → τ.2.2.2 c = σ.2.2.2 c)
    (gv : ∀ j : Nat, j < N → (if j = k then v else zfv w.2.1 σ a (zty ci j) j) = zfv w.2.1 τ a (zty ci j) j) (hd : decode b pc = .ok (.putfield ix, 3)) (kk : zK w p e d mc ms s m args below meth c nL T0 Post (pc + 3) lv st τ) : zK w p e d mc ms s m args below meth c nL T0 Post pc lv (v :: .ref (w.2.1 + a) :: st) σ := fun ls H locs q n h1 h2 hl hW hS => by
  obtain ⟨Cn, Tn, f1, f2, f3, f4, f5, f6, f7, f8⟩ := hf
  have hts := C.2.2.2.2.1
  have hK := C.2.2.2.2.2.2.2.2.1
  have hap := va_apart (own := y.cls) hts f5 (zty ci) f6 f7 hK f1
  have h0 := hW.get ht (by show ¬ ci = 99; omega)
  rw [zE_ob (by show ci < 50; exact f2)] at h0
  obtain ⟨r, r1, cell, q1, q2, q3, q4⟩ := h0 0 _ rfl
  have hr : r = (Cn, Tn, N) := Option.some.inj (r1.symm.trans f1)
  subst hr
  obtain ⟨hSl, hfc, kC, hkC, hkind⟩ := hK.1 ci _ f1
  obtain ⟨cf, kf, fi, f, hi, hsl⟩ := hSl k f3
  have hlay := hts _ (f5 _ (u_in_lay f3))
  have hff : (Tn k).2.2.2 = false := by
    unfold zfin at hfin
    rw [f1] at hfin
    exact hfin
  unfold u_lay at hlay
  rw [if_neg (by rw [hff]; decide)] at hlay
  have hst := (u_facts hfc hkC (u_lays hts f5 f3) hi).1
  have h6 := u_store hfc hkC hkind hlay hi (f6 k f3) hn hfit
  refine W.putK C.1 C.2.1 (f := f) ⟨C.2.2.2.1, hts _ f8, ⟨_, _, _, hi⟩, hst⟩ (by rw [q2]; exact h6) q1 q3 (by rw [hsl]; exact k2_hasslot (q4 k f3)) rfl rfl hd fun H' e1 e2 e3 => ?_
  rw [hsl] at e1 ⊢
  refine kk ls H' _ q n (by rw [hT]; exact h1) (by rw [hT]; exact h2) hl (hW.put ht hT g1 g2 g3 ?_ e2 e3) (hS.put e2 e3 (Nat.le_add_right _ _))
  rw [zE_ob (by show ci < 50; exact f2)]
  refine ⟨_, f1, t_OB.to (V := updV (vp_V ((List.range N).map (fun k => zfv w.2.1 σ a (zty ci k) k))) k v) ⟨_, e1, q2, q3, t_set q4 hap f3 v⟩ (fun j hj => ?_)⟩
  show updV _ k v j = vp_V ((List.range N).map (fun k => zfv w.2.1 τ a (zty ci k) k)) j
  rw [zrangeV hj, ← gv j hj]
  unfold updV
  by_cases hjk : j = k
  · rw [if_pos hjk, if_pos hjk]
  · rw [if_neg hjk, if_neg hjk, zrangeV hj]
theorem zfv_up0 {n0 a k : Nat} {σ : zSg} {x : Int} {ci : Nat} (h : zft (zty ci k) = 0) (j : Nat) : (if j = k then zi x else zfv n0 σ a (zty ci j) j) = zfv n0 (σ.1, zup σ.2.1 a k x, σ.2.2) a (zty ci j) j := by
  by_cases hj : j = k
  · subst hj
    rw [if_pos rfl]
    unfold zfv
    rw [if_pos h]
    show zi x = zi (zup σ.2.1 a j x a j)
    rw [zup_at]
  · rw [if_neg hj]
    unfold zfv
    show _ = if zft (zty ci j) = 0 then zi (zup σ.2.1 a k x a j) else _
    rw [zup_i (by omega)]
theorem r_putI (C : zCx w p s m args meth c y b nL ret) {ix ci N k a : Nat} {x : Int} (hf : zFd y.cls ix ci N k 0) (hfin : zfin ci k = false) (hty : zty ci k = .int) (ht : σ.1[a]? = some (ci, N)) (hd : decode b pc = .ok (.putfield ix, 3)) (kk : zK w p e d mc ms s m args below meth c nL T0 Post (pc + 3) lv st (σ.1, zup σ.2.1 a k x, σ.2.2)) : zK w p e d mc ms s m args below meth c nL T0 Post pc lv (zi x :: .ref (w.2.1 + a) :: st) σ := by
  refine r_putV (τ := (σ.1, zup σ.2.1 a k x, σ.2.2)) C hf hfin ht (by rw [hty]; rfl) (by rw [hty]; rfl) rfl (fun c hc => zup_a hc) (fun _ _ => rfl) (fun _ _ => rfl) (fun j _ => ?_) hd kk
  obtain ⟨Cn, Tn, f1, f2, f3, f4, f5⟩ := hf
  exact zfv_up0 f4 j
theorem r_putZ (C : zCx w p s m args meth c y b nL ret) {ix ci N k a : Nat} {x : Int} (hf : zFd y.cls ix ci N k 0) (hfin : zfin ci k = false) (hty : zty ci k = .boolean) (hx : x = 0 ∨ x = 1) (ht : σ.1[a]? = some (ci, N)) (hd : decode b pc = .ok (.putfield ix, 3)) (kk : zK w p e d mc ms s m args below meth c nL T0 Post (pc + 3) lv st (σ.1, zup σ.2.1 a k x, σ.2.2)) : zK w p e d mc ms s m args below meth c nL T0 Post pc lv (zi x :: .ref (w.2.1 + a) :: st) σ := by
  refine r_putV (τ := (σ.1, zup σ.2.1 a k x, σ.2.2)) C hf hfin ht (by rw [hty]; rcases hx with rfl | rfl <;> rfl) (by rw [hty]; rcases hx with rfl | rfl <;> rfl) rfl (fun c hc => zup_a hc) (fun _ _ => rfl) (fun _ _ => rfl) (fun j _ => ?_) hd kk
  obtain ⟨Cn, Tn, f1, f2, f3, f4, f5⟩ := hf
  exact zfv_up0 f4 j

theorem r_iald (C : zCx w p s m args meth c y b nL ret) {a n : Nat} {i : Int} (ht : σ.1[a]? = some (50, n)) (hi : 0 ≤ i ∧ i < n ∧ i ≤ 2147483647) (hd : decode b pc = .ok (.iaload, 1)) (kk : zK w p e d mc ms s m args below meth c nL T0 Post (pc + 1) lv (zi (σ.2.1 a i) :: st) σ) : zK w p e d mc ms s m args below meth c nL T0 Post pc lv (zi i :: .ref (w.2.1 + a) :: st) σ := fun ls H locs q n2 h1 h2 hl hW hS => by
  obtain ⟨g1, g2⟩ := zin hi
  have hP := hW.get ht (fun q => by cases q)
  rw [zE_in (by decide) (by decide)] at hP
  refine va_iald C.1 C.2.1 C.2.2.2.2.2.2.2.2.1 hP 0 0 rfl rfl g1 hd ?_
  show W _ _ _ _ _ _ _ _ _ _ _ _ _ _ _ (F0 m (pc + 1) ls (Value.int (Int32.ofInt (σ.2.1 a ((Int32.ofInt i).toNatClampNeg : Nat))) :: st))
  rw [g2]
  exact kk ls H locs q n2 h1 h2 hl hW hS
theorem r_bald (C : zCx w p s m args meth c y b nL ret) {a n : Nat} {i : Int} (ht : σ.1[a]? = some (51, n)) (hi : 0 ≤ i ∧ i < n ∧ i ≤ 2147483647) (hd : decode b pc = .ok (.baload, 1)) (kk : zK w p e d mc ms s m args below meth c nL T0 Post (pc + 1) lv (zi (σ.2.1 a i) :: st) σ) : zK w p e d mc ms s m args below meth c nL T0 Post pc lv (zi i :: .ref (w.2.1 + a) :: st) σ := fun ls H locs q n2 h1 h2 hl hW hS => by
  obtain ⟨g1, g2⟩ := zin hi
  have hP := hW.get ht (fun q => by cases q)
  rw [zE_in (by decide) (by decide)] at hP
  refine va_bald C.1 C.2.1 C.2.2.2.2.2.2.2.2.1 hP 0 1 rfl rfl g1 hd ?_
  show W _ _ _ _ _ _ _ _ _ _ _ _ _ _ _ (F0 m (pc + 1) ls (Value.int (Int32.ofInt (σ.2.1 a ((Int32.ofInt i).toNatClampNeg : Nat))) :: st))
  rw [g2]
  exact kk ls H locs q n2 h1 h2 hl hW hS
theorem r_zald (C : zCx w p s m args meth c y b nL ret) {a n : Nat} {i : Int} (ht : σ.1[a]? = some (52, n)) (hi : 0 ≤ i ∧ i < n ∧ i ≤ 2147483647) (hd : decode b pc = .ok (.baload, 1)) (kk : zK w p e d mc ms s m args below meth c nL T0 Post (pc + 1) lv (zi (σ.2.1 a i) :: st) σ) : zK w p e d mc ms s m args below meth c nL T0 Post pc lv (zi i :: .ref (w.2.1 + a) :: st) σ := fun ls H locs q n2 h1 h2 hl hW hS => by
  obtain ⟨g1, g2⟩ := zin hi
  have hP := hW.get ht (fun q => by cases q)
  rw [zE_in (by decide) (by decide)] at hP
  refine va_zald C.1 C.2.1 C.2.2.2.2.2.2.2.2.1 hP 0 2 rfl rfl g1 hd ?_
  show W _ _ _ _ _ _ _ _ _ _ _ _ _ _ _ (F0 m (pc + 1) ls (Value.int (Int32.ofInt (σ.2.1 a ((Int32.ofInt i).toNatClampNeg : Nat))) :: st))
  rw [g2]
  exact kk ls H locs q n2 h1 h2 hl hW hS
theorem zarr {cA : ClassId} {n a : Nat} {M : Nat → Int → Int} {i x : Int} {z : Int32} (hz : z = Int32.ofInt x) (g2 : ((Int32.ofInt i).toNatClampNeg : Int) = i) : (vp_cell cA (n, .inl (fun j : Nat => Int32.ofInt (M a j)))).setSlot (Int32.ofInt i).toNatClampNeg (.int z) = vp_cell cA (n, .inl (fun j : Nat => Int32.ofInt (zup M a i x a j))) := by
  rw [vp_cell_i, vp_cell_i, arrV_store]
  congr 1
  funext j
  unfold updV zup
  by_cases hj : j = (Int32.ofInt i).toNatClampNeg
  · rw [if_pos hj, if_pos ⟨rfl, by omega⟩, hz]
  · rw [if_neg hj, if_neg (fun q => hj (by omega))]
theorem r_iast (C : zCx w p s m args meth c y b nL ret) {a n : Nat} {i x : Int} (ht : σ.1[a]? = some (50, n)) (hi : 0 ≤ i ∧ i < n ∧ i ≤ 2147483647) (hd : decode b pc = .ok (.iastore, 1)) (kk : zK w p e d mc ms s m args below meth c nL T0 Post (pc + 1) lv st (σ.1, zup σ.2.1 a i x, σ.2.2)) : zK w p e d mc ms s m args below meth c nL T0 Post pc lv (zi x :: zi i :: .ref (w.2.1 + a) :: st) σ := fun ls H locs q n2 h1 h2 hl hW hS => by
  obtain ⟨g1, g2⟩ := zin hi
  have hP := hW.get ht (fun q => by cases q)
  rw [zE_in (by decide) (by decide)] at hP
  refine W.iast C.1 C.2.1 (hP 0 _ rfl) ((C.2.2.2.2.2.2.2.2.1.2 0 _ rfl).1 n (fun j => .int (Int32.ofInt (σ.2.1 a j)))) (fun q => by cases q) (by show ¬ (Int32.ofInt i < 0 ∨ (arrV _ _ _).slots.size ≤ _); rw [arrV_size]; exact g1) rfl rfl hd fun H1 e1 z1 o1 => ?_
  refine kk ls H1 _ q n2 h1 h2 hl (hW.put ht rfl (fun c hc => zup_a hc) (fun _ _ => rfl) (fun _ _ => rfl) ?_ z1 o1) (hS.put z1 o1 (Nat.le_add_right _ _))
  rw [zE_in (by decide) (by decide)]
  exact e1.trans (congrArg some (zarr rfl g2))
theorem znb {x : Int} (h : -128 ≤ x ∧ x ≤ 127) : (Int32.ofInt x).toInt8.toInt32 = Int32.ofInt x := by
  rw [← Int32.toInt_inj, Int8.toInt_toInt32, zto ⟨by omega, by omega⟩, Int32.toInt_toInt8, zto ⟨by omega, by omega⟩]
  exact Int.bmod_eq_of_le (by omega) (by omega)
theorem r_bast (C : zCx w p s m args meth c y b nL ret) {a n : Nat} {i x : Int} (ht : σ.1[a]? = some (51, n)) (hi : 0 ≤ i ∧ i < n ∧ i ≤ 2147483647) (hx : -128 ≤ x ∧ x ≤ 127) (hd : decode b pc = .ok (.bastore, 1)) (kk : zK w p e d mc ms s m args below meth c nL T0 Post (pc + 1) lv st (σ.1, zup σ.2.1 a i x, σ.2.2)) : zK w p e d mc ms s m args below meth c nL T0 Post pc lv (zi x :: zi i :: .ref (w.2.1 + a) :: st) σ := fun ls H locs q n2 h1 h2 hl hW hS => by
  obtain ⟨g1, g2⟩ := zin hi
  have hP := hW.get ht (fun q => by cases q)
  rw [zE_in (by decide) (by decide)] at hP
  refine W.bast C.1 C.2.1 (hP 0 _ rfl) ((C.2.2.2.2.2.2.2.2.1.2 1 _ rfl).1 n (fun j => .int (Int32.ofInt (σ.2.1 a j)))) (fun q => by cases q) (by show ¬ (Int32.ofInt i < 0 ∨ (arrV _ _ _).slots.size ≤ _); rw [arrV_size]; exact g1) rfl rfl hd fun H1 e1 z1 o1 => ?_
  refine kk ls H1 _ q n2 h1 h2 hl (hW.put ht rfl (fun c hc => zup_a hc) (fun _ _ => rfl) (fun _ _ => rfl) ?_ z1 o1) (hS.put z1 o1 (Nat.le_add_right _ _))
  rw [zE_in (by decide) (by decide)]
  exact e1.trans (congrArg some (zarr (znb hx) g2))
theorem r_zast (C : zCx w p s m args meth c y b nL ret) {a n : Nat} {i x : Int} (ht : σ.1[a]? = some (52, n)) (hi : 0 ≤ i ∧ i < n ∧ i ≤ 2147483647) (hx : x = 0 ∨ x = 1) (hd : decode b pc = .ok (.bastore, 1)) (kk : zK w p e d mc ms s m args below meth c nL T0 Post (pc + 1) lv st (σ.1, zup σ.2.1 a i x, σ.2.2)) : zK w p e d mc ms s m args below meth c nL T0 Post pc lv (zi x :: zi i :: .ref (w.2.1 + a) :: st) σ := fun ls H locs q n2 h1 h2 hl hW hS => by
  obtain ⟨g1, g2⟩ := zin hi
  have hP := hW.get ht (fun q => by cases q)
  rw [zE_in (by decide) (by decide)] at hP
  refine W.zast C.1 C.2.1 (hP 0 _ rfl) ((C.2.2.2.2.2.2.2.2.1.2 2 _ rfl).1 n (fun j => .int (Int32.ofInt (σ.2.1 a j)))) (fun q => by cases q) (by show ¬ (Int32.ofInt i < 0 ∨ (arrV _ _ _).slots.size ≤ _); rw [arrV_size]; exact g1) rfl rfl hd fun H1 e1 z1 o1 => ?_
  refine kk ls H1 _ q n2 h1 h2 hl (hW.put ht rfl (fun c hc => zup_a hc) (fun _ _ => rfl) (fun _ _ => rfl) ?_ z1 o1) (hS.put z1 o1 (Nat.le_add_right _ _))
  rw [zE_in (by decide) (by decide)]
  exact e1.trans (congrArg some (zarr (by rcases hx with rfl | rfl <;> rfl) g2))
theorem r_lald (C : zCx w p s m args meth c y b nL ret) {a n : Nat} {i : Int} (ht : σ.1[a]? = some (53, n)) (hi : 0 ≤ i ∧ i < n ∧ i ≤ 2147483647) (hd : decode b pc = .ok (.laload, 1)) (kk : zK w p e d mc ms s m args below meth c nL T0 Post (pc + 1) lv (.long (σ.2.2.1 a i) :: st) σ) : zK w p e d mc ms s m args below meth c nL T0 Post pc lv (zi i :: .ref (w.2.1 + a) :: st) σ := fun ls H locs q n2 h1 h2 hl hW hS => by
  obtain ⟨g1, g2⟩ := zin hi
  have hP := hW.get ht (fun q => by cases q)
  rw [zE_lo] at hP
  refine va_lald C.1 C.2.1 C.2.2.2.2.2.2.2.2.1 hP 0 3 rfl rfl g1 hd ?_
  show W _ _ _ _ _ _ _ _ _ _ _ _ _ _ _ (F0 m (pc + 1) ls (Value.long (σ.2.2.1 a ((Int32.ofInt i).toNatClampNeg : Nat)) :: st))
  rw [g2]
  exact kk ls H locs q n2 h1 h2 hl hW hS
theorem r_last (C : zCx w p s m args meth c y b nL ret) {a n : Nat} {i : Int} {x : Int64} (ht : σ.1[a]? = some (53, n)) (hi : 0 ≤ i ∧ i < n ∧ i ≤ 2147483647) (hd : decode b pc = .ok (.lastore, 1)) (kk : zK w p e d mc ms s m args below meth c nL T0 Post (pc + 1) lv st (σ.1, σ.2.1, zup σ.2.2.1 a i x, σ.2.2.2)) : zK w p e d mc ms s m args below meth c nL T0 Post pc lv (.long x :: zi i :: .ref (w.2.1 + a) :: st) σ := fun ls H locs q n2 h1 h2 hl hW hS => by
  obtain ⟨g1, g2⟩ := zin hi
  have hP := hW.get ht (fun q => by cases q)
  rw [zE_lo] at hP
  refine W.last C.1 C.2.1 (hP 0 _ rfl) ((C.2.2.2.2.2.2.2.2.1.2 3 _ rfl).1 n (fun j => .long (σ.2.2.1 a j))) (fun q => by cases q) (by show ¬ (Int32.ofInt i < 0 ∨ (arrV _ _ _).slots.size ≤ _); rw [arrV_size]; exact g1) rfl rfl hd fun H1 e1 z1 o1 => ?_
  refine kk ls H1 _ q n2 h1 h2 hl (hW.put ht rfl (fun _ _ => rfl) (fun c hc => zup_a hc) (fun _ _ => rfl) ?_ z1 o1) (hS.put z1 o1 (Nat.le_add_right _ _))
  rw [zE_lo]
  refine e1.trans (congrArg some ?_)
  rw [vp_cell_l, vp_cell_l, arrV_store]
  congr 1
  funext j
  show updV _ _ _ j = Value.long (zup σ.2.2.1 a i x a j)
  unfold updV zup
  by_cases hj : j = (Int32.ofInt i).toNatClampNeg
  · rw [if_pos hj, if_pos ⟨rfl, by omega⟩]
  · rw [if_neg hj, if_neg (fun q => hj (by omega))]
theorem r_aald (C : zCx w p s m args meth c y b nL ret) {a n k r : Nat} {i : Int} (hk : 54 ≤ k) (hk2 : k < 57) (ht : σ.1[a]? = some (k, n)) (hi : 0 ≤ i ∧ i < n ∧ i ≤ 2147483647) (hr : σ.2.2.2 a i = some r) (hd : decode b pc = .ok (.aaload, 1)) (kk : zK w p e d mc ms s m args below meth c nL T0 Post (pc + 1) lv (.ref (w.2.1 + r) :: st) σ) : zK w p e d mc ms s m args below meth c nL T0 Post pc lv (zi i :: .ref (w.2.1 + a) :: st) σ := fun ls H locs q n2 h1 h2 hl hW hS => by
  obtain ⟨g1, g2⟩ := zin hi
  have hP := hW.get ht (by show ¬ k = 99; omega)
  rw [zE_rf hk] at hP
  have hty : ∃ Cn : String, (ztys w.2.2.2.1)[k - 50]? = some (w.2.2.2.1 (k - 50), .object Cn) := by
    rcases (show k = 54 ∨ k = 55 ∨ k = 56 by omega) with rfl | rfl | rfl
    · exact ⟨_, rfl⟩
    · exact ⟨_, rfl⟩
    · exact ⟨_, rfl⟩
  obtain ⟨Cn, hty⟩ := hty
  refine va_aldq C.1 C.2.1 C.2.2.2.2.2.2.2.2.1 hP 0 (k - 50) rfl hty g1 hd ?_
  show W _ _ _ _ _ _ _ _ _ _ _ _ _ _ _ (F0 m (pc + 1) ls (va_rf (zof w.2.1 (σ.2.2.2 a ((Int32.ofInt i).toNatClampNeg : Nat))) :: st))
  rw [g2, hr]
  exact kk ls H locs q n2 h1 h2 hl hW hS
theorem r_alen (C : zCx w p s m args meth c y b nL ret) {a n k : Nat} (hk : 50 ≤ k) (hk2 : k < 57) (ht : σ.1[a]? = some (k, n)) (hd : decode b pc = .ok (.arraylength, 1)) (kk : zK w p e d mc ms s m args below meth c nL T0 Post (pc + 1) lv (zi n :: st) σ) : zK w p e d mc ms s m args below meth c nL T0 Post pc lv (.ref (w.2.1 + a) :: st) σ := fun ls H locs q n2 h1 h2 hl hW hS => by
  have hP := hW.get ht (by show ¬ k = 99; omega)
  have hE : ∃ x : vp_A, zE w.2.2.2.1 w.2.1 σ a (k, n) = .inl (w.2.2.2.1 (k - 50), x) ∧ x.1 = n := by
    rcases (show k < 53 ∨ k = 53 ∨ 54 ≤ k by omega) with g | rfl | g
    · exact ⟨_, zE_in hk g, rfl⟩
    · exact ⟨_, zE_lo, rfl⟩
    · exact ⟨_, zE_rf g, rfl⟩
  obtain ⟨x, hx, hn⟩ := hE
  rw [hx] at hP
  have hty : ∃ ty : FieldType, (ztys w.2.2.2.1)[k - 50]? = some (w.2.2.2.1 (k - 50), ty) := by
    rcases (show k = 50 ∨ k = 51 ∨ k = 52 ∨ k = 53 ∨ k = 54 ∨ k = 55 ∨ k = 56 by omega) with rfl | rfl | rfl | rfl | rfl | rfl | rfl
    all_goals exact ⟨_, rfl⟩
  obtain ⟨ty, hty⟩ := hty
  refine va_alen C.1 C.2.1 C.2.2.2.2.2.2.2.2.1 hP 0 (k - 50) rfl hty (v := Int32.ofInt n) ?_ hd (kk ls H locs q n2 h1 h2 hl hW hS)
  rw [hn]
  exact Int32.ofInt_eq_ofNat.symm
/-! calls -/
theorem zPc.blind {av : List Value} : FrameBlind (zPc w av σ) := by
  intro a U g mk h
  obtain ⟨h1, h2, h3, h4⟩ := h
  exact ⟨h1, h2, va_K.moved (u := U) (U := U.calling g mk a) (Vm.Alike.refl U.vm) h3, zS.moved (u := U) (U := U.calling g mk a) (State.WarmedH.refl U) h4⟩
/-- what a caller knows at a call -/
theorem zPc.at (C : zCx w p s m args meth c y b nL ret) {av : List Value} {H : Heap} {locs : List Loc} (hW : zW w σ H) (hS : va_S (zA w) s.heap H locs) : PreS s H (zPc w av σ) av := by
  refine ⟨zPc.blind, fun U hU hw => ⟨rfl, by rw [hU]; exact hW, va_K.moved hw.alike C.2.2.2.2.2.2.2.2.1, ?_⟩⟩
  rw [hU]
  refine zS.kept (zS.moved hw C.2.2.2.2.2.2.2.2.2.1) (fun a h h2 => hS.2.1 a h h2)
/-- the words of a call -/
def zCw (own : String) (ix : Nat) (y : MethodName) (b : ByteArray) (nL : Nat) (ret : Option FieldType) (n : Nat) : Prop := (Cond.methodLink own ix y) ∈ lw_g ∧ (Cond.code y b nL ret) ∈ lw_g ∧ (Cond.initialized y.cls) ∈ lw_g ∧ (y.cls ≠ "java/lang/invoke/MethodHandle" ∧ y.cls ≠ "java/lang/invoke/VarHandle" ∧ (parseMethodDescriptor y.desc).map (fun d => d.parameters.length) = some n) ∧ nL ≤ 40
theorem zgoodIn {y : MethodName} {b : ByteArray} {nL : Nat} {ret : Option FieldType} (hc : (Cond.code y b nL ret) ∈ lw_g) : GoodIn lw_g (zws y b nL ret) := by
  intro v hv
  rcases List.mem_cons.mp hv with rfl | hv
  · exact ⟨hc, good_of_word (List.mem_filter.mp hc).2⟩
  · exact ⟨hv, good_of_word (List.mem_filter.mp hv).2⟩
end HEAPROWS

section TUPLES
variable {w : zWp} {p : Program} {e : Env} {d mc ms : Nat} {s : State} {m : MethodId} {args : Array Value} {below : List Frame} {meth : Method} {c : Code} {y : MethodName} {b : ByteArray} {nL : Nat} {ret : Option FieldType} {T0 : List (Nat × Nat)} {Post : Option Value → zSg → Prop} {pc : Nat} {lv st : List Value} {T : List (Nat × Nat)} {M : Nat → Int → Int} {J : Nat → Int → Int64} {R : Nat → Int → Option Nat}
theorem t_iret (C : zCx w p s m args meth c y b nL (some .int)) {x : Int} (hd : decode b pc = .ok (.ireturn, 1)) (hT : T.length = T0.length + mc ∧ zsz T = zsz T0 + ms) (hp : Post (some (zi x)) (T, M, J, R)) : zK w p e d mc ms s m args below meth c nL T0 Post pc lv [zi x] (T, M, J, R) := r_iret C hd hT hp
theorem t_zret (C : zCx w p s m args meth c y b nL (some .boolean)) {x : Int} (hx : x = 0 ∨ x = 1) (hd : decode b pc = .ok (.ireturn, 1)) (hT : T.length = T0.length + mc ∧ zsz T = zsz T0 + ms) (hp : Post (some (zi x)) (T, M, J, R)) : zK w p e d mc ms s m args below meth c nL T0 Post pc lv [zi x] (T, M, J, R) := r_zret C hx hd hT hp
theorem t_lret (C : zCx w p s m args meth c y b nL (some .long)) {x : Int64} (hd : decode b pc = .ok (.lreturn, 1)) (hT : T.length = T0.length + mc ∧ zsz T = zsz T0 + ms) (hp : Post (some (.long x)) (T, M, J, R)) : zK w p e d mc ms s m args below meth c nL T0 Post pc lv [.long x] (T, M, J, R) := r_lret C hd hT hp
theorem t_vret (C : zCx w p s m args meth c y b nL none) (hd : decode b pc = .ok (.return_, 1)) (hT : T.length = T0.length + mc ∧ zsz T = zsz T0 + ms) (hp : Post (none) (T, M, J, R)) : zK w p e d mc ms s m args below meth c nL T0 Post pc lv [] (T, M, J, R) := r_vret C hd hT hp
theorem t_aret {rt : FieldType} (C : zCx w p s m args meth c y b nL (some rt)) (hrt : (∃ n, rt = .object n) ∨ ∃ t, rt = .array t) {x : Nat} (hd : decode b pc = .ok (.areturn, 1)) (hT : T.length = T0.length + mc ∧ zsz T = zsz T0 + ms) (hp : Post (some (.ref x)) (T, M, J, R)) : zK w p e d mc ms s m args below meth c nL T0 Post pc lv [.ref x] (T, M, J, R) := r_aret C hrt hd hT hp
theorem t_tableIn (C : zCx w p s m args meth c y b nL ret) {dflt lo hi off x : Int} {offs : Array Int} {len tgt : Nat} (hx : zr x) (hd : decode b pc = .ok (.tableswitch dflt lo hi offs, len)) (g1 : ¬ x < lo) (g2 : ¬ hi < x) (ho : offs[(x - lo).toNat]? = some off) (ht : (pc : Int) + off = (tgt : Int)) (kk : zK w p e d mc ms s m args below meth c nL T0 Post tgt lv st (T, M, J, R)) : zK w p e d mc ms s m args below meth c nL T0 Post pc lv (zi x :: st) (T, M, J, R) := r_tableIn C hx hd g1 g2 ho ht kk
theorem t_tableOut (C : zCx w p s m args meth c y b nL ret) {dflt lo hi x : Int} {offs : Array Int} {len tgt : Nat} (hx : zr x) (hd : decode b pc = .ok (.tableswitch dflt lo hi offs, len)) (g1 : x < lo ∨ hi < x) (ht : (pc : Int) + dflt = (tgt : Int)) (kk : zK w p e d mc ms s m args below meth c nL T0 Post tgt lv st (T, M, J, R)) : zK w p e d mc ms s m args below meth c nL T0 Post pc lv (zi x :: st) (T, M, J, R) := r_tableOut C hx hd g1 ht kk
theorem t_lookup (C : zCx w p s m args meth c y b nL ret) {dflt off x : Int} {ps : Array (Int × Int)} {len tgt : Nat} (hx : zr x) (hd : decode b pc = .ok (.lookupswitch dflt ps, len)) (hp : (ps.toList.zip (ps.toList.drop 1)).all (fun (a, next) => a.1 < next.1) = true) (ho : Op.lookupswitch.offset ps.toList dflt x = off) (ht : (pc : Int) + off = (tgt : Int)) (kk : zK w p e d mc ms s m args below meth c nL T0 Post tgt lv st (T, M, J, R)) : zK w p e d mc ms s m args below meth c nL T0 Post pc lv (zi x :: st) (T, M, J, R) := r_lookup C hx hd hp ho ht kk
theorem t_getI (C : zCx w p s m args meth c y b nL ret) {ix ci N k a : Nat} (hf : zFd y.cls ix ci N k 0) (ht : T[a]? = some (ci, N)) (hd : decode b pc = .ok (.getfield ix, 3)) (kk : zK w p e d mc ms s m args below meth c nL T0 Post (pc + 3) lv (zi (M a k) :: st) (T, M, J, R)) : zK w p e d mc ms s m args below meth c nL T0 Post pc lv (.ref (w.2.1 + a) :: st) (T, M, J, R) := r_getI C hf ht hd kk
theorem t_getL (C : zCx w p s m args meth c y b nL ret) {ix ci N k a : Nat} (hf : zFd y.cls ix ci N k 1) (ht : T[a]? = some (ci, N)) (hd : decode b pc = .ok (.getfield ix, 3)) (kk : zK w p e d mc ms s m args below meth c nL T0 Post (pc + 3) lv (.long (J a k) :: st) (T, M, J, R)) : zK w p e d mc ms s m args below meth c nL T0 Post pc lv (.ref (w.2.1 + a) :: st) (T, M, J, R) := r_getL C hf ht hd kk
theorem t_getR (C : zCx w p s m args meth c y b nL ret) {ix ci N k a r : Nat} (hf : zFd y.cls ix ci N k 2) (ht : T[a]? = some (ci, N)) (hr : R a k = some r) (hd : decode b pc = .ok (.getfield ix, 3)) (kk : zK w p e d mc ms s m args below meth c nL T0 Post (pc + 3) lv (.ref (w.2.1 + r) :: st) (T, M, J, R)) : zK w p e d mc ms s m args below meth c nL T0 Post pc lv (.ref (w.2.1 + a) :: st) (T, M, J, R) := r_getR C hf ht hr hd kk
theorem t_putI (C : zCx w p s m args meth c y b nL ret) {ix ci N k a : Nat} {x : Int} (hf : zFd y.cls ix ci N k 0) (hfin : zfin ci k = false) (hty : zty ci k = .int) (ht : T[a]? = some (ci, N)) (hd : decode b pc = .ok (.putfield ix, 3)) (kk : zK w p e d mc ms s m args below meth c nL T0 Post (pc + 3) lv st (T, zup M a k x, J, R)) : zK w p e d mc ms s m args below meth c nL T0 Post pc lv (zi x :: .ref (w.2.1 + a) :: st) (T, M, J, R) := r_putI C hf hfin hty ht hd kk
theorem t_putZ (C : zCx w p s m args meth c y b nL ret) {ix ci N k a : Nat} {x : Int} (hf : zFd y.cls ix ci N k 0) (hfin : zfin ci k = false) (hty : zty ci k = .boolean) (hx : x = 0 ∨ x = 1) (ht : T[a]? = some (ci, N)) (hd : decode b pc = .ok (.putfield ix, 3)) (kk : zK w p e d mc ms s m args below meth c nL T0 Post (pc + 3) lv st (T, zup M a k x, J, R)) : zK w p e d mc ms s m args below meth c nL T0 Post pc lv (zi x :: .ref (w.2.1 + a) :: st) (T, M, J, R) := r_putZ C hf hfin hty hx ht hd kk
theorem t_iald (C : zCx w p s m args meth c y b nL ret) {a n : Nat} {i : Int} (ht : T[a]? = some (50, n)) (hi : 0 ≤ i ∧ i < n ∧ i ≤ 2147483647) (hd : decode b pc = .ok (.iaload, 1)) (kk : zK w p e d mc ms s m args below meth c nL T0 Post (pc + 1) lv (zi (M a i) :: st) (T, M, J, R)) : zK w p e d mc ms s m args below meth c nL T0 Post pc lv (zi i :: .ref (w.2.1 + a) :: st) (T, M, J, R) := r_iald C ht hi hd kk
theorem t_bald (C : zCx w p s m args meth c y b nL ret) {a n : Nat} {i : Int} (ht : T[a]? = some (51, n)) (hi : 0 ≤ i ∧ i < n ∧ i ≤ 2147483647) (hd : decode b pc = .ok (.baload, 1)) (kk : zK w p e d mc ms s m args below meth c nL T0 Post (pc + 1) lv (zi (M a i) :: st) (T, M, J, R)) : zK w p e d mc ms s m args below meth c nL T0 Post pc lv (zi i :: .ref (w.2.1 + a) :: st) (T, M, J, R) := r_bald C ht hi hd kk
theorem t_zald (C : zCx w p s m args meth c y b nL ret) {a n : Nat} {i : Int} (ht : T[a]? = some (52, n)) (hi : 0 ≤ i ∧ i < n ∧ i ≤ 2147483647) (hd : decode b pc = .ok (.baload, 1)) (kk : zK w p e d mc ms s m args below meth c nL T0 Post (pc + 1) lv (zi (M a i) :: st) (T, M, J, R)) : zK w p e d mc ms s m args below meth c nL T0 Post pc lv (zi i :: .ref (w.2.1 + a) :: st) (T, M, J, R) := r_zald C ht hi hd kk
theorem t_iast (C : zCx w p s m args meth c y b nL ret) {a n : Nat} {i x : Int} (ht : T[a]? = some (50, n)) (hi : 0 ≤ i ∧ i < n ∧ i ≤ 2147483647) (hd : decode b pc = .ok (.iastore, 1)) (kk : zK w p e d mc ms s m args below meth c nL T0 Post (pc + 1) lv st (T, zup M a i x, J, R)) : zK w p e d mc ms s m args below meth c nL T0 Post pc lv (zi x :: zi i :: .ref (w.2.1 + a) :: st) (T, M, J, R) := r_iast C ht hi hd kk
theorem t_bast (C : zCx w p s m args meth c y b nL ret) {a n : Nat} {i x : Int} (ht : T[a]? = some (51, n)) (hi : 0 ≤ i ∧ i < n ∧ i ≤ 2147483647) (hx : -128 ≤ x ∧ x ≤ 127) (hd : decode b pc = .ok (.bastore, 1)) (kk : zK w p e d mc ms s m args below meth c nL T0 Post (pc + 1) lv st (T, zup M a i x, J, R)) : zK w p e d mc ms s m args below meth c nL T0 Post pc lv (zi x :: zi i :: .ref (w.2.1 + a) :: st) (T, M, J, R) := r_bast C ht hi hx hd kk
theorem t_zast (C : zCx w p s m args meth c y b nL ret) {a n : Nat} {i x : Int} (ht : T[a]? = some (52, n)) (hi : 0 ≤ i ∧ i < n ∧ i ≤ 2147483647) (hx : x = 0 ∨ x = 1) (hd : decode b pc = .ok (.bastore, 1)) (kk : zK w p e d mc ms s m args below meth c nL T0 Post (pc + 1) lv st (T, zup M a i x, J, R)) : zK w p e d mc ms s m args below meth c nL T0 Post pc lv (zi x :: zi i :: .ref (w.2.1 + a) :: st) (T, M, J, R) := r_zast C ht hi hx hd kk
theorem t_lald (C : zCx w p s m args meth c y b nL ret) {a n : Nat} {i : Int} (ht : T[a]? = some (53, n)) (hi : 0 ≤ i ∧ i < n ∧ i ≤ 2147483647) (hd : decode b pc = .ok (.laload, 1)) (kk : zK w p e d mc ms s m args below meth c nL T0 Post (pc + 1) lv (.long (J a i) :: st) (T, M, J, R)) : zK w p e d mc ms s m args below meth c nL T0 Post pc lv (zi i :: .ref (w.2.1 + a) :: st) (T, M, J, R) := r_lald C ht hi hd kk
theorem t_last (C : zCx w p s m args meth c y b nL ret) {a n : Nat} {i : Int} {x : Int64} (ht : T[a]? = some (53, n)) (hi : 0 ≤ i ∧ i < n ∧ i ≤ 2147483647) (hd : decode b pc = .ok (.lastore, 1)) (kk : zK w p e d mc ms s m args below meth c nL T0 Post (pc + 1) lv st (T, M, zup J a i x, R)) : zK w p e d mc ms s m args below meth c nL T0 Post pc lv (.long x :: zi i :: .ref (w.2.1 + a) :: st) (T, M, J, R) := r_last C ht hi hd kk
theorem t_aald (C : zCx w p s m args meth c y b nL ret) {a n k r : Nat} {i : Int} (hk : 54 ≤ k) (hk2 : k < 57) (ht : T[a]? = some (k, n)) (hi : 0 ≤ i ∧ i < n ∧ i ≤ 2147483647) (hr : R a i = some r) (hd : decode b pc = .ok (.aaload, 1)) (kk : zK w p e d mc ms s m args below meth c nL T0 Post (pc + 1) lv (.ref (w.2.1 + r) :: st) (T, M, J, R)) : zK w p e d mc ms s m args below meth c nL T0 Post pc lv (zi i :: .ref (w.2.1 + a) :: st) (T, M, J, R) := r_aald C hk hk2 ht hi hr hd kk
theorem t_alen (C : zCx w p s m args meth c y b nL ret) {a n k : Nat} (hk : 50 ≤ k) (hk2 : k < 57) (ht : T[a]? = some (k, n)) (hd : decode b pc = .ok (.arraylength, 1)) (kk : zK w p e d mc ms s m args below meth c nL T0 Post (pc + 1) lv (zi n :: st) (T, M, J, R)) : zK w p e d mc ms s m args below meth c nL T0 Post pc lv (.ref (w.2.1 + a) :: st) (T, M, J, R) := r_alen C hk hk2 ht hd kk
end TUPLES
