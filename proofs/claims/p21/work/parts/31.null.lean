section NULLS
variable {w : zWp} {p : Program} {e : Env} {d mc ms : Nat} {s : State} {m : MethodId} {args : Array Value} {below : List Frame} {meth : Method} {c : Code} {y : MethodName} {b : ByteArray} {nL : Nat} {ret : Option FieldType} {T0 T : zTl} {M : zMm} {J : zJm} {R : zRm'} {Post : Option Value → zSg → Prop} {pc n : Nat} {lv st : List Value} {σ : zSg}
theorem q_getN (C : zCx w p s m args meth c y b nL ret) {ix ci N k a : Nat} (hd : decode b pc = .ok (.getfield ix, 3)) (hn : pc + 3 = n) (hf : zFd y.cls ix ci N k 2) (ht : T[a]? = some (ci, N)) (hr : R a k = none) (kk : zK w p e d mc ms s m args below meth c nL T0 Post n lv (.null :: st) (T, M, J, R)) : zK w p e d mc ms s m args below meth c nL T0 Post pc lv (.ref (w.2.1 + a) :: st) (T, M, J, R) := by
  refine r_getV C hf ht hd ?_
  obtain ⟨Cn, Tn, f1, f2, f3, f4, f5⟩ := hf
  have hv : zfv w.2.1 (T, M, J, R) a (zty ci k) k = .null := by
    unfold zfv
    rw [if_neg (by rw [f4]; decide), if_neg (by rw [f4]; decide)]
    show va_rf (zof w.2.1 (R a k)) = .null
    rw [hr]
    rfl
  rw [hv, hn]
  exact kk
theorem q_ifnullN (C : zCx w p s m args meth c y b nL ret) {off : Int} (tgt : Nat) (hd : decode b pc = .ok (.ifnull off, 3)) (ht : (pc : Int) + off = (tgt : Int)) (kk : zK w p e d mc ms s m args below meth c nL T0 Post tgt lv st σ) : zK w p e d mc ms s m args below meth c nL T0 Post pc lv (.null :: st) σ := fun ls H locs k n h1 h2 hl hW hS => lv_ifnullN C.1 C.2.1 hd ht (kk ls H locs k n h1 h2 hl hW hS)
theorem q_ifnonnullN (C : zCx w p s m args meth c y b nL ret) {off : Int} (hd : decode b pc = .ok (.ifnonnull off, 3)) (hn : pc + 3 = n) (kk : zK w p e d mc ms s m args below meth c nL T0 Post n lv st σ) : zK w p e d mc ms s m args below meth c nL T0 Post pc lv (.null :: st) σ := fun ls H locs k n h1 h2 hl hW hS => lv_ifnonnullN C.1 C.2.1 hd (by rw [hn]; exact kk ls H locs k n h1 h2 hl hW hS)
end NULLS
