/-! writes to the typed heap, in the form that a program lays -/
theorem MM.go {l : Launch} {y : MethodName} {cc : ByteArray} {nL : Nat} {ret : Option FieldType} {d : Nat} {D : va_G} {K : Nat → ClassId} {A : Nat → Nat} {I : TI} {U : TU} {P : TP} {av : List Value} {post : TQ} {lv0 : List (Option Value)} {own : String} (ho : y.cls = own) (hy : plainName y.cls = true) (hc : av.all (fun v => v.category == 1) = true) (hn : (lg_sl av).length ≤ nL) (hlv : av.map some ++ List.replicate (nL - av.length) none = lv0)
    (body : ∀ (p : Program) (e : Env) (s : State) (m : MethodId) (args : Array Value) (below : List Frame) (meth : Method) (c : Code), CX p s m args meth c own cc nL ret D K (AX 75 A s.heap.size) →
      GJ p l e (rmd d) s m args below meth c nL D (AX 75 A s.heap.size) (MQX below D K A args s post) 75 A (gg A K I U P) 0 0 0 lv0 []) : MM l y cc nL ret d D K A I U P av post :=
  MM.mk ho hy (fun v hv => by have h := List.all_eq_true.mp hc v hv; simpa using h) hn hlv (fun p e s m args below meth c C _ => body p e s m args below meth c C)
theorem up2_row {α : Type} {I : Nat → Nat → α} {i j : Nat} {v : α} : up2 I i j v i = fun b => if b = j then v else I i b := by
  funext b
  simp [up2]
theorem up2_same {α : Type} {I : Nat → Nat → α} {i j : Nat} {v : α} : up2 I i j v i j = v := by simp [up2]
theorem up2_ne {α : Type} {I : Nat → Nat → α} {i j a b : Nat} {v : α} (h : ¬ (a = i ∧ b = j)) : up2 I i j v a b = I a b := by simp only [up2, if_neg h]
theorem upd_row {f : Nat → Int32} {j : Nat} {v : Int32} : upd f j v = fun b => if b = j then v else f b := by
  funext b
  simp [upd]
section MEM
variable {p : Program} {l : Launch} {e : Env} {R : Room} {s : State} {m : MethodId} {args : Array Value} {below : List Frame} {meth : Method} {c : Code} {nL : Nat} {D : va_G} {Ax : Nat → Prop} {Q : State → Prop} {cs sl pc : Nat} {lv : List (Option Value)} {st : List Value} {own : String} {cc : ByteArray} {ret : Option FieldType} {K : Nat → ClassId} {A : Nat → Nat} {I : TI} {U : TU} {P : TP}
theorem jx_putI {i idx ci k : Nat} {fs : List Value} {v : Int32} (C : CX p s m args meth c own cc nL ret D K Ax) (F : FP0 own idx ci k .int) (hd : decode cc pc = .ok (.putfield idx, 3)) (hi : i < 75) (hg : gg A K I U P i = .inr (ci, fs)) (hl0 : k < fs.length) (hset : (.inr (ci, fs.set k (.int v)) : va_E) = gg A K (up2 I i k v) U P i) (kk : GJ p l e R s m args below meth c nL D Ax Q 75 A (gg A K (up2 I i k v) U P) cs sl (pc + 3) lv st) : GJ p l e R s m args below meth c nL D Ax Q 75 A (gg A K I U P) cs sl pc lv (.int v :: .ref (A i) :: st) :=
  jx_put C F hd hi hg rfl rfl hl0 (wl_upI hset) kk
theorem jx_putZ {i idx ci k : Nat} {fs : List Value} {v : Int32} (C : CX p s m args meth c own cc nL ret D K Ax) (F : FP0 own idx ci k .boolean) (hd : decode cc pc = .ok (.putfield idx, 3)) (hz : narrow .boolean (.int v) = .int v) (hf : fits .boolean (.int v) = true) (hi : i < 75) (hg : gg A K I U P i = .inr (ci, fs)) (hl0 : k < fs.length) (hset : (.inr (ci, fs.set k (.int v)) : va_E) = gg A K (up2 I i k v) U P i) (kk : GJ p l e R s m args below meth c nL D Ax Q 75 A (gg A K (up2 I i k v) U P) cs sl (pc + 3) lv st) : GJ p l e R s m args below meth c nL D Ax Q 75 A (gg A K I U P) cs sl pc lv (.int v :: .ref (A i) :: st) :=
  jx_put C F hd hi hg hz hf hl0 (wl_upI hset) kk
theorem jx_iastI {i n : Nat} {x v : Int32} (j : Nat) (C : CX p s m args meth c own cc nL ret D K Ax) (hd : decode cc pc = .ok (.iastore, 1)) (hi : i < 75) (hg : ∀ I : TI, gg A K I U P i = .inl (K 0, n, ri (I i))) (hx : x = nI j) (hj : j < n) (hn : n ≤ 1000000) (kk : GJ p l e R s m args below meth c nL D Ax Q 75 A (gg A K (up2 I i j v) U P) cs sl (pc + 1) lv st) : GJ p l e R s m args below meth c nL D Ax Q 75 A (gg A K I U P) cs sl pc lv (.int v :: .int x :: .ref (A i) :: st) :=
  jx_iast j C hd hi (hg I) hx hj hn (wl_upI (k := j) (v := v) (by rw [hg, up2_row, upd_row])) kk
theorem jx_zastI {i n : Nat} {x v : Int32} (j : Nat) (C : CX p s m args meth c own cc nL ret D K Ax) (hd : decode cc pc = .ok (.bastore, 1)) (hi : i < 75) (hg : ∀ I : TI, gg A K I U P i = .inl (K 1, n, ri (I i))) (hx : x = nI j) (hj : j < n) (hn : n ≤ 1000000) (hz : vp_nar .boolean v = v) (kk : GJ p l e R s m args below meth c nL D Ax Q 75 A (gg A K (up2 I i j v) U P) cs sl (pc + 1) lv st) : GJ p l e R s m args below meth c nL D Ax Q 75 A (gg A K I U P) cs sl pc lv (.int v :: .int x :: .ref (A i) :: st) :=
  jx_zast j C hd hi (hg I) hx hj hn hz (wl_upI (k := j) (v := v) (by rw [hg, up2_row, upd_row])) kk
theorem jx_fastU {i n : Nat} {x : Int32} {v : UInt32} (j : Nat) (C : CX p s m args meth c own cc nL ret D K Ax) (hd : decode cc pc = .ok (.fastore, 1)) (hi : i < 75) (hg : ∀ U : TU, gg A K I U P i = .inl (K 2, n, rf (U i))) (hx : x = nI j) (hj : j < n) (hn : n ≤ 1000000) (kk : GJ p l e R s m args below meth c nL D Ax Q 75 A (gg A K I (up2 U i j v) P) cs sl (pc + 1) lv st) : GJ p l e R s m args below meth c nL D Ax Q 75 A (gg A K I U P) cs sl pc lv (.float v :: .int x :: .ref (A i) :: st) :=
  jx_fast j C hd hi (hg U) hx hj hn (wl_upU (k := j) (v := v) (by rw [hg, up2_row]; congr 3)) kk
theorem jx_lnN {x : Int32} (j : Nat) (C : CX p s m args meth c own cc nL ret D K Ax) (hd : decode cc pc = .ok (.aastore, 1)) (hx : x = nI j) (hj : j < 20) (kk : GJ p l e R s m args below meth c nL D Ax Q 75 A (gg A K I U (va_up P j none)) cs sl (pc + 1) lv st) : GJ p l e R s m args below meth c nL D Ax Q 75 A (gg A K I U P) cs sl pc lv (.null :: .int x :: .ref (A 3) :: st) :=
  jx_aastN j C hd (by decide) gg_3 hx hj (by decide) (wl_upP (j := j) (r := none) (by rw [gg_3]; congr 4; funext b; by_cases hb : b = j <;> simp [va_up, hb])) kk
theorem jx_ln {x : Int32} {k : Nat} (j : Nat) (C : CX p s m args meth c own cc nL ret D K Ax) (hd : decode cc pc = .ok (.aastore, 1)) (hk : k < 20) (hx : x = nI j) (hj : j < 20) (kk : GJ p l e R s m args below meth c nL D Ax Q 75 A (gg A K I U (va_up P j (some k))) cs sl (pc + 1) lv st) : GJ p l e R s m args below meth c nL D Ax Q 75 A (gg A K I U P) cs sl pc lv (.ref (A (4 + 2 * k)) :: .int x :: .ref (A 3) :: st) := by
  have hw1 : wl 75 A (va_up (gg A K I U P) 3 (.inl (K 3, 20, rq (va_up (fun j => (P j).map (fun k => A (4 + 2 * k))) j (some (A (4 + 2 * k))))))) = wl 75 A (gg A K I U (va_up P j (some k))) := wl_upP (j := j) (r := some k) (by rw [gg_3]; congr 4; funext b; by_cases hb : b = j <;> simp [va_up, hb])
  by_cases h2 : k % 5 = 2
  · exact jx_aast j C hd (by decide) gg_3 (by omega) (gg_laneT hk h2) rfl (by decide +kernel) hx hj (by decide) hw1 kk
  · by_cases h3 : k % 5 = 3
    · exact jx_aast j C hd (by decide) gg_3 (by omega) (gg_laneL hk h3) rfl (by decide +kernel) hx hj (by decide) hw1 kk
    · exact jx_aast j C hd (by decide) gg_3 (by omega) (gg_laneW hk h2 h3) rfl (by decide +kernel) hx hj (by decide) hw1 kk
end MEM
