/-! cells made: rows and contracts with a world that grows -/
theorem RA_inj {s : State} {cA cB : ClassId} {ty : FieldType} (h1 : va_RA s cA ty) (h2 : va_RA s cB ty) : cA = cB := by
  cases ty with
  | object C =>
    obtain ⟨_, _, _, _, _, a⟩ := h1
    obtain ⟨_, _, _, _, _, b⟩ := h2
    exact Option.some.inj (a.symm.trans b)
  | _ => exact Option.some.inj (Eq.symm (show some cB = some cA from (show _ = some cB from h2).symm.trans (show _ = some cA from h1)))
/-- the words of a 'new' -/
def NWd (own : String) (idx ci n : Nat) (fs : List Value) : Prop := ∃ (Cn : String) (T : u_T), vwCl[ci]? = some (Cn, T, n) ∧ (∀ w ∈ u_ws Cn T n, w ∈ lw_all) ∧ Cond.classLink own idx Cn ∈ lw_all ∧ Cond.instantiable Cn n ∈ lw_all ∧ Cond.initialized Cn ∈ lw_all ∧ ∃ ty : Nat → FieldType, (∀ k, k < n → parseFieldDescriptor (T k).2.2.1 = some (ty k)) ∧ ∀ j, j < n → defaultValue (ty j) = vp_V fs j
/-- a final field, written in its class's constructor -/
def FPF (own : String) (idx ci k : Nat) (ty : FieldType) : Prop := ∃ (Cn : String) (T : u_T) (n : Nat), vwCl[ci]? = some (Cn, T, n) ∧ k < n ∧ (∀ w ∈ u_ws Cn T n, w ∈ lw_all) ∧ Cond.fieldLink own idx (T k).1 (T k).2.1 (T k).2.2.1 ∈ lw_all ∧ (T k).2.2.2 = true ∧ (T k).1 = own ∧ parseFieldDescriptor (T k).2.2.1 = some ty ∧ (∃ ty0 : Nat → FieldType, ∀ k, k < n → parseFieldDescriptor (T k).2.2.1 = some (ty0 k)) ∧ (∀ a, a < n → ∀ b, b < n → a ≠ b → (T a).2.1 ≠ (T b).2.1)
section MAKE
variable {p : Program} {l : Launch} {e : Env} {R : Room} {s : State} {m : MethodId} {args : Array Value} {below : List Frame} {meth : Method} {c : Code} {nL : Nat} {D : va_G} {Ax : Nat → Prop} {Q : State → Prop}
variable {N : Nat} {A : Nat → Nat} {g : Nat → va_E} {cs sl pc : Nat} {lv : List (Option Value)} {st rest : List Value} {own : String} {cc : ByteArray} {ret : Option FieldType} {K : Nat → ClassId}
theorem jx_widen {cs' sl' : Nat} (h1 : cs ≤ cs') (h2 : sl ≤ sl') (kk : GJ p l e R s m args below meth c nL D Ax Q N A g cs' sl' pc lv st) : GJ p l e R s m args below meth c nL D Ax Q N A g cs sl pc lv st := fun H locs ls hP hD hS hl => W.widen h1 h2 (kk H locs ls hP hD hS hl)
theorem jx_new {idx ci n : Nat} {fs : List Value} (C : CX p s m args meth c own cc nL ret D K Ax) (w : NWd own idx ci n fs) (hd : decode cc pc = .ok (.new idx, 3)) (hc : cs + 1 ≤ R.cells) (hs : sl + n ≤ R.slots)
    (kk : ∀ A1 : Nat → Nat, (∀ i, i < N → A1 i = A i) → GJ p l e R s m args below meth c nL D Ax Q (N + 1) A1 (va_up g N (.inr (ci, fs))) (cs + 1) (sl + n) (pc + 3) lv (.ref (A1 N) :: st)) : GJ p l e R s m args below meth c nL D Ax Q N A g cs sl pc lv st := by
  intro H locs ls hP hD hS hl
  obtain ⟨Cn, T, w1, w2, w3, w4, w5, ty, w6, w7⟩ := w
  refine va_new C.1 C.2.1 C.2.2.2.2.1 w2 ty w6 C.2.2.2.1 (C.2.2.2.2.1 _ w3) (C.2.2.2.2.1 _ w4) (C.2.2.2.2.1 _ w5) C.2.2.2.2.2.2.2.1 hP hD hS C.2.2.2.2.2.2.2.2.2 w1 w7 hc hs hd (fun q H1 hP1 hD1 hS1 => ?_)
  have k1 := kk (va_up A N q) (fun i hi => upn (Nat.ne_of_lt hi))
  rw [va_up_at] at k1
  rw [wl_push] at hP1 hD1
  exact k1 H1 locs ls hP1 hD1 hS1 hl
theorem jx_newa {t0 n0 : Nat} {ty : FieldType} {at0 : ArrayType} {a0 : vp_A} {n : Int32} (C : CX p s m args meth c own cc nL ret D K Ax) (hd : decode cc pc = .ok (.newarray at0, 2)) (hty : newarray.typeOf at0 = ty) (hw : Cond.arrayClass ty ∈ lw_all) (ht : (tyl K)[t0]? = some (K t0, ty)) (ha : ∀ cA : ClassId, vp_cell cA a0 = arrV cA n0 (fun _ => defaultValue ty)) (hn : n = nI n0) (h6 : n0 ≤ 1000) (hb : n0 * componentBytes ty ≤ 536870912) (hc : cs + 1 ≤ R.cells) (hs : sl + n0 ≤ R.slots)
    (kk : ∀ A1 : Nat → Nat, (∀ i, i < N → A1 i = A i) → GJ p l e R s m args below meth c nL D Ax Q (N + 1) A1 (va_up g N (.inl (K t0, a0))) (cs + 1) (sl + n0) (pc + 2) lv (.ref (A1 N) :: st)) : GJ p l e R s m args below meth c nL D Ax Q N A g cs sl pc lv (.int n :: st) := by
  intro H locs ls hP hD hS hl
  subst hn
  refine va_newa C.1 C.2.1 (by rw [hty]; exact C.2.2.2.2.1 _ hw) hty C.2.2.2.2.2.2.2.1 hP hD hS C.2.2.2.2.2.2.2.2.2 ha (nI_pos (by omega)) (nI_clamp (by omega)) hb hc hs hd (fun q cA H1 hK1 hP1 hD1 hS1 => ?_)
  have e1 : cA = K t0 := RA_inj (hK1.2 5 (cA, ty) rfl).2 (C.2.2.2.2.2.2.2.1.2 t0 _ ht).2
  subst e1
  have k1 := kk (va_up A N q) (fun i hi => upn (Nat.ne_of_lt hi))
  rw [va_up_at] at k1
  rw [wl_push] at hP1 hD1
  exact k1 H1 locs ls hP1 hD1 hS1 hl
theorem jx_newq {t0 n0 idx : Nat} {Cn : String} {n : Int32} (C : CX p s m args meth c own cc nL ret D K Ax) (hd : decode cc pc = .ok (.anewarray idx, 3)) (hl1 : Cond.classLink own idx Cn ∈ lw_all) (hw : Cond.arrayOver (.object Cn) ∈ nw_l) (ht : (tyl K)[t0]? = some (K t0, .object Cn)) (hn : n = nI n0) (h6 : n0 ≤ 1000) (hc : cs + 1 ≤ R.cells) (hs : sl + n0 ≤ R.slots)
    (kk : ∀ A1 : Nat → Nat, (∀ i, i < N → A1 i = A i) → GJ p l e R s m args below meth c nL D Ax Q (N + 1) A1 (va_up g N (.inl (K t0, n0, rq (fun _ => none)))) (cs + 1) (sl + n0) (pc + 3) lv (.ref (A1 N) :: st)) : GJ p l e R s m args below meth c nL D Ax Q N A g cs sl pc lv (.int n :: st) := by
  intro H locs ls hP hD hS hl
  subst hn
  refine va_newq C.1 C.2.1 C.2.2.2.1 (C.2.2.2.2.1 _ hl1) (C.2.2.2.2.2.2.2.2.1 _ hw) C.2.2.2.2.2.2.2.1 hP hD hS C.2.2.2.2.2.2.2.2.2 (nI_pos (by omega)) (nI_clamp (by omega)) (by omega) hc hs hd (fun q cA H1 hK1 hP1 hD1 hS1 => ?_)
  have e1 : cA = K t0 := RA_inj (hK1.2 5 (cA, .object Cn) rfl).2 (C.2.2.2.2.2.2.2.1.2 t0 _ ht).2
  subst e1
  have k1 := kk (va_up A N q) (fun i hi => upn (Nat.ne_of_lt hi))
  rw [va_up_at] at k1
  rw [wl_push] at hP1 hD1
  exact k1 H1 locs ls hP1 hD1 hS1 hl
theorem jx_putF {i idx ci k : Nat} {fs : List Value} {v : Value} {ty : FieldType} {g1 : Nat → va_E} (C : CX p s m args meth c own cc nL ret D K Ax) (hm : meth.name = "<init>") (F : FPF own idx ci k ty) (hd : decode cc pc = .ok (.putfield idx, 3)) (hi : i < N) (hg : g i = .inr (ci, fs)) (hn : narrow ty v = v) (hf : fits ty v = true) (hl0 : k < fs.length) (hw1 : va_up g i (.inr (ci, fs.set k v)) = g1) (kk : GJ p l e R s m args below meth c nL D Ax Q N A g1 cs sl (pc + 3) lv st) : GJ p l e R s m args below meth c nL D Ax Q N A g cs sl pc lv (v :: .ref (A i) :: st) := by
  intro H locs ls hP hD hS hl
  subst hw1
  obtain ⟨Cn, T, n, hc, hk, hin, hw, hfin, hdc, hpd, ⟨ty0, hty⟩, hnm⟩ := F
  have he : (wl N A g)[i]? = some (A i, .inr (ci, fs)) := by rw [wl_get hi, hg]
  refine va_putF C.1 C.2.1 C.2.2.2.2.1 hin ty0 hty hnm C.2.2.2.1 C.2.2.2.2.2.2.2.1 hP hD hS i he hc k hk (C.2.2.2.2.1 _ hw) (fun _ h9 => h9) hfin hm hdc hpd hn hf hl0 hd (fun H1 locs1 hP1 hD1 hS1 => ?_)
  rw [wl_set] at hP1 hD1
  exact kk H1 locs1 ls hP1 hD1 hS1 hl
theorem jx_putG {i idx ci k : Nat} {fs : List Value} {v : Value} {ty : FieldType} {g1 : Nat → va_E} (C : CX p s m args meth c own cc nL ret D K Ax) (F : FP0 own idx ci k ty) (hd : decode cc pc = .ok (.putfield idx, 3)) (hi : i < N) (hg : g i = .inr (ci, fs)) (hn : narrow ty v = v) (hf : fits ty v = true) (hl0 : k < fs.length) (hw1 : va_up g i (.inr (ci, fs.set k v)) = g1) (kk : GJ p l e R s m args below meth c nL D Ax Q N A g1 cs sl (pc + 3) lv st) : GJ p l e R s m args below meth c nL D Ax Q N A g cs sl pc lv (v :: .ref (A i) :: st) :=
  jx_put C F hd hi hg hn hf hl0 (by rw [hw1]) kk
theorem jx_oinit {q idx : Nat} (C : CX p s m args meth c own cc nL ret D K Ax) (hd : decode cc pc = .ok (.invokespecial idx, 3)) (h0 : Cond.methodLink own idx Lib.objectInit ∈ lw_all) (h1 : Cond.instanceMethod Lib.objectInit ∈ lw_all) (h2 : Cond.code Lib.objectInit ⟨#[0xb1]⟩ 1 none ∈ lw_all) (hR : 1 ≤ R.frames ∧ 26 ≤ R.locals) (hro : (st.map fun v => v.category).sum ≤ 8) (kk : GJ p l e R s m args below meth c nL D Ax Q N A g cs sl (pc + 3) lv st) : GJ p l e R s m args below meth c nL D Ax Q N A g cs sl pc lv (.ref q :: st) := by
  intro H locs ls hP hD hS hl
  refine W.objInit C.1 C.2.1 C.2.2.2.1 (C.2.2.2.2.1 _ h0) (C.2.2.2.2.1 _ h1) (C.2.2.2.2.1 _ h2) rfl (hl.1.trans C.2.2.1.symm) rfl hd hR.1 ?_ (kk H locs ls hP hD hS hl)
  have := hR.2
  have h3 : 2 * (F0 m pc ls (.ref q :: st)).monitorRoom = 0 := by rfl
  omega
/-- a card into the array of cards -/
theorem jx_aastC {i n q : Nat} {f : Nat → Option Nat} {x : Int32} {fs : List Value} {g1 : Nat → va_E} (j : Nat) (C : CX p s m args meth c own cc nL ret D K Ax) (hd : decode cc pc = .ok (.aastore, 1)) (hi : i < N) (hg : g i = .inl (K 4, n, rq f)) (hq : q < N) (hgq : g q = .inr (0, fs)) (hx : x = nI j) (hj : j < n) (hn : n ≤ 1000000) (hw1 : va_up g i (.inl (K 4, n, rq (va_up f j (some (A q))))) = g1) (kk : GJ p l e R s m args below meth c nL D Ax Q N A g1 cs sl (pc + 1) lv st) : GJ p l e R s m args below meth c nL D Ax Q N A g cs sl pc lv (.ref (A q) :: .int x :: .ref (A i) :: st) := by
  intro H locs ls hP hD hS hl
  subst hw1
  obtain ⟨h1, h2⟩ := nI_ix hx hj hn
  have ha : (wl N A g)[i]? = some (A i, .inl (K 4, n, rq f)) := by rw [wl_get hi, hg]
  have hb : (wl N A g)[q]? = some (A q, .inr (0, fs)) := by rw [wl_get hq, hgq]
  refine va_astq C.1 C.2.1 C.2.2.2.2.2.2.2.1 hP hD hS i 4 q 0 (r := (RX0, TX0, 5)) ha rfl hb rfl h1 hd (fun H1 locs1 hP1 hD1 hS1 => ?_)
  rw [h2, wl_set] at hP1 hD1
  exact kk H1 locs1 ls hP1 hD1 hS1 hl
end MAKE
/-! contracts of what makes cells -/
abbrev TZ : Type := Option Value → (Nat → Nat) → (Nat → va_E) → Prop
def rmi (d mc ms : Nat) : Room := { frames := d, cells := mc, slots := ms, locals := 26 * d }
def PCg (D : va_G) (K : Nat → ClassId) (N : Nat) (A : Nat → Nat) (g : Nat → va_E) (av : List Value) (sz : Nat) : Array Value → State → Prop := va_Pc av (fun S => S.heap.size = sz ∧ va_P D vwCl (wl N A g) S.heap ∧ va_K D vwCl (tyl K) S ∧ NW S ∧ va_D (fun _ => True) (wl N A g))
theorem PCg.blind {D : va_G} {K : Nat → ClassId} {N : Nat} {A : Nat → Nat} {g : Nat → va_E} {av : List Value} {sz : Nat} : FrameBlind (PCg D K N A g av sz) := by
  intro a S g mk q
  obtain ⟨q0, q1, qP, qK, qN, qD⟩ := q
  exact ⟨q0, q1, qP, va_K.moved (u := S) (U := S.calling g mk a) (Vm.Alike.refl S.vm) qK, NW.same (u := S) (U := S.calling g mk a) rfl qN, qD⟩
def QXg (D : va_G) (N : Nat) (A : Nat → Nat) (sz N' : Nat) (post : TZ) : Array Value → State → Outcome → State → Prop := fun _ st oc t => (∃ (v : Option Value) (A' : Nat → Nat) (g' : Nat → va_E), oc = .returned v ∧ (∀ i, i < N → A' i = A i) ∧ (∀ i, N ≤ i → i < N' → sz ≤ A' i) ∧ va_D (fun _ => True) (wl N' A' g') ∧ post v A' g' ∧ va_P D vwCl (wl N' A' g') t.heap) ∧ va_F (AX N A sz) st t
def MI (l : Launch) (y : MethodName) (cc : ByteArray) (nL : Nat) (ret : Option FieldType) (d mc ms : Nat) (D : va_G) (K : Nat → ClassId) (N : Nat) (A : Nat → Nat) (g : Nat → va_E) (av : List Value) (N' : Nat) (post : TZ) : Prop :=
  ∀ sz : Nat, Met l y (.code y cc nL ret :: lw_all) (rmi d mc ms) (PCg D K N A g av sz) (QXg D N A sz N' post) mc ms (AX N A sz)
abbrev MQG (below : List Frame) (D : va_G) (N : Nat) (A : Nat → Nat) (N' : Nat) (args : Array Value) (s : State) (mc ms : Nat) (post : TZ) : State → Prop := MQ below (QXg D N A s.heap.size N' post) args s mc ms (AX N A s.heap.size)
theorem MI.go {l : Launch} {y : MethodName} {cc : ByteArray} {nL : Nat} {ret : Option FieldType} {d mc ms : Nat} {D : va_G} {K : Nat → ClassId} {N : Nat} {A : Nat → Nat} {g : Nat → va_E} {av : List Value} {N' : Nat} {post : TZ} {lv0 : List (Option Value)} {own : String} (ho : y.cls = own) (hy : plainName y.cls = true) (hc : av.all (fun v => v.category == 1) = true) (hn : (lg_sl av).length ≤ nL) (hlv : av.map some ++ List.replicate (nL - av.length) none = lv0)
    (body : ∀ (p : Program) (e : Env) (s : State) (m : MethodId) (args : Array Value) (below : List Frame) (meth : Method) (c : Code), CX p s m args meth c own cc nL ret D K (AX N A s.heap.size) → meth.name = y.name →
      GJ p l e (rmi d mc ms) s m args below meth c nL D (AX N A s.heap.size) (MQG below D N A N' args s mc ms post) N A g 0 0 0 lv0 []) : MI l y cc nL ret d mc ms D K N A g av N' post := by
  intro sz
  refine Met.ofW (cc := cc) (maxL := nL) (ret := ret) hy rfl ?_
  intro p e s m args below meth c s₁ B hml hv
  obtain ⟨rfl, hsz, hP, hK, hN, hD⟩ := hv
  subst hsz
  have hts := atoms_spec (ws := Cond.code y cc nL ret :: lw_all) B.pre
  have hown : s.vm.findClass own = some m.cls := by rw [← ho]; exact findClass_of_methodNamed B.named
  have C : CX p s m av.toArray meth c own cc nL ret D K (AX N A s.heap.size) := ⟨B.exec, B.bytes, hml, hown, fun w h => hts w (List.mem_cons_of_mem _ h), B.returns, B.notSynchronized, hK, hN, fun q h => Or.inr h⟩
  rw [lg_entry_eq]
  subst hlv
  exact body p e s m av.toArray below meth c C (name_of_methodNamed B.named B.method).1 s.heap [] _ hP (wl_DT hD (fun i hi => Or.inl ⟨i, hi, rfl⟩)) va_S.rf (lh_entry av nL (fun v hv => by have h := List.all_eq_true.mp hc v hv; simpa using h) hn)
section MRET
variable {p : Program} {l : Launch} {e : Env} {R : Room} {s : State} {m : MethodId} {args : Array Value} {below : List Frame} {meth : Method} {c : Code} {nL : Nat} {D : va_G} {pc : Nat} {lv : List (Option Value)} {own : String} {cc : ByteArray} {ret : Option FieldType} {K : Nat → ClassId} {N N' : Nat} {A A' : Nat → Nat} {g' : Nat → va_E} {mc ms : Nat} {post : TZ}
theorem qg_end {H : Heap} {locs : List Loc} {v : Option Value} (hP : va_P D vwCl (wl N' A' g') H) (hD : va_D (AX N A s.heap.size) (wl N' A' g')) (hS : va_S (AX N A s.heap.size) s.heap H locs) (hN : N ≤ N') (hA : ∀ i, i < N → A' i = A i) (hq : post v A' g') : ∀ t : State, t.heap = H → s.WarmedH t.vm → QXg D N A s.heap.size N' post args s (.returned v) t := fun t ht _ => by
  refine ⟨⟨v, A', g', rfl, hA, fun i h1 h2 => ?_, hD.weaken (fun _ _ _ _ => trivial), hq, by rw [ht]; exact hP⟩, hS.F ht⟩
  rcases hD.2 i _ (wl_get h2) with ⟨j, hj, e⟩ | h
  · have := hD.1 i j _ _ (wl_get h2) (wl_get (Nat.lt_of_lt_of_le hj hN)) (e.trans (hA j hj).symm)
    omega
  · exact h
theorem jx_vretG (C : CX p s m args meth c own cc nL none D K (AX N A s.heap.size)) (hd : decode cc pc = .ok (.return_, 1)) (hN : N ≤ N') (hA : ∀ i, i < N → A' i = A i) (hq : post none A' g') : GJ p l e R s m args below meth c nL D (AX N A s.heap.size) (MQG below D N A N' args s mc ms post) N' A' g' mc ms pc lv [] := fun H locs ls hP hD hS hl => W.vret C.1 C.2.1 C.2.2.2.2.2.1 (qg_end hP hD hS hN hA hq) (fun q h => hS.2.2 q h) hd C.2.2.2.2.2.2.1
theorem jx_aretG {v : Value} {cn : String} (C : CX p s m args meth c own cc nL (some (.object cn)) D K (AX N A s.heap.size)) (hd : decode cc pc = .ok (.areturn, 1)) (hv : v = .null ∨ ∃ a, v = .ref a) (hN : N ≤ N') (hA : ∀ i, i < N → A' i = A i) (hq : post (some v) A' g') : GJ p l e R s m args below meth c nL D (AX N A s.heap.size) (MQG below D N A N' args s mc ms post) N' A' g' mc ms pc lv [v] := fun H locs ls hP hD hS hl => W.aret C.1 C.2.1 C.2.2.2.2.2.1 (Or.inl ⟨_, rfl⟩) hv (qg_end hP hD hS hN hA hq) (fun q h => hS.2.2 q h) hd C.2.2.2.2.2.2.1
end MRET
/-- a constructor's words at a call -/
def IW (own : String) (idx : Nat) (y : MethodName) (b : ByteArray) (n k : Nat) : Prop := Cond.code y b n none ∈ lw_all ∧ Cond.initialized y.cls ∈ lw_all ∧ Cond.instanceMethod y ∈ lw_all ∧ y.name = "<init>" ∧ okc y k ∧ (Cond.methodLink own idx y ∈ lw_all ∨ ∃ host : String, Cond.methodLinkNest own idx y host ∈ nw_l)
theorem good_code {y : MethodName} {b : ByteArray} {n : Nat} {r : Option FieldType} (hc : Cond.code y b n r ∈ lw_all) : GoodIn lw_all (Cond.code y b n r :: lw_all) := good_app (a := []) (fun w hw => absurd hw List.not_mem_nil) hc
section MCALL
variable {p : Program} {l : Launch} {e : Env} {R : Room} {s : State} {m : MethodId} {args : Array Value} {below : List Frame} {meth : Method} {c : Code} {nL : Nat} {D : va_G} {Ax : Nat → Prop} {Q : State → Prop}
variable {N : Nat} {A : Nat → Nat} {g : Nat → va_E} {cs sl pc : Nat} {lv : List (Option Value)} {st rest : List Value} {own : String} {cc : ByteArray} {ret : Option FieldType} {K : Nat → ClassId} {mc ms N' : Nat} {post : TZ}
theorem pcg_of {H : Heap} (C : CX p s m args meth c own cc nL ret D K Ax) {av : List Value} (hP : va_P D vwCl (wl N A g) H) (hD : va_D Ax (wl N A g)) : ∀ S : State, S.heap = H → s.WarmedH S.vm → PCg D K N A g av H.size av.toArray S := fun S hS hW => ⟨rfl, by rw [hS], by rw [hS]; exact hP, va_K.moved hW.alike C.2.2.2.2.2.2.2.1, NW.warm hW C.2.2.2.2.2.2.2.2.1, hD.weaken (fun _ _ _ _ => trivial)⟩
theorem jx_afterG (C : CX p s m args meth c own cc nL ret D K Ax) (hN : N ≤ N') (h : ∀ (H : Heap) (locs : List Loc) (ls : Array Slot), va_P D vwCl (wl N A g) H → va_D Ax (wl N A g) → va_S Ax s.heap H locs → lh ls nL lv → ∃ a : Array Value, va_Run p l e R s m args below meth c H locs cs sl mc ms (F0 m pc ls st) rest (QXg D N A H.size N' post a) (AX N A H.size))
    (kk : ∀ (v : Option Value) (A' : Nat → Nat) (g' : Nat → va_E), (∀ i, i < N → A' i = A i) → post v A' g' → GJ p l e R s m args below meth c nL D Ax Q N' A' g' (cs + mc) (sl + ms) (pc + 3) lv (v.toList ++ rest)) : GJ p l e R s m args below meth c nL D Ax Q N A g cs sl pc lv st := by
  intro H locs ls hP hD hS hl T hT X
  obtain ⟨a, hr⟩ := h H locs ls hP hD hS hl
  obtain ⟨v, st₀, t, T', L, h0, X', hL, e1, e2, ⟨⟨v', A', g', hv, hA', hF', hD', hp, hb⟩, hz, hk⟩, stp⟩ := hr T hT X
  cases hv
  rw [h0] at hz hk
  have hA : ∀ q, AX N A H.size q → Ax q := by
    intro q hq
    rcases hq with ⟨i, hi, rfl⟩ | hq
    · exact hD.2 i _ (wl_get hi)
    · exact C.2.2.2.2.2.2.2.2.2 q (Nat.le_trans hS.1 hq)
  obtain ⟨t2, a1, b1⟩ := kk v A' g' hA' hp T'.heap (locs ++ L) ls (by rw [e1]; exact hb) (wl_DT hD' (fun i hi => by
      by_cases q : i < N
      · rw [hA' i q]; exact hD.2 i _ (wl_get q)
      · exact C.2.2.2.2.2.2.2.2.2 _ (Nat.le_trans hS.1 (hF' i (by omega) hi))))
    ⟨Nat.le_trans hS.1 (by rw [e1]; exact hz), fun q h1 h2 => by rw [e1, hk q (Nat.lt_of_lt_of_le h1 hS.1) (fun z => h2 (hA q z))]; exact hS.2.1 q h1 h2, fun q hq => by
      rcases List.mem_append.mp hq with h | h
      · exact hS.2.2 q h
      · exact hA _ (hL q h)⟩ hl T' rfl X'
  exact ⟨t2, stp t2 a1, b1⟩
theorem jx_ini {y : MethodName} {b : ByteArray} {n d k idx q : Nat} {As : List Value} (C : CX p s m args meth c own cc nL ret D K Ax) (hM : MI l y b n none d mc ms D K N A g (.ref q :: As) N' post) (w : IW own idx y b n k) (hN : N ≤ N') (hk : As.length = k) (hR : d + 1 ≤ R.frames ∧ 8 + (n + 11) + 26 * d ≤ R.locals) (hf : cs + mc ≤ R.cells ∧ sl + ms ≤ R.slots) (hd : decode cc pc = .ok (.invokespecial idx, 3)) (hst : st = As.reverse ++ .ref q :: rest) (hro : (rest.map fun v => v.category).sum ≤ 8)
    (kk : ∀ (v : Option Value) (A' : Nat → Nat) (g' : Nat → va_E), (∀ i, i < N → A' i = A i) → post v A' g' → GJ p l e R s m args below meth c nL D Ax Q N' A' g' (cs + mc) (sl + ms) (pc + 3) lv (v.toList ++ rest)) : GJ p l e R s m args below meth c nL D Ax Q N A g cs sl pc lv st := by
  refine jx_afterG C hN (fun H locs ls hP hD hS hl => ?_) kk
  obtain ⟨w1, w2, w3, w4, w5, w6⟩ := w
  have T := C.2.2.2.2.1
  rcases w6 with w6 | ⟨host, w6⟩
  · exact ⟨_, va_runI (As := As) (rest := rest) ⟨C.1, C.2.1, C.2.2.1, C.2.2.2.1, T⟩ (hM H.size) (cwI k T (good_code w1) rfl rfl rfl (T _ w2) (T _ w6) (T _ w3) w4 w5 hR) ⟨PCg.blind, pcg_of C hP hD⟩ rfl hk hl.1 hst (lv_room hro) hd hf⟩
  · exact ⟨_, va_runIN (As := As) (rest := rest) ⟨C.1, C.2.1, C.2.2.1, C.2.2.2.1, T⟩ (hM H.size) ⟨va_cnB k T (good_code w1) rfl rfl rfl (C.2.2.2.2.2.2.2.2.1 _ w6) (T _ w2) w5 hR, w4, T _ w3⟩ ⟨PCg.blind, pcg_of C hP hD⟩ rfl hk hl.1 hst (lv_room hro) hd hf⟩
theorem jx_staG {y : MethodName} {b : ByteArray} {n d k idx : Nat} {r : Option FieldType} {As : List Value} (C : CX p s m args meth c own cc nL ret D K Ax) (hM : MI l y b n r d mc ms D K N A g As N' post) (w : SW own idx y b n r k) (hN : N ≤ N') (hk : As.length = k) (hR : d + 1 ≤ R.frames ∧ 8 + (n + 11) + 26 * d ≤ R.locals) (hf : cs + mc ≤ R.cells ∧ sl + ms ≤ R.slots) (hd : decode cc pc = .ok (.invokestatic idx, 3)) (hst : st = As.reverse ++ rest) (hro : (rest.map fun v => v.category).sum ≤ 8)
    (kk : ∀ (v : Option Value) (A' : Nat → Nat) (g' : Nat → va_E), (∀ i, i < N → A' i = A i) → post v A' g' → GJ p l e R s m args below meth c nL D Ax Q N' A' g' (cs + mc) (sl + ms) (pc + 3) lv (v.toList ++ rest)) : GJ p l e R s m args below meth c nL D Ax Q N A g cs sl pc lv st := by
  refine jx_afterG C hN (fun H locs ls hP hD hS hl => ?_) kk
  exact ⟨_, va_runS (As := As) (rest := rest) ⟨C.1, C.2.1, C.2.2.1, C.2.2.2.1, C.2.2.2.2.1⟩ (hM H.size) (va_cwS k C.2.2.2.2.1 w.1 rfl rfl rfl w.2 hR) ⟨PCg.blind, pcg_of C hP hD⟩ rfl hk hl.1 hst (lv_room hro) hd hf⟩
end MCALL
