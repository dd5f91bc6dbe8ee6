/-! contracts and calls over the typed heap -/
abbrev TI : Type := Nat → Nat → Int32
abbrev TU : Type := Nat → Nat → UInt32
abbrev TP : Type := Nat → Option Nat
abbrev TQ : Type := Option Value → TI → TU → TP → Prop
def rmd (d : Nat) : Room := { frames := d, cells := 0, slots := 0, locals := 26 * d }
def QX (D : va_G) (K : Nat → ClassId) (A : Nat → Nat) (Ax : Nat → Prop) (post : TQ) : Array Value → State → Outcome → State → Prop := fun _ st oc t => (∃ (v : Option Value) (I : TI) (U : TU) (P : TP), oc = .returned v ∧ post v I U P ∧ va_P D vwCl (wl 75 A (gg A K I U P)) t.heap) ∧ va_F Ax st t
/-- the exact end -/
def XE (v0 : Option Value) (I0 : TI) (U0 : TU) (P0 : TP) : TQ := fun v I U P => v = v0 ∧ I = I0 ∧ U = U0 ∧ P = P0
def PC (D : va_G) (K : Nat → ClassId) (A : Nat → Nat) (I : TI) (U : TU) (P : TP) (av : List Value) (sz : Nat) : Array Value → State → Prop := va_Pc av (fun S => S.heap.size = sz ∧ va_P D vwCl (wl 75 A (gg A K I U P)) S.heap ∧ va_K D vwCl (tyl K) S ∧ NW S ∧ va_D (fun _ => True) (wl 75 A (gg A K I U P)))
theorem PC.blind {D : va_G} {K : Nat → ClassId} {A : Nat → Nat} {I : TI} {U : TU} {P : TP} {av : List Value} {sz : Nat} : FrameBlind (PC D K A I U P av sz) := by
  intro a S g mk q
  obtain ⟨q0, q1, qP, qK, qN, qD⟩ := q
  exact ⟨q0, q1, qP, va_K.moved (u := S) (U := S.calling g mk a) (Vm.Alike.refl S.vm) qK, NW.same (u := S) (U := S.calling g mk a) rfl qN, qD⟩
/-- method y's contract, of call depth d, from the typed heap (I, U, P) and the arguments av -/
def MM (l : Launch) (y : MethodName) (cc : ByteArray) (nL : Nat) (ret : Option FieldType) (d : Nat) (D : va_G) (K : Nat → ClassId) (A : Nat → Nat) (I : TI) (U : TU) (P : TP) (av : List Value) (post : TQ) : Prop :=
  ∀ sz : Nat, Met l y (.code y cc nL ret :: lw_all) (rmd d) (PC D K A I U P av sz) (QX D K A (AX 75 A sz) post) 0 0 (AX 75 A sz)
abbrev MQX (below : List Frame) (D : va_G) (K : Nat → ClassId) (A : Nat → Nat) (args : Array Value) (s : State) (post : TQ) : State → Prop := MQ below (QX D K A (AX 75 A s.heap.size) post) args s 0 0 (AX 75 A s.heap.size)
theorem MM.mk {l : Launch} {y : MethodName} {cc : ByteArray} {nL : Nat} {ret : Option FieldType} {d : Nat} {D : va_G} {K : Nat → ClassId} {A : Nat → Nat} {I : TI} {U : TU} {P : TP} {av : List Value} {post : TQ} {lv0 : List (Option Value)} {own : String} (ho : y.cls = own) (hy : plainName y.cls = true) (hc : ∀ v ∈ av, v.category = 1) (hn : (lg_sl av).length ≤ nL) (hlv : av.map some ++ List.replicate (nL - av.length) none = lv0)
    (body : ∀ (p : Program) (e : Env) (s : State) (m : MethodId) (args : Array Value) (below : List Frame) (meth : Method) (c : Code), CX p s m args meth c own cc nL ret D K (AX 75 A s.heap.size) → meth.name = y.name →
      GJ p l e (rmd d) s m args below meth c nL D (AX 75 A s.heap.size) (MQX below D K A args s post) 75 A (gg A K I U P) 0 0 0 lv0 []) : MM l y cc nL ret d D K A I U P av post := by
  intro sz
  refine Met.ofW (cc := cc) (maxL := nL) (ret := ret) hy rfl ?_
  intro p e s m args below meth c s₁ B hml hv
  obtain ⟨rfl, hsz, hP, hK, hN, hD⟩ := hv
  subst hsz
  have hts := atoms_spec (ws := Cond.code y cc nL ret :: lw_all) B.pre
  have hown : s.vm.findClass own = some m.cls := by rw [← ho]; exact findClass_of_methodNamed B.named
  have C : CX p s m av.toArray meth c own cc nL ret D K (AX 75 A s.heap.size) := ⟨B.exec, B.bytes, hml, hown, fun w h => hts w (List.mem_cons_of_mem _ h), B.returns, B.notSynchronized, hK, hN, fun q h => Or.inr h⟩
  rw [lg_entry_eq]
  subst hlv
  exact body p e s m av.toArray below meth c C (name_of_methodNamed B.named B.method).1 s.heap [] _ hP (wl_DT hD (fun i hi => Or.inl ⟨i, hi, rfl⟩)) va_S.rf (lh_entry av nL hc hn)
section RET
variable {p : Program} {l : Launch} {e : Env} {R : Room} {s : State} {m : MethodId} {args : Array Value} {below : List Frame} {meth : Method} {c : Code} {nL : Nat} {D : va_G} {pc : Nat} {lv : List (Option Value)} {st : List Value} {own : String} {cc : ByteArray} {ret : Option FieldType} {K : Nat → ClassId} {A : Nat → Nat} {I : TI} {U : TU} {P : TP} {post : TQ}
theorem qx_end {H : Heap} {locs : List Loc} {v : Option Value} (hP : va_P D vwCl (wl 75 A (gg A K I U P)) H) (hS : va_S (AX 75 A s.heap.size) s.heap H locs) (hq : post v I U P) : ∀ t : State, t.heap = H → s.WarmedH t.vm → QX D K A (AX 75 A s.heap.size) post args s (.returned v) t := fun t ht _ => ⟨⟨v, I, U, P, rfl, hq, by rw [ht]; exact hP⟩, hS.F ht⟩
theorem jx_iret {v : Int32} (C : CX p s m args meth c own cc nL (some .int) D K (AX 75 A s.heap.size)) (hd : decode cc pc = .ok (.ireturn, 1)) (hq : post (some (.int v)) I U P) : GJ p l e R s m args below meth c nL D (AX 75 A s.heap.size) (MQX below D K A args s post) 75 A (gg A K I U P) 0 0 pc lv [.int v] := fun H locs ls hP hD hS hl => W.iret C.1 C.2.1 C.2.2.2.2.2.1 (qx_end hP hS hq) (fun q h => hS.2.2 q h) hd C.2.2.2.2.2.2.1
theorem jx_zret {v : Int32} (C : CX p s m args meth c own cc nL (some .boolean) D K (AX 75 A s.heap.size)) (hd : decode cc pc = .ok (.ireturn, 1)) (hn : narrow .boolean (.int v) = .int v) (hq : post (some (.int v)) I U P) : GJ p l e R s m args below meth c nL D (AX 75 A s.heap.size) (MQX below D K A args s post) 75 A (gg A K I U P) 0 0 pc lv [.int v] := fun H locs ls hP hD hS hl => W.zret C.1 C.2.1 C.2.2.2.2.2.1 hn (qx_end hP hS hq) (fun q h => hS.2.2 q h) hd C.2.2.2.2.2.2.1
theorem jx_vret (C : CX p s m args meth c own cc nL none D K (AX 75 A s.heap.size)) (hd : decode cc pc = .ok (.return_, 1)) (hq : post none I U P) : GJ p l e R s m args below meth c nL D (AX 75 A s.heap.size) (MQX below D K A args s post) 75 A (gg A K I U P) 0 0 pc lv [] := fun H locs ls hP hD hS hl => W.vret C.1 C.2.1 C.2.2.2.2.2.1 (qx_end hP hS hq) (fun q h => hS.2.2 q h) hd C.2.2.2.2.2.2.1
theorem jx_fret {v : UInt32} (C : CX p s m args meth c own cc nL (some .float) D K (AX 75 A s.heap.size)) (hd : decode cc pc = .ok (.freturn, 1)) (hq : post (some (.float v)) I U P) : GJ p l e R s m args below meth c nL D (AX 75 A s.heap.size) (MQX below D K A args s post) 75 A (gg A K I U P) 0 0 pc lv [.float v] := fun H locs ls hP hD hS hl => W.fret C.1 C.2.1 C.2.2.2.2.2.1 (qx_end hP hS hq) (fun q h => hS.2.2 q h) hd C.2.2.2.2.2.2.1
theorem jx_aret {v : Value} {cn : String} (C : CX p s m args meth c own cc nL (some (.object cn)) D K (AX 75 A s.heap.size)) (hd : decode cc pc = .ok (.areturn, 1)) (hv : v = .null ∨ ∃ a, v = .ref a) (hq : post (some v) I U P) : GJ p l e R s m args below meth c nL D (AX 75 A s.heap.size) (MQX below D K A args s post) 75 A (gg A K I U P) 0 0 pc lv [v] := fun H locs ls hP hD hS hl => W.aret C.1 C.2.1 C.2.2.2.2.2.1 (Or.inl ⟨_, rfl⟩) hv (qx_end hP hS hq) (fun q h => hS.2.2 q h) hd C.2.2.2.2.2.2.1
end RET
/-! the words of a call -/
def okc (y : MethodName) (k : Nat) : Prop := y.cls ≠ "java/lang/invoke/MethodHandle" ∧ y.cls ≠ "java/lang/invoke/VarHandle" ∧ (parseMethodDescriptor y.desc).map (fun d => d.parameters.length) = some k
def VW (own : String) (idx : Nat) (Cn : String) (y : MethodName) (b : ByteArray) (n : Nat) (r : Option FieldType) (k : Nat) : Prop := GoodIn lw_all (wsV own idx Cn y (Cond.code y b n r :: lw_all)) ∧ y.cls = Cn ∧ okc y k
def SW (own : String) (idx : Nat) (y : MethodName) (b : ByteArray) (n : Nat) (r : Option FieldType) (k : Nat) : Prop := GoodIn lw_all (va_wsS own idx y (Cond.code y b n r :: lw_all)) ∧ okc y k
def UW (own : String) (idx : Nat) (Cn owner : String) (x y : MethodName) (b : ByteArray) (n : Nat) (r : Option FieldType) (k : Nat) : Prop := GoodIn lw_all (va_wsU own idx Cn owner x y (Cond.code y b n r :: lw_all)) ∧ (y = ⟨owner, x.name, x.desc⟩ ∨ Cond.declares ⟨owner, x.name, x.desc⟩ ∈ nw_l) ∧ (owner ≠ "java/lang/invoke/MethodHandle" ∧ owner ≠ "java/lang/invoke/VarHandle" ∧ (parseMethodDescriptor x.desc).map (fun d => d.parameters.length) = some k)
theorem good1 {w : Cond} (h : w ∈ lw_all) : w ∈ lw_all ∧ ((w.onTables && w.keeps) = true ∨ ∃ ty, w = .arrayClass ty) := ⟨h, good_of_word (List.mem_filter.mp h).2⟩
theorem good_app {a : List Cond} {y : MethodName} {b : ByteArray} {n : Nat} {r : Option FieldType} (ha : ∀ w ∈ a, w ∈ lw_all) (hc : Cond.code y b n r ∈ lw_all) : GoodIn lw_all (a ++ (Cond.code y b n r :: lw_all)) := by
  intro w hw
  rcases List.mem_append.mp hw with h | h
  · exact good1 (ha w h)
  · rcases List.mem_cons.mp h with rfl | h
    · exact good1 hc
    · exact good1 h
theorem VW.mk {own : String} {idx : Nat} {Cn : String} {y : MethodName} {b : ByteArray} {n : Nat} {r : Option FieldType} {k : Nat} (h1 : Cond.methodLink own idx y ∈ lw_all) (h2 : Cond.instanceMethod y ∈ lw_all) (h3 : Cond.selects Cn y y ∈ lw_all) (h4 : Cond.initialized Cn ∈ lw_all) (h5 : Cond.code y b n r ∈ lw_all) (h6 : y.cls = Cn) (h7 : okc y k) : VW own idx Cn y b n r k :=
  ⟨good_app (by intro w hw; simp only [List.mem_cons, List.not_mem_nil, or_false] at hw; rcases hw with rfl | rfl | rfl | rfl <;> assumption) h5, h6, h7⟩
theorem SW.mk {own : String} {idx : Nat} {y : MethodName} {b : ByteArray} {n : Nat} {r : Option FieldType} {k : Nat} (h1 : Cond.methodLink own idx y ∈ lw_all) (h2 : Cond.static y ∈ lw_all) (h4 : Cond.initialized y.cls ∈ lw_all) (h5 : Cond.code y b n r ∈ lw_all) (h7 : okc y k) : SW own idx y b n r k :=
  ⟨good_app (by intro w hw; simp only [List.mem_cons, List.not_mem_nil, or_false] at hw; rcases hw with rfl | rfl | rfl <;> assumption) h5, h7⟩
theorem UW.mk {own : String} {idx : Nat} {Cn owner : String} {x y : MethodName} {b : ByteArray} {n : Nat} {r : Option FieldType} {k : Nat} (h1 : Cond.methodLink own idx x ∈ lw_all) (h2 : Cond.sameMethod x.cls owner x.name x.desc ∈ lw_all) (h3 : Cond.selects Cn x y ∈ lw_all) (h4 : Cond.instanceMethod y ∈ lw_all) (h4b : Cond.initialized y.cls ∈ lw_all) (h5 : Cond.code y b n r ∈ lw_all) (h6 : y = ⟨owner, x.name, x.desc⟩ ∨ Cond.declares ⟨owner, x.name, x.desc⟩ ∈ nw_l) (h7 : owner ≠ "java/lang/invoke/MethodHandle" ∧ owner ≠ "java/lang/invoke/VarHandle" ∧ (parseMethodDescriptor x.desc).map (fun d => d.parameters.length) = some k) : UW own idx Cn owner x y b n r k :=
  ⟨good_app (by intro w hw; simp only [List.mem_cons, List.not_mem_nil, or_false] at hw; rcases hw with rfl | rfl | rfl | rfl | rfl <;> assumption) h5, h6, h7⟩
section CALL
variable {p : Program} {l : Launch} {e : Env} {R : Room} {s : State} {m : MethodId} {args : Array Value} {below : List Frame} {meth : Method} {c : Code} {nL : Nat} {D : va_G} {Ax : Nat → Prop} {Q : State → Prop} {cs sl pc : Nat} {lv : List (Option Value)} {st rest : List Value} {own : String} {cc : ByteArray} {ret : Option FieldType} {K : Nat → ClassId} {A : Nat → Nat} {I : TI} {U : TU} {P : TP} {post : TQ}
/-- a call at pc, with the stack st, that leaves rest below its answer -/
def JRun (p : Program) (l : Launch) (e : Env) (R : Room) (s : State) (m : MethodId) (args : Array Value) (below : List Frame) (meth : Method) (c : Code) (nL : Nat) (D : va_G) (Ax : Nat → Prop) (K : Nat → ClassId) (A : Nat → Nat) (I : TI) (U : TU) (P : TP) (cs sl pc : Nat) (lv : List (Option Value)) (st rest : List Value) (post : TQ) : Prop :=
  ∀ (H : Heap) (locs : List Loc) (ls : Array Slot), va_P D vwCl (wl 75 A (gg A K I U P)) H → va_D Ax (wl 75 A (gg A K I U P)) → va_S Ax s.heap H locs → lh ls nL lv → ∃ a : Array Value, va_Run p l e R s m args below meth c H locs cs sl 0 0 (F0 m pc ls st) rest (QX D K A (AX 75 A H.size) post a) (AX 75 A H.size)
theorem jx_after (C : CX p s m args meth c own cc nL ret D K Ax) (h : JRun p l e R s m args below meth c nL D Ax K A I U P cs sl pc lv st rest post)
    (kk : ∀ (v : Option Value) (I1 : TI) (U1 : TU) (P1 : TP), post v I1 U1 P1 → GJ p l e R s m args below meth c nL D Ax Q 75 A (gg A K I1 U1 P1) cs sl (pc + 3) lv (v.toList ++ rest)) : GJ p l e R s m args below meth c nL D Ax Q 75 A (gg A K I U P) cs sl pc lv st := by
  intro H locs ls hP hD hS hl T hT X
  obtain ⟨a, hr⟩ := h H locs ls hP hD hS hl
  obtain ⟨v, st₀, t, T', L, h0, X', hL, e1, e2, ⟨⟨v', I1, U1, P1, hv, hp, hb⟩, hz, hk⟩, stp⟩ := hr T hT X
  cases hv
  rw [h0] at hz hk
  have hA : ∀ q, AX 75 A H.size q → Ax q := by
    intro q hq
    rcases hq with ⟨i, hi, rfl⟩ | hq
    · exact hD.2 i _ (wl_get hi)
    · exact C.2.2.2.2.2.2.2.2.2 q (Nat.le_trans hS.1 hq)
  obtain ⟨t2, a1, b1⟩ := kk v I1 U1 P1 hp T'.heap (locs ++ L) ls (by rw [e1]; exact hb) (wl_D hD)
    ⟨Nat.le_trans hS.1 (by rw [e1]; exact hz), fun q h1 h2 => by rw [e1, hk q (Nat.lt_of_lt_of_le h1 hS.1) (fun z => h2 (hA q z))]; exact hS.2.1 q h1 h2, fun q hq => by
      rcases List.mem_append.mp hq with h | h
      · exact hS.2.2 q h
      · exact hA _ (hL q h)⟩ hl T' rfl X'
  exact ⟨t2, stp t2 a1, b1⟩
theorem jx_one {v : Value} {I1 : TI} {U1 : TU} {P1 : TP} (C : CX p s m args meth c own cc nL ret D K Ax) (h : JRun p l e R s m args below meth c nL D Ax K A I U P cs sl pc lv st rest (XE (some v) I1 U1 P1)) (kk : GJ p l e R s m args below meth c nL D Ax Q 75 A (gg A K I1 U1 P1) cs sl (pc + 3) lv (v :: rest)) : GJ p l e R s m args below meth c nL D Ax Q 75 A (gg A K I U P) cs sl pc lv st := by
  refine jx_after C h (fun v' I' U' P' hq => ?_)
  obtain ⟨rfl, rfl, rfl, rfl⟩ := hq
  exact kk
theorem jx_void {I1 : TI} {U1 : TU} {P1 : TP} (C : CX p s m args meth c own cc nL ret D K Ax) (h : JRun p l e R s m args below meth c nL D Ax K A I U P cs sl pc lv st rest (XE none I1 U1 P1)) (kk : GJ p l e R s m args below meth c nL D Ax Q 75 A (gg A K I1 U1 P1) cs sl (pc + 3) lv rest) : GJ p l e R s m args below meth c nL D Ax Q 75 A (gg A K I U P) cs sl pc lv st := by
  refine jx_after C h (fun v' I' U' P' hq => ?_)
  obtain ⟨rfl, rfl, rfl, rfl⟩ := hq
  exact kk
theorem pc_of {H : Heap} (C : CX p s m args meth c own cc nL ret D K Ax) {av : List Value} (hP : va_P D vwCl (wl 75 A (gg A K I U P)) H) (hD : va_D Ax (wl 75 A (gg A K I U P))) : ∀ S : State, S.heap = H → s.WarmedH S.vm → PC D K A I U P av H.size av.toArray S := fun S hS hW => ⟨rfl, by rw [hS], by rw [hS]; exact hP, va_K.moved hW.alike C.2.2.2.2.2.2.2.1, NW.warm hW C.2.2.2.2.2.2.2.2.1, hD.weaken (fun _ _ _ _ => trivial)⟩
theorem jr_V {y : MethodName} {b : ByteArray} {n : Nat} {r : Option FieldType} {d i ci k idx : Nat} {fs As : List Value} {q : vw_C} (C : CX p s m args meth c own cc nL ret D K Ax) (hM : MM l y b n r d D K A I U P (.ref (A i) :: As) post) (w : VW own idx q.1 y b n r k) (hi : i < 75) (hg : gg A K I U P i = .inr (ci, fs)) (hc : vwCl[ci]? = some q) (hk : As.length = k) (hR : d + 1 ≤ R.frames ∧ 8 + (n + 11) + 26 * d ≤ R.locals) (hf : cs ≤ R.cells ∧ sl ≤ R.slots) (hd : decode cc pc = .ok (.invokevirtual idx, 3)) (hst : st = As.reverse ++ .ref (A i) :: rest) (hro : (rest.map fun v => v.category).sum ≤ 8) : JRun p l e R s m args below meth c nL D Ax K A I U P cs sl pc lv st rest post := by
  intro H locs ls hP hD hS hl
  have he : (wl 75 A (gg A K I U P))[i]? = some (A i, .inr (ci, fs)) := by rw [wl_get hi, hg]
  exact ⟨_, va_runV (As := As) (rest := rest) ⟨C.1, C.2.1, C.2.2.1, C.2.2.2.1, C.2.2.2.2.1⟩ (hM H.size) (cwV k C.2.2.2.2.1 w.1 rfl rfl rfl ⟨w.2.1, w.2.2⟩ hR) ⟨PC.blind, va_recv C.2.2.2.2.2.2.2.1 hP hc he, pc_of C hP hD⟩ rfl hk hl.1 hst (lv_room hro) hd hf⟩
theorem jr_S {y : MethodName} {b : ByteArray} {n : Nat} {r : Option FieldType} {d k idx : Nat} {As : List Value} (C : CX p s m args meth c own cc nL ret D K Ax) (hM : MM l y b n r d D K A I U P As post) (w : SW own idx y b n r k) (hk : As.length = k) (hR : d + 1 ≤ R.frames ∧ 8 + (n + 11) + 26 * d ≤ R.locals) (hf : cs ≤ R.cells ∧ sl ≤ R.slots) (hd : decode cc pc = .ok (.invokestatic idx, 3)) (hst : st = As.reverse ++ rest) (hro : (rest.map fun v => v.category).sum ≤ 8) : JRun p l e R s m args below meth c nL D Ax K A I U P cs sl pc lv st rest post := by
  intro H locs ls hP hD hS hl
  exact ⟨_, va_runS (As := As) (rest := rest) ⟨C.1, C.2.1, C.2.2.1, C.2.2.2.1, C.2.2.2.2.1⟩ (hM H.size) (va_cwS k C.2.2.2.2.1 w.1 rfl rfl rfl w.2 hR) ⟨PC.blind, pc_of C hP hD⟩ rfl hk hl.1 hst (lv_room hro) hd hf⟩
theorem jr_U {x y : MethodName} {owner : String} {b : ByteArray} {n : Nat} {r : Option FieldType} {d i ci k idx : Nat} {fs As : List Value} {q : vw_C} (C : CX p s m args meth c own cc nL ret D K Ax) (hM : MM l y b n r d D K A I U P (.ref (A i) :: As) post) (w : UW own idx q.1 owner x y b n r k) (hi : i < 75) (hg : gg A K I U P i = .inr (ci, fs)) (hc : vwCl[ci]? = some q) (hk : As.length = k) (hR : d + 1 ≤ R.frames ∧ 8 + (n + 11) + 26 * d ≤ R.locals) (hf : cs ≤ R.cells ∧ sl ≤ R.slots) (hd : decode cc pc = .ok (.invokevirtual idx, 3)) (hst : st = As.reverse ++ .ref (A i) :: rest) (hro : (rest.map fun v => v.category).sum ≤ 8) : JRun p l e R s m args below meth c nL D Ax K A I U P cs sl pc lv st rest post := by
  intro H locs ls hP hD hS hl
  have he : (wl 75 A (gg A K I U P))[i]? = some (A i, .inr (ci, fs)) := by rw [wl_get hi, hg]
  have cw : va_CU R s args own q.1 owner idx x y b n r (Cond.code y b n r :: lw_all) (rmd d) 0 0 k := by
    rcases w.2.1 with h | h
    · exact va_cwU k C.2.2.2.2.1 w.1 rfl rfl rfl h w.2.2 hR
    · exact va_cwA k C.2.2.2.2.1 w.1 rfl rfl rfl (C.2.2.2.2.2.2.2.2.1 _ h) w.2.2 hR
  exact ⟨_, va_runU (As := As) (rest := rest) ⟨C.1, C.2.1, C.2.2.1, C.2.2.2.1, C.2.2.2.2.1⟩ (hM H.size) cw ⟨PC.blind, va_recv C.2.2.2.2.2.2.2.1 hP hc he, pc_of C hP hD⟩ rfl hk hl.1 hst (lv_room hro) hd hf⟩
end CALL
