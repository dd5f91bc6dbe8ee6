/-! relational ends, dispatch over the three kinds of lane, the warp -/
def XV (q : Value → TI → TU → TP → Prop) : TQ := fun v I U P => ∃ w, v = some w ∧ q w I U P
def XN (q : TI → TU → TP → Prop) : TQ := fun v I U P => v = none ∧ q I U P
section CALLR
variable {p : Program} {l : Launch} {e : Env} {R : Room} {s : State} {m : MethodId} {args : Array Value} {below : List Frame} {meth : Method} {c : Code} {nL : Nat} {D : va_G} {Ax : Nat → Prop} {Q : State → Prop} {cs sl pc : Nat} {lv : List (Option Value)} {st rest : List Value} {own : String} {cc : ByteArray} {ret : Option FieldType} {K : Nat → ClassId} {A : Nat → Nat} {I : TI} {U : TU} {P : TP}
theorem jx_oneV {q : Value → TI → TU → TP → Prop} (C : CX p s m args meth c own cc nL ret D K Ax) (h : JRun p l e R s m args below meth c nL D Ax K A I U P cs sl pc lv st rest (XV q)) (kk : ∀ (w : Value) (I1 : TI) (U1 : TU) (P1 : TP), q w I1 U1 P1 → GJ p l e R s m args below meth c nL D Ax Q 75 A (gg A K I1 U1 P1) cs sl (pc + 3) lv (w :: rest)) : GJ p l e R s m args below meth c nL D Ax Q 75 A (gg A K I U P) cs sl pc lv st := by
  refine jx_after C h (fun v I1 U1 P1 hq => ?_)
  obtain ⟨w, rfl, hq⟩ := hq
  exact kk w I1 U1 P1 hq
theorem jx_voidN {q : TI → TU → TP → Prop} (C : CX p s m args meth c own cc nL ret D K Ax) (h : JRun p l e R s m args below meth c nL D Ax K A I U P cs sl pc lv st rest (XN q)) (kk : ∀ (I1 : TI) (U1 : TU) (P1 : TP), q I1 U1 P1 → GJ p l e R s m args below meth c nL D Ax Q 75 A (gg A K I1 U1 P1) cs sl (pc + 3) lv rest) : GJ p l e R s m args below meth c nL D Ax Q 75 A (gg A K I U P) cs sl pc lv st := by
  refine jx_after C h (fun v I1 U1 P1 hq => ?_)
  obtain ⟨rfl, hq⟩ := hq
  exact kk I1 U1 P1 hq
/-- the cells are apart -/
theorem jx_inj {N : Nat} {g : Nat → va_E} (k : (∀ i j, i < N → j < N → A i = A j → i = j) → GJ p l e R s m args below meth c nL D Ax Q N A g cs sl pc lv st) : GJ p l e R s m args below meth c nL D Ax Q N A g cs sl pc lv st :=
  fun H locs ls hP hD hS hl => k (fun i j hi hj h => hD.1 i j _ _ (wl_get hi) (wl_get hj) h) H locs ls hP hD hS hl
theorem jv_count  {k : Nat} (C : CX p s m args meth c RX10 cc nL ret D K Ax) (hd : decode cc pc = .ok (.invokevirtual 85, 3)) (hk : k < 20)  (hR : 2 ≤ R.frames ∧ 49 ≤ R.locals) (hf : cs ≤ R.cells ∧ sl ≤ R.slots) (hro : (rest.map fun v => v.category).sum ≤ 8) : JRun p l e R s m args below meth c nL D Ax K A I U P cs sl pc lv (.ref (A (4 + 2 * k)) :: rest) rest (XE (some (.int (I (4 + 2 * k) 0))) I U P) := by
  obtain ⟨hR1, hR2⟩ := hR
  by_cases h2 : k % 5 = 2
  · skip
    exact jr_U C (c_3_countT hk h2) uw_10_85_6 (by omega) (gg_laneT hk h2) rfl rfl ⟨by omega, by omega⟩ hf hd rfl hro
  · by_cases h3 : k % 5 = 3
    · skip
      exact jr_U C (c_3_countL hk h3) uw_10_85_4 (by omega) (gg_laneL hk h3) rfl rfl ⟨by omega, by omega⟩ hf hd rfl hro
    · skip
      exact jr_U C (c_3_countW hk h2 h3) uw_10_85_8 (by omega) (gg_laneW hk h2 h3) rfl rfl ⟨by omega, by omega⟩ hf hd rfl hro
theorem jv_has {x : Int32} {k : Nat} (C : CX p s m args meth c RX10 cc nL ret D K Ax) (hd : decode cc pc = .ok (.invokevirtual 107, 3)) (hk : k < 20)  (hR : 2 ≤ R.frames ∧ 49 ≤ R.locals) (hf : cs ≤ R.cells ∧ sl ≤ R.slots) (hro : (rest.map fun v => v.category).sum ≤ 8) : JRun p l e R s m args below meth c nL D Ax K A I U P cs sl pc lv (.int x :: .ref (A (4 + 2 * k)) :: rest) rest (XE (some (.int (bI (inR (I (4 + 2 * k) 0) x)))) I U P) := by
  obtain ⟨hR1, hR2⟩ := hR
  by_cases h2 : k % 5 = 2
  · skip
    exact jr_U C (c_3_hasT hk h2) uw_10_107_6 (by omega) (gg_laneT hk h2) rfl rfl ⟨by omega, by omega⟩ hf hd rfl hro
  · by_cases h3 : k % 5 = 3
    · skip
      exact jr_U C (c_3_hasL hk h3) uw_10_107_4 (by omega) (gg_laneL hk h3) rfl rfl ⟨by omega, by omega⟩ hf hd rfl hro
    · skip
      exact jr_U C (c_3_hasW hk h2 h3) uw_10_107_8 (by omega) (gg_laneW hk h2 h3) rfl rfl ⟨by omega, by omega⟩ hf hd rfl hro
theorem jv_tells {i : Nat} {k : Nat} (C : CX p s m args meth c RX10 cc nL ret D K Ax) (hd : decode cc pc = .ok (.invokevirtual 110, 3)) (hk : k < 20) (hi : i < 24) (ok : okE I U k i) (hR : 2 ≤ R.frames ∧ 49 ≤ R.locals) (hf : cs ≤ R.cells ∧ sl ≤ R.slots) (hro : (rest.map fun v => v.category).sum ≤ 8) : JRun p l e R s m args below meth c nL D Ax K A I U P cs sl pc lv (.int (nI i) :: .ref (A (4 + 2 * k)) :: rest) rest (XE (some (.int (tl I U k i))) I U P) := by
  obtain ⟨hR1, hR2⟩ := hR
  by_cases h2 : k % 5 = 2
  · rw [tl, if_pos h2]
    exact jr_U C (c_7_tells hi (ok.2 h2) hk h2) uw_10_110_6 (by omega) (gg_laneT hk h2) rfl rfl ⟨by omega, by omega⟩ hf hd rfl hro
  · by_cases h3 : k % 5 = 3
    · rw [tl, if_neg h2]
      exact jr_U C (c_5_tells hi (ok.1 h3) hk h3) uw_10_110_4 (by omega) (gg_laneL hk h3) rfl rfl ⟨by omega, by omega⟩ hf hd rfl hro
    · rw [tl, if_neg h2]
      exact jr_U C (c_9_tells hi hk h2 h3) uw_10_110_8 (by omega) (gg_laneW hk h2 h3) rfl rfl ⟨by omega, by omega⟩ hf hd rfl hro
theorem jv_lay {i : Nat} {v : Int32} {k : Nat} (C : CX p s m args meth c RX10 cc nL ret D K Ax) (hd : decode cc pc = .ok (.invokevirtual 195, 3)) (hk : k < 20) (hi : i < 24) (hR : 2 ≤ R.frames ∧ 49 ≤ R.locals) (hf : cs ≤ R.cells ∧ sl ≤ R.slots) (hro : (rest.map fun v => v.category).sum ≤ 8) : JRun p l e R s m args below meth c nL D Ax K A I U P cs sl pc lv (.int v :: .int (nI i) :: .ref (A (4 + 2 * k)) :: rest) rest (XE none (laI k i (cutTo (k % 5) v) I) (laU k i (fHo (f8 v)) U) P) := by
  obtain ⟨hR1, hR2⟩ := hR
  by_cases h2 : k % 5 = 2
  · rw [laI, laU, if_pos h2, if_pos h2]
    exact jr_U C (c_7_lay hi hk h2) uw_10_195_6 (by omega) (gg_laneT hk h2) rfl rfl ⟨by omega, by omega⟩ hf hd rfl hro
  · by_cases h3 : k % 5 = 3
    · rw [laI, laU, if_neg h2, if_neg h2, h3, show cutTo 3 v = v &&& 1 from rfl]
      exact jr_U C (c_5_lay hi hk h3) uw_10_195_4 (by omega) (gg_laneL hk h3) rfl rfl ⟨by omega, by omega⟩ hf hd rfl hro
    · rw [laI, laU, if_neg h2, if_neg h2]
      exact jr_U C (c_9_lay hi hk h2 h3) uw_10_195_8 (by omega) (gg_laneW hk h2 h3) rfl rfl ⟨by omega, by omega⟩ hf hd rfl hro
theorem jv_pull {i : Nat} {v : Int32} {k : Nat} (C : CX p s m args meth c RX10 cc nL ret D K Ax) (hd : decode cc pc = .ok (.invokevirtual 198, 3)) (hk : k < 20) (hi : i < 24) (ok : okE I U k i) (hR : 2 ≤ R.frames ∧ 49 ≤ R.locals) (hf : cs ≤ R.cells ∧ sl ≤ R.slots) (hro : (rest.map fun v => v.category).sum ≤ 8) : JRun p l e R s m args below meth c nL D Ax K A I U P cs sl pc lv (.int v :: .int (nI i) :: .ref (A (4 + 2 * k)) :: rest) rest (XE none (laI k i (vPull (k % 5) (I (5 + 2 * k) i) v) I) (laU k i (fHo (FP.fadd (U (5 + 2 * k) i) (f8 v))) U) P) := by
  obtain ⟨hR1, hR2⟩ := hR
  by_cases h2 : k % 5 = 2
  · rw [laI, laU, if_pos h2, if_pos h2]
    exact jr_U C (c_7_pull hi (ok.2 h2) hk h2) uw_10_198_6 (by omega) (gg_laneT hk h2) rfl rfl ⟨by omega, by omega⟩ hf hd rfl hro
  · by_cases h3 : k % 5 = 3
    · rw [laI, laU, if_neg h2, if_neg h2, vPull, if_pos h3]
      exact jr_U C (c_5_pull hi (ok.1 h3) hk h3) uw_10_198_4 (by omega) (gg_laneL hk h3) rfl rfl ⟨by omega, by omega⟩ hf hd rfl hro
    · rw [laI, laU, if_neg h2, if_neg h2, vPull, if_neg h3]
      exact jr_U C (c_9_pull hi hk h2 h3) uw_10_198_8 (by omega) (gg_laneW hk h2 h3) rfl rfl ⟨by omega, by omega⟩ hf hd rfl hro
theorem jv_turn {i : Nat} {k : Nat} (C : CX p s m args meth c RX10 cc nL ret D K Ax) (hd : decode cc pc = .ok (.invokevirtual 201, 3)) (hk : k < 20) (hi : i < 24) (ok : okE I U k i) (hR : 2 ≤ R.frames ∧ 49 ≤ R.locals) (hf : cs ≤ R.cells ∧ sl ≤ R.slots) (hro : (rest.map fun v => v.category).sum ≤ 8) : JRun p l e R s m args below meth c nL D Ax K A I U P cs sl pc lv (.int (nI i) :: .ref (A (4 + 2 * k)) :: rest) rest (XE none (laI k i (vPull (k % 5) (I (5 + 2 * k) i) 1) I) (laU k i (fHo (FP.fadd (U (5 + 2 * k) i) (f8 8))) U) P) := by
  obtain ⟨hR1, hR2⟩ := hR
  by_cases h2 : k % 5 = 2
  · rw [laI, laU, if_pos h2, if_pos h2]
    exact jr_U C (c_7_turn hi (ok.2 h2) hk h2) uw_10_201_6 (by omega) (gg_laneT hk h2) rfl rfl ⟨by omega, by omega⟩ hf hd rfl hro
  · by_cases h3 : k % 5 = 3
    · rw [laI, laU, if_neg h2, if_neg h2, vPull, if_pos h3]
      exact jr_U C (c_5_turn hi (ok.1 h3) hk h3) uw_10_201_4 (by omega) (gg_laneL hk h3) rfl rfl ⟨by omega, by omega⟩ hf hd rfl hro
    · rw [laI, laU, if_neg h2, if_neg h2, vPull, if_neg h3]
      exact jr_U C (c_9_turn hi hk h2 h3) uw_10_201_8 (by omega) (gg_laneW hk h2 h3) rfl rfl ⟨by omega, by omega⟩ hf hd rfl hro
theorem jv_part {i : Nat} {v : Int32} {k : Nat} (C : CX p s m args meth c RX10 cc nL ret D K Ax) (hd : decode cc pc = .ok (.invokevirtual 204, 3)) (hk : k < 20) (hi : i < 24) (ok : okE I U k i) (hv : ¬ v = 0 ∨ k % 5 = 3) (hR : 2 ≤ R.frames ∧ 49 ≤ R.locals) (hf : cs ≤ R.cells ∧ sl ≤ R.slots) (hro : (rest.map fun v => v.category).sum ≤ 8) : JRun p l e R s m args below meth c nL D Ax K A I U P cs sl pc lv (.int v :: .int (nI i) :: .ref (A (4 + 2 * k)) :: rest) rest (XE (some (.int 1)) (laI k i (vPart (k % 5) (I (5 + 2 * k) i) v) I) (laU k i (fHo (FP.fdiv (U (5 + 2 * k) i) (FP.i2f v))) U) P) := by
  obtain ⟨hR1, hR2⟩ := hR
  by_cases h2 : k % 5 = 2
  · rw [laI, laU, if_pos h2, if_pos h2]
    exact jr_U C (c_7_part (hv.resolve_right (by omega)) hi (ok.2 h2) hk h2) uw_10_204_6 (by omega) (gg_laneT hk h2) rfl rfl ⟨by omega, by omega⟩ hf hd rfl hro
  · by_cases h3 : k % 5 = 3
    · rw [laI, laU, if_neg h2, if_neg h2, vPart, if_pos h3]
      exact jr_U C (c_5_part hi (ok.1 h3) hk h3) uw_10_204_4 (by omega) (gg_laneL hk h3) rfl rfl ⟨by omega, by omega⟩ hf hd rfl hro
    · rw [laI, laU, if_neg h2, if_neg h2, vPart, if_neg h3, part_div]
      exact jr_U C (c_9_part (hv.resolve_right h3) hi hk h2 h3) uw_10_204_8 (by omega) (gg_laneW hk h2 h3) rfl rfl ⟨by omega, by omega⟩ hf hd rfl hro
theorem jv_part0 {x : Int32} {k : Nat} (C : CX p s m args meth c RX10 cc nL ret D K Ax) (hd : decode cc pc = .ok (.invokevirtual 204, 3)) (hk : k < 20) (h3 : ¬ k % 5 = 3) (hR : 2 ≤ R.frames ∧ 49 ≤ R.locals) (hf : cs ≤ R.cells ∧ sl ≤ R.slots) (hro : (rest.map fun v => v.category).sum ≤ 8) : JRun p l e R s m args below meth c nL D Ax K A I U P cs sl pc lv (.int 0 :: .int x :: .ref (A (4 + 2 * k)) :: rest) rest (XE (some (.int 0)) I U P) := by
  obtain ⟨hR1, hR2⟩ := hR
  by_cases h2 : k % 5 = 2
  · skip
    exact jr_U C (c_7_part0 hk h2) uw_10_204_6 (by omega) (gg_laneT hk h2) rfl rfl ⟨by omega, by omega⟩ hf hd rfl hro
  · exact jr_U C (c_9_part0 hk h2 h3) uw_10_204_8 (by omega) (gg_laneW hk h2 h3) rfl rfl ⟨by omega, by omega⟩ hf hd rfl hro
theorem jv_exchange {i j : Nat} {k : Nat} (C : CX p s m args meth c RX10 cc nL ret D K Ax) (hd : decode cc pc = .ok (.invokevirtual 113, 3)) (hk : k < 20) (hi : i < 24) (hj : j < 24) (ok : okE I U k i) (ok2 : okE I U k j) (hR : 2 ≤ R.frames ∧ 49 ≤ R.locals) (hf : cs ≤ R.cells ∧ sl ≤ R.slots) (hro : (rest.map fun v => v.category).sum ≤ 8) : JRun p l e R s m args below meth c nL D Ax K A I U P cs sl pc lv (.int (nI j) :: .int (nI i) :: .ref (A (4 + 2 * k)) :: rest) rest (XE none (swI k i j I) (swU k i j U) P) := by
  obtain ⟨hR1, hR2⟩ := hR
  by_cases h2 : k % 5 = 2
  · rw [swI, swU, if_pos h2, if_pos h2]
    exact jr_U C (c_7_exchange hi hj hk h2) uw_10_113_6 (by omega) (gg_laneT hk h2) rfl rfl ⟨by omega, by omega⟩ hf hd rfl hro
  · by_cases h3 : k % 5 = 3
    · rw [swI, swU, if_neg h2, if_neg h2]
      exact jr_U C (c_5_exchange hi hj (ok.1 h3) (ok2.1 h3) hk h3) uw_10_113_4 (by omega) (gg_laneL hk h3) rfl rfl ⟨by omega, by omega⟩ hf hd rfl hro
    · rw [swI, swU, if_neg h2, if_neg h2]
      exact jr_U C (c_9_exchange hi hj hk h2 h3) uw_10_113_8 (by omega) (gg_laneW hk h2 h3) rfl rfl ⟨by omega, by omega⟩ hf hd rfl hro
theorem jv_reset {i : Nat} {k : Nat} (C : CX p s m args meth c RX3 cc nL ret D K Ax) (hd : decode cc pc = .ok (.invokevirtual 15, 3)) (hk : k < 20) (hi : i < 24) (hR : 2 ≤ R.frames ∧ 49 ≤ R.locals) (hf : cs ≤ R.cells ∧ sl ≤ R.slots) (hro : (rest.map fun v => v.category).sum ≤ 8) : JRun p l e R s m args below meth c nL D Ax K A I U P cs sl pc lv (.int (nI i) :: .ref (A (4 + 2 * k)) :: rest) rest (XE none (laI k i 0 I) (laU k i FP.fconst0 U) P) := by
  obtain ⟨hR1, hR2⟩ := hR
  by_cases h2 : k % 5 = 2
  · rw [laI, laU, if_pos h2, if_pos h2]
    exact jr_U C (c_7_reset hi hk h2) uw_3_15_6 (by omega) (gg_laneT hk h2) rfl rfl ⟨by omega, by omega⟩ hf hd rfl hro
  · by_cases h3 : k % 5 = 3
    · rw [laI, laU, if_neg h2, if_neg h2]
      exact jr_U C (c_5_reset hi hk h3) uw_3_15_4 (by omega) (gg_laneL hk h3) rfl rfl ⟨by omega, by omega⟩ hf hd rfl hro
    · rw [laI, laU, if_neg h2, if_neg h2]
      exact jr_U C (c_9_reset hi hk h2 h3) uw_3_15_8 (by omega) (gg_laneW hk h2 h3) rfl rfl ⟨by omega, by omega⟩ hf hd rfl hro
end CALLR
/-- a lane threaded anew with n ends: u of them are reset -/
def rsJ (k n u : Nat) (I : TI) : TI := fun a b => if a = 4 + 2 * k ∧ b = 0 then nI n else if ¬ k % 5 = 2 ∧ a = 5 + 2 * k ∧ b < u then 0 else I a b
def rsV (k u : Nat) (U : TU) : TU := fun a b => if k % 5 = 2 ∧ a = 5 + 2 * k ∧ b < u then FP.fconst0 else U a b
theorem rsJ_c {k n u : Nat} {I : TI} : rsJ k n u I (4 + 2 * k) 0 = nI n := by simp [rsJ]
theorem rsJ_0 {k n : Nat} {I : TI} : up2 I (4 + 2 * k) 0 (nI n) = rsJ k n 0 I := by
  funext a b
  simp [up2, rsJ]
theorem rsV_0 {k : Nat} {U : TU} : rsV k 0 U = U := by
  funext a b
  simp [rsV]
theorem rsJ_s {k n u : Nat} {I : TI} : laI k u 0 (rsJ k n u I) = rsJ k n (u + 1) I := by
  unfold laI
  split
  · next h => funext a b; simp [rsJ, h]
  · next h =>
    funext a b
    simp only [up2, rsJ]
    by_cases h1 : a = 5 + 2 * k
    · subst h1
      rw [if_neg (show ¬ (5 + 2 * k = 4 + 2 * k ∧ b = 0) by omega), if_neg (show ¬ (5 + 2 * k = 4 + 2 * k ∧ b = 0) by omega)]
      by_cases hb : b = u
      · subst hb; simp [h]
      · by_cases hb2 : b < u
        · simp [h, hb, hb2, show b < u + 1 by omega]
        · simp [h, hb, hb2, show ¬ b < u + 1 by omega]
    · simp [h1]
theorem rsV_s {k u : Nat} {U : TU} : laU k u FP.fconst0 (rsV k u U) = rsV k (u + 1) U := by
  unfold laU
  split
  · next h =>
    funext a b
    simp only [up2, rsV]
    by_cases h1 : a = 5 + 2 * k
    · subst h1
      by_cases hb : b = u
      · subst hb; simp [h]
      · by_cases hb2 : b < u
        · simp [h, hb, hb2, show b < u + 1 by omega]
        · simp [h, hb, hb2, show ¬ b < u + 1 by omega]
    · simp [h1]
  · next h => funext a b; simp [rsV, h]
set_option maxRecDepth 100000 in
set_option maxHeartbeats 4000000 in
theorem lp_3_restretchW {p : Program} {l : Launch} {e : Env} {R : Room} {s : State} {m : MethodId} {args : Array Value} {below : List Frame} {meth : Method} {c : Code} {D : va_G} {K : Nat → ClassId} {A : Nat → Nat} {Ax : Nat → Prop} {Q : State → Prop} {P : TP} {I : TI} {U : TU} {k n : Nat} (C : CX p s m args meth c RX3 cX3_restretch 3 none D K Ax) (hk : k < 20) (h2 : ¬ k % 5 = 2) (h3 : ¬ k % 5 = 3) (hn : n ≤ 24) (hR : 2 ≤ R.frames ∧ 49 ≤ R.locals) (hz : GJ p l e R s m args below meth c 3 D Ax Q 75 A (gg A K (rsJ k n n I) (rsV k n U) (P)) 0 0 40 [some (.ref (A (4 + 2 * k))), some (.int (nI n)), some (.int (nI (n)))] []) : ∀ f u : Nat, u + f = n → GJ p l e R s m args below meth c 3 D Ax Q 75 A (gg A K (rsJ k n u I) (rsV k u U) (P)) 0 0 21 [some (.ref (A (4 + 2 * k))), some (.int (nI n)), some (.int (nI (u)))] [] := by
  intro f
  induction f with
  | zero =>
    intro u hu
    obtain rfl : u = n := by omega
    refine jx_iload_n C dX3_restretch_21 rfl ?_
    refine jx_aload_n C dX3_restretch_22 rfl ?_
    refine jx_get C fl_3_9_8 dX3_restretch_23 (by omega) (gg_laneW hk h2 h3) rfl ?_
    rw [rsJ_c]
    refine jx_ic_geT (tgt := 40) C dX3_restretch_26 (by decide) (nI_le (Nat.le_refl _) (by omega)) ?_
    exact hz
  | succ f ih =>
    intro u hu
    refine jx_iload_n C dX3_restretch_21 rfl ?_
    refine jx_aload_n C dX3_restretch_22 rfl ?_
    refine jx_get C fl_3_9_8 dX3_restretch_23 (by omega) (gg_laneW hk h2 h3) rfl ?_
    rw [rsJ_c]
    refine jx_ic_geF (tgt := 40) C dX3_restretch_26 (nI_ge (by omega) (by omega)) (by decide) ?_
    refine jx_aload_n C dX3_restretch_29 rfl ?_
    refine jx_iload_n C dX3_restretch_30 rfl ?_
    refine jx_void C (jv_reset C dX3_restretch_31 hk (by omega) hR ⟨Nat.zero_le _, Nat.zero_le _⟩ (Nat.le_of_ble_eq_true rfl)) ?_
    rw [rsJ_s, rsV_s]
    refine jx_iinc (lv1 := [_, _, _]) C dX3_restretch_34 rfl (nI_1 u) rfl ?_
    refine jx_goto (tgt := 21) C dX3_restretch_37 (by decide) ?_
    exact ih (u + 1) (by omega)
set_option maxRecDepth 100000 in
set_option maxHeartbeats 4000000 in
theorem c_3_restretchW {l : Launch} {D : va_G} {K : Nat → ClassId} {A : Nat → Nat} {I : TI} {U : TU} {P : TP} {k n : Nat} (hk : k < 20) (hn : n ≤ 24) (h2 : ¬ k % 5 = 2) (h3 : ¬ k % 5 = 3) : MM l yX3_restretch cX3_restretch 3 none 2 D K A (I) (U) (P) [.ref (A (4 + 2 * k)), .int (nI n)] (XE none (rsJ k n n I) (rsV k n U) P) := by
  refine MM.go (own := RX3) (lv0 := [some (.ref (A (4 + 2 * k))), some (.int (nI n)), none]) rfl (by decide) rfl (Nat.le_of_ble_eq_true rfl) rfl ?_
  intro p e s m args below meth c C
  refine jx_aload_n C dX3_restretch_0 rfl ?_
  refine jx_iload_n C dX3_restretch_1 rfl ?_
  refine jx_if_ltF (tgt := 15) C dX3_restretch_2 (nI_pos (by omega)) (by decide) ?_
  refine jx_iload_n C dX3_restretch_5 rfl ?_
  refine jx_bipush (v := 24) C dX3_restretch_6 (by decide) ?_
  refine jx_ic_gtF (tgt := 15) C dX3_restretch_8 (nI_nlt (a := 24) (b := n) (by omega) (by decide)) (by decide) ?_
  refine jx_iload_n C dX3_restretch_11 rfl ?_
  refine jx_goto (tgt := 16) C dX3_restretch_12 (by decide) ?_
  refine jx_putI C fp_3_9_8 dX3_restretch_16 (by omega) (gg_laneW hk h2 h3) (Nat.le_of_ble_eq_true rfl) (by rw [gg_laneW hk h2 h3]; simp [up2]) ?_
  refine jx_iconst (v := 0) C dX3_restretch_19 (by decide) ?_
  refine jx_istore_n (lv1 := [_, _, _]) C dX3_restretch_20 (by decide) rfl ?_
  rw [rsJ_0]
  have e0 := lp_3_restretchW (U := U) (I := I) (P := P) (l := l) (e := e) (R := rmd 2) (A := A) (below := below) (Q := MQX below D K A args s (XE none (rsJ k n n I) (rsV k n U) P)) C hk h2 h3 hn ⟨by decide, by decide⟩ (jx_vret C dX3_restretch_40 ⟨rfl, rfl, rfl, rfl⟩) n 0 (by omega)
  rw [rsV_0] at e0
  exact e0
set_option maxRecDepth 100000 in
set_option maxHeartbeats 4000000 in
theorem lp_3_restretchT {p : Program} {l : Launch} {e : Env} {R : Room} {s : State} {m : MethodId} {args : Array Value} {below : List Frame} {meth : Method} {c : Code} {D : va_G} {K : Nat → ClassId} {A : Nat → Nat} {Ax : Nat → Prop} {Q : State → Prop} {P : TP} {I : TI} {U : TU} {k n : Nat} (C : CX p s m args meth c RX3 cX3_restretch 3 none D K Ax) (hk : k < 20) (h2 : k % 5 = 2) (hn : n ≤ 24) (hR : 2 ≤ R.frames ∧ 49 ≤ R.locals) (hz : GJ p l e R s m args below meth c 3 D Ax Q 75 A (gg A K (rsJ k n n I) (rsV k n U) (P)) 0 0 40 [some (.ref (A (4 + 2 * k))), some (.int (nI n)), some (.int (nI (n)))] []) : ∀ f u : Nat, u + f = n → GJ p l e R s m args below meth c 3 D Ax Q 75 A (gg A K (rsJ k n u I) (rsV k u U) (P)) 0 0 21 [some (.ref (A (4 + 2 * k))), some (.int (nI n)), some (.int (nI (u)))] [] := by
  intro f
  induction f with
  | zero =>
    intro u hu
    obtain rfl : u = n := by omega
    refine jx_iload_n C dX3_restretch_21 rfl ?_
    refine jx_aload_n C dX3_restretch_22 rfl ?_
    refine jx_get C fl_3_9_6 dX3_restretch_23 (by omega) (gg_laneT hk h2) rfl ?_
    rw [rsJ_c]
    refine jx_ic_geT (tgt := 40) C dX3_restretch_26 (by decide) (nI_le (Nat.le_refl _) (by omega)) ?_
    exact hz
  | succ f ih =>
    intro u hu
    refine jx_iload_n C dX3_restretch_21 rfl ?_
    refine jx_aload_n C dX3_restretch_22 rfl ?_
    refine jx_get C fl_3_9_6 dX3_restretch_23 (by omega) (gg_laneT hk h2) rfl ?_
    rw [rsJ_c]
    refine jx_ic_geF (tgt := 40) C dX3_restretch_26 (nI_ge (by omega) (by omega)) (by decide) ?_
    refine jx_aload_n C dX3_restretch_29 rfl ?_
    refine jx_iload_n C dX3_restretch_30 rfl ?_
    refine jx_void C (jv_reset C dX3_restretch_31 hk (by omega) hR ⟨Nat.zero_le _, Nat.zero_le _⟩ (Nat.le_of_ble_eq_true rfl)) ?_
    rw [rsJ_s, rsV_s]
    refine jx_iinc (lv1 := [_, _, _]) C dX3_restretch_34 rfl (nI_1 u) rfl ?_
    refine jx_goto (tgt := 21) C dX3_restretch_37 (by decide) ?_
    exact ih (u + 1) (by omega)
set_option maxRecDepth 100000 in
set_option maxHeartbeats 4000000 in
theorem c_3_restretchT {l : Launch} {D : va_G} {K : Nat → ClassId} {A : Nat → Nat} {I : TI} {U : TU} {P : TP} {k n : Nat} (hk : k < 20) (hn : n ≤ 24) (h2 : k % 5 = 2) : MM l yX3_restretch cX3_restretch 3 none 2 D K A (I) (U) (P) [.ref (A (4 + 2 * k)), .int (nI n)] (XE none (rsJ k n n I) (rsV k n U) P) := by
  refine MM.go (own := RX3) (lv0 := [some (.ref (A (4 + 2 * k))), some (.int (nI n)), none]) rfl (by decide) rfl (Nat.le_of_ble_eq_true rfl) rfl ?_
  intro p e s m args below meth c C
  refine jx_aload_n C dX3_restretch_0 rfl ?_
  refine jx_iload_n C dX3_restretch_1 rfl ?_
  refine jx_if_ltF (tgt := 15) C dX3_restretch_2 (nI_pos (by omega)) (by decide) ?_
  refine jx_iload_n C dX3_restretch_5 rfl ?_
  refine jx_bipush (v := 24) C dX3_restretch_6 (by decide) ?_
  refine jx_ic_gtF (tgt := 15) C dX3_restretch_8 (nI_nlt (a := 24) (b := n) (by omega) (by decide)) (by decide) ?_
  refine jx_iload_n C dX3_restretch_11 rfl ?_
  refine jx_goto (tgt := 16) C dX3_restretch_12 (by decide) ?_
  refine jx_putI C fp_3_9_6 dX3_restretch_16 (by omega) (gg_laneT hk h2) (Nat.le_of_ble_eq_true rfl) (by rw [gg_laneT hk h2]; simp [up2]) ?_
  refine jx_iconst (v := 0) C dX3_restretch_19 (by decide) ?_
  refine jx_istore_n (lv1 := [_, _, _]) C dX3_restretch_20 (by decide) rfl ?_
  rw [rsJ_0]
  have e0 := lp_3_restretchT (U := U) (I := I) (P := P) (l := l) (e := e) (R := rmd 2) (A := A) (below := below) (Q := MQX below D K A args s (XE none (rsJ k n n I) (rsV k n U) P)) C hk h2 hn ⟨by decide, by decide⟩ (jx_vret C dX3_restretch_40 ⟨rfl, rfl, rfl, rfl⟩) n 0 (by omega)
  rw [rsV_0] at e0
  exact e0
set_option maxRecDepth 100000 in
set_option maxHeartbeats 4000000 in
theorem lp_3_restretchL {p : Program} {l : Launch} {e : Env} {R : Room} {s : State} {m : MethodId} {args : Array Value} {below : List Frame} {meth : Method} {c : Code} {D : va_G} {K : Nat → ClassId} {A : Nat → Nat} {Ax : Nat → Prop} {Q : State → Prop} {P : TP} {I : TI} {U : TU} {k n : Nat} (C : CX p s m args meth c RX3 cX3_restretch 3 none D K Ax) (hk : k < 20) (h3 : k % 5 = 3) (hn : n ≤ 24) (hR : 2 ≤ R.frames ∧ 49 ≤ R.locals) (hz : GJ p l e R s m args below meth c 3 D Ax Q 75 A (gg A K (rsJ k n n I) (rsV k n U) (P)) 0 0 40 [some (.ref (A (4 + 2 * k))), some (.int (nI n)), some (.int (nI (n)))] []) : ∀ f u : Nat, u + f = n → GJ p l e R s m args below meth c 3 D Ax Q 75 A (gg A K (rsJ k n u I) (rsV k u U) (P)) 0 0 21 [some (.ref (A (4 + 2 * k))), some (.int (nI n)), some (.int (nI (u)))] [] := by
  intro f
  induction f with
  | zero =>
    intro u hu
    obtain rfl : u = n := by omega
    refine jx_iload_n C dX3_restretch_21 rfl ?_
    refine jx_aload_n C dX3_restretch_22 rfl ?_
    refine jx_get C fl_3_9_4 dX3_restretch_23 (by omega) (gg_laneL hk h3) rfl ?_
    rw [rsJ_c]
    refine jx_ic_geT (tgt := 40) C dX3_restretch_26 (by decide) (nI_le (Nat.le_refl _) (by omega)) ?_
    exact hz
  | succ f ih =>
    intro u hu
    refine jx_iload_n C dX3_restretch_21 rfl ?_
    refine jx_aload_n C dX3_restretch_22 rfl ?_
    refine jx_get C fl_3_9_4 dX3_restretch_23 (by omega) (gg_laneL hk h3) rfl ?_
    rw [rsJ_c]
    refine jx_ic_geF (tgt := 40) C dX3_restretch_26 (nI_ge (by omega) (by omega)) (by decide) ?_
    refine jx_aload_n C dX3_restretch_29 rfl ?_
    refine jx_iload_n C dX3_restretch_30 rfl ?_
    refine jx_void C (jv_reset C dX3_restretch_31 hk (by omega) hR ⟨Nat.zero_le _, Nat.zero_le _⟩ (Nat.le_of_ble_eq_true rfl)) ?_
    rw [rsJ_s, rsV_s]
    refine jx_iinc (lv1 := [_, _, _]) C dX3_restretch_34 rfl (nI_1 u) rfl ?_
    refine jx_goto (tgt := 21) C dX3_restretch_37 (by decide) ?_
    exact ih (u + 1) (by omega)
set_option maxRecDepth 100000 in
set_option maxHeartbeats 4000000 in
theorem c_3_restretchL {l : Launch} {D : va_G} {K : Nat → ClassId} {A : Nat → Nat} {I : TI} {U : TU} {P : TP} {k n : Nat} (hk : k < 20) (hn : n ≤ 24) (h3 : k % 5 = 3) : MM l yX3_restretch cX3_restretch 3 none 2 D K A (I) (U) (P) [.ref (A (4 + 2 * k)), .int (nI n)] (XE none (rsJ k n n I) (rsV k n U) P) := by
  refine MM.go (own := RX3) (lv0 := [some (.ref (A (4 + 2 * k))), some (.int (nI n)), none]) rfl (by decide) rfl (Nat.le_of_ble_eq_true rfl) rfl ?_
  intro p e s m args below meth c C
  refine jx_aload_n C dX3_restretch_0 rfl ?_
  refine jx_iload_n C dX3_restretch_1 rfl ?_
  refine jx_if_ltF (tgt := 15) C dX3_restretch_2 (nI_pos (by omega)) (by decide) ?_
  refine jx_iload_n C dX3_restretch_5 rfl ?_
  refine jx_bipush (v := 24) C dX3_restretch_6 (by decide) ?_
  refine jx_ic_gtF (tgt := 15) C dX3_restretch_8 (nI_nlt (a := 24) (b := n) (by omega) (by decide)) (by decide) ?_
  refine jx_iload_n C dX3_restretch_11 rfl ?_
  refine jx_goto (tgt := 16) C dX3_restretch_12 (by decide) ?_
  refine jx_putI C fp_3_9_4 dX3_restretch_16 (by omega) (gg_laneL hk h3) (Nat.le_of_ble_eq_true rfl) (by rw [gg_laneL hk h3]; simp [up2]) ?_
  refine jx_iconst (v := 0) C dX3_restretch_19 (by decide) ?_
  refine jx_istore_n (lv1 := [_, _, _]) C dX3_restretch_20 (by decide) rfl ?_
  rw [rsJ_0]
  have e0 := lp_3_restretchL (U := U) (I := I) (P := P) (l := l) (e := e) (R := rmd 2) (A := A) (below := below) (Q := MQX below D K A args s (XE none (rsJ k n n I) (rsV k n U) P)) C hk h3 hn ⟨by decide, by decide⟩ (jx_vret C dX3_restretch_40 ⟨rfl, rfl, rfl, rfl⟩) n 0 (by omega)
  rw [rsV_0] at e0
  exact e0
section CALLR2
variable {p : Program} {l : Launch} {e : Env} {R : Room} {s : State} {m : MethodId} {args : Array Value} {below : List Frame} {meth : Method} {c : Code} {nL : Nat} {D : va_G} {Ax : Nat → Prop} {Q : State → Prop} {cs sl pc : Nat} {lv : List (Option Value)} {st rest : List Value} {own : String} {cc : ByteArray} {ret : Option FieldType} {K : Nat → ClassId} {A : Nat → Nat} {I : TI} {U : TU} {P : TP}
theorem jv_restretch {n : Nat} {k : Nat} (C : CX p s m args meth c RX8 cc nL ret D K Ax) (hd : decode cc pc = .ok (.invokevirtual 58, 3)) (hk : k < 20) (hn : n ≤ 24) (hR : 3 ≤ R.frames ∧ 75 ≤ R.locals) (hf : cs ≤ R.cells ∧ sl ≤ R.slots) (hro : (rest.map fun v => v.category).sum ≤ 8) : JRun p l e R s m args below meth c nL D Ax K A I U P cs sl pc lv (.int (nI n) :: .ref (A (4 + 2 * k)) :: rest) rest (XE none (rsJ k n n I) (rsV k n U) P) := by
  obtain ⟨hR1, hR2⟩ := hR
  by_cases h2 : k % 5 = 2
  · skip
    exact jr_U C (c_3_restretchT hk hn h2) uw_8_58_6 (by omega) (gg_laneT hk h2) rfl rfl ⟨by omega, by omega⟩ hf hd rfl hro
  · by_cases h3 : k % 5 = 3
    · skip
      exact jr_U C (c_3_restretchL hk hn h3) uw_8_58_4 (by omega) (gg_laneL hk h3) rfl rfl ⟨by omega, by omega⟩ hf hd rfl hro
    · skip
      exact jr_U C (c_3_restretchW hk hn h2 h3) uw_8_58_8 (by omega) (gg_laneW hk h2 h3) rfl rfl ⟨by omega, by omega⟩ hf hd rfl hro
end CALLR2
theorem pl5 (a b : Nat) : nI a * 5 + nI b = nI (5 * a + b) := by
  rw [show (5 : Int32) = nI 5 from rfl, pk_mul, nI_add, Nat.mul_comm]
/-- the address of a lane, or null -/
abbrev lnV (A : Nat → Nat) (r : Option Nat) : Value := va_rf (r.map (fun k => A (4 + 2 * k)))
theorem lnV_or {A : Nat → Nat} {r : Option Nat} : lnV A r = .null ∨ ∃ a, lnV A r = .ref a := va_rf_or _
/-- the lanes that the places have are lanes -/
def okP (P : TP) : Prop := ∀ j k, j < 20 → P j = some k → k < 20 ∧ k % 5 = j % 5
abbrev heldBy (P : TP) (b k : Nat) : Prop := P (5 * 0 + b) = some k ∨ P (5 * 1 + b) = some k ∨ P (5 * 2 + b) = some k ∨ P (5 * 3 + b) = some k
theorem ln_eq {A : Nat → Nat} {P : TP} {j k : Nat} (inj : ∀ i j, i < 75 → j < 75 → A i = A j → i = j) (hP : okP P) (hj : j < 20) (hk : k < 20) : (P j).map (fun k => A (4 + 2 * k)) = some (A (4 + 2 * k)) ↔ P j = some k := by
  cases h : P j with
  | none => simp
  | some r =>
    have hr := (hP j r hj h).1
    simp only [Option.map_some, Option.some.injEq]
    constructor
    · intro q
      have := inj _ _ (by omega) (by omega) q
      omega
    · intro q
      rw [q]
theorem spare {P : TP} {a b : Nat} (ha : a < 4) (h : P (5 * a + b) = none) (h0 : heldBy P b (5 * 0 + b)) (h1 : heldBy P b (5 * 1 + b)) (h2 : heldBy P b (5 * 2 + b)) (h3 : heldBy P b (5 * 3 + b)) : False := by
  have key : ∀ (x0 x1 x2 x3 : Int), (x0 = -1 ∨ x1 = -1 ∨ x2 = -1 ∨ x3 = -1) → (x0 = 5 * 0 + b ∨ x1 = 5 * 0 + b ∨ x2 = 5 * 0 + b ∨ x3 = 5 * 0 + b) → (x0 = 5 * 1 + b ∨ x1 = 5 * 1 + b ∨ x2 = 5 * 1 + b ∨ x3 = 5 * 1 + b) → (x0 = 5 * 2 + b ∨ x1 = 5 * 2 + b ∨ x2 = 5 * 2 + b ∨ x3 = 5 * 2 + b) → (x0 = 5 * 3 + b ∨ x1 = 5 * 3 + b ∨ x2 = 5 * 3 + b ∨ x3 = 5 * 3 + b) → False := by
    intro x0 x1 x2 x3 e q0 q1 q2 q3
    rcases e with e | e | e | e <;> omega
  let f : Option Nat → Int := fun r => match r with
    | none => -1
    | some k => k
  have g : ∀ j k, P j = some k → f (P j) = (k : Int) := fun j k h => by rw [h]
  refine key (f (P (5 * 0 + b))) (f (P (5 * 1 + b))) (f (P (5 * 2 + b))) (f (P (5 * 3 + b))) ?_ ?_ ?_ ?_ ?_
  · have e : f (P (5 * a + b)) = -1 := by rw [h]
    rcases (show a = 0 ∨ a = 1 ∨ a = 2 ∨ a = 3 by omega) with rfl | rfl | rfl | rfl <;> simp only [e, true_or, or_true]
  · rcases h0 with q | q | q | q <;> have := g _ _ q <;> omega
  · rcases h1 with q | q | q | q <;> have := g _ _ q <;> omega
  · rcases h2 with q | q | q | q <;> have := g _ _ q <;> omega
  · rcases h3 with q | q | q | q <;> have := g _ _ q <;> omega
set_option maxRecDepth 100000 in
set_option maxHeartbeats 4000000 in
theorem c_8_laneAt {l : Launch} {D : va_G} {K : Nat → ClassId} {A : Nat → Nat} {I : TI} {U : TU} {P : TP} {a b : Nat} (ha : a < 4) (hb : b < 5) : MM l yX8_laneAt cX8_laneAt 3 (some (.object "HandLoom$Lane")) 2 D K A (I) (U) (P) [.ref (A 1), .int (nI a), .int (nI b)] (XE (some (lnV A (P (5 * a + b)))) I U P) := by
  refine MM.go (own := RX8) (lv0 := [some (.ref (A 1)), some (.int (nI a)), some (.int (nI b))]) rfl (by decide) rfl (Nat.le_of_ble_eq_true rfl) rfl ?_
  intro p e s m args below meth c C
  refine jx_iload_n C dX8_laneAt_0 rfl ?_
  refine jx_iload_n C dX8_laneAt_1 rfl ?_
  refine jx_one C (jr_S C (c_8_isLane) sw_8_39 rfl ⟨Nat.le_of_ble_eq_true rfl, Nat.le_of_ble_eq_true rfl⟩ ⟨Nat.le_of_ble_eq_true rfl, Nat.le_of_ble_eq_true rfl⟩ dX8_laneAt_2 rfl (Nat.le_of_ble_eq_true rfl)) ?_
  rw [bI_t ⟨inF_nI ha, inS_nI hb⟩]
  refine jx_if_eqF (tgt := 21) C dX8_laneAt_5 (by decide) (by decide) ?_
  refine jx_aload_n C dX8_laneAt_8 rfl ?_
  refine jx_get C fl_8_17_7 dX8_laneAt_9 (by decide) gg_1 rfl ?_
  refine jx_iload_n C dX8_laneAt_12 rfl ?_
  refine jx_iload_n C dX8_laneAt_13 rfl ?_
  refine jx_one C (jr_S C (c_8_place) sw_8_43 rfl ⟨Nat.le_of_ble_eq_true rfl, Nat.le_of_ble_eq_true rfl⟩ ⟨Nat.le_of_ble_eq_true rfl, Nat.le_of_ble_eq_true rfl⟩ dX8_laneAt_14 rfl (Nat.le_of_ble_eq_true rfl)) ?_
  refine jx_aald3 (5 * a + b) C dX8_laneAt_17 (by decide) gg_3 (pl5 a b) (by omega) (by decide) ?_
  refine jx_goto (tgt := 22) C dX8_laneAt_18 (by decide) ?_
  exact jx_aret C dX8_laneAt_22 lnV_or ⟨rfl, rfl, rfl, rfl⟩
set_option maxRecDepth 100000 in
set_option maxHeartbeats 4000000 in
theorem c_8_loosen {l : Launch} {D : va_G} {K : Nat → ClassId} {A : Nat → Nat} {I : TI} {U : TU} {P : TP} {a b : Nat} (ha : a < 4) (hb : b < 5) : MM l yX8_loosen cX8_loosen 3 none 2 D K A (I) (U) (P) [.ref (A 1), .int (nI a), .int (nI b)] (XE none I U (va_up P (5 * a + b) none)) := by
  refine MM.go (own := RX8) (lv0 := [some (.ref (A 1)), some (.int (nI a)), some (.int (nI b))]) rfl (by decide) rfl (Nat.le_of_ble_eq_true rfl) rfl ?_
  intro p e s m args below meth c C
  refine jx_iload_n C dX8_loosen_0 rfl ?_
  refine jx_iload_n C dX8_loosen_1 rfl ?_
  refine jx_one C (jr_S C (c_8_isLane) sw_8_39 rfl ⟨Nat.le_of_ble_eq_true rfl, Nat.le_of_ble_eq_true rfl⟩ ⟨Nat.le_of_ble_eq_true rfl, Nat.le_of_ble_eq_true rfl⟩ dX8_loosen_2 rfl (Nat.le_of_ble_eq_true rfl)) ?_
  rw [bI_t ⟨inF_nI ha, inS_nI hb⟩]
  refine jx_if_eqF (tgt := 19) C dX8_loosen_5 (by decide) (by decide) ?_
  refine jx_aload_n C dX8_loosen_8 rfl ?_
  refine jx_get C fl_8_17_7 dX8_loosen_9 (by decide) gg_1 rfl ?_
  refine jx_iload_n C dX8_loosen_12 rfl ?_
  refine jx_iload_n C dX8_loosen_13 rfl ?_
  refine jx_one C (jr_S C (c_8_place) sw_8_43 rfl ⟨Nat.le_of_ble_eq_true rfl, Nat.le_of_ble_eq_true rfl⟩ ⟨Nat.le_of_ble_eq_true rfl, Nat.le_of_ble_eq_true rfl⟩ dX8_loosen_14 rfl (Nat.le_of_ble_eq_true rfl)) ?_
  refine jx_null C dX8_loosen_17 ?_
  refine jx_lnN (5 * a + b) C dX8_loosen_18 (pl5 a b) (by omega) ?_
  exact jx_vret C dX8_loosen_19 ⟨rfl, rfl, rfl, rfl⟩
set_option maxRecDepth 100000 in
set_option maxHeartbeats 4000000 in
theorem c_8_join {l : Launch} {D : va_G} {K : Nat → ClassId} {A : Nat → Nat} {I : TI} {U : TU} {P : TP} {a b o : Nat} (ha : a < 4) (hb : b < 5) (ho : o < 4) (hP : okP P) : MM l yX8_join cX8_join 4 none 3 D K A (I) (U) (P) [.ref (A 1), .int (nI a), .int (nI b), .int (nI o)] (XE none I U (va_up P (5 * a + b) (P (5 * o + b)))) := by
  refine MM.go (own := RX8) (lv0 := [some (.ref (A 1)), some (.int (nI a)), some (.int (nI b)), some (.int (nI o))]) rfl (by decide) rfl (Nat.le_of_ble_eq_true rfl) rfl ?_
  intro p e s m args below meth c C
  refine jx_iload_n C dX8_join_0 rfl ?_
  refine jx_iload_n C dX8_join_1 rfl ?_
  refine jx_one C (jr_S C (c_8_isLane) sw_8_39 rfl ⟨Nat.le_of_ble_eq_true rfl, Nat.le_of_ble_eq_true rfl⟩ ⟨Nat.le_of_ble_eq_true rfl, Nat.le_of_ble_eq_true rfl⟩ dX8_join_2 rfl (Nat.le_of_ble_eq_true rfl)) ?_
  rw [bI_t ⟨inF_nI ha, inS_nI hb⟩]
  refine jx_if_eqF (tgt := 24) C dX8_join_5 (by decide) (by decide) ?_
  refine jx_aload_n C dX8_join_8 rfl ?_
  refine jx_get C fl_8_17_7 dX8_join_9 (by decide) gg_1 rfl ?_
  refine jx_iload_n C dX8_join_12 rfl ?_
  refine jx_iload_n C dX8_join_13 rfl ?_
  refine jx_one C (jr_S C (c_8_place) sw_8_43 rfl ⟨Nat.le_of_ble_eq_true rfl, Nat.le_of_ble_eq_true rfl⟩ ⟨Nat.le_of_ble_eq_true rfl, Nat.le_of_ble_eq_true rfl⟩ dX8_join_14 rfl (Nat.le_of_ble_eq_true rfl)) ?_
  refine jx_aload_n C dX8_join_17 rfl ?_
  refine jx_iload_n C dX8_join_18 rfl ?_
  refine jx_iload_n C dX8_join_19 rfl ?_
  refine jx_one C (jr_V C (c_8_laneAt ho hb) vw_8_47 (by decide) gg_1 rfl rfl ⟨Nat.le_of_ble_eq_true rfl, Nat.le_of_ble_eq_true rfl⟩ ⟨Nat.le_of_ble_eq_true rfl, Nat.le_of_ble_eq_true rfl⟩ dX8_join_20 rfl (Nat.le_of_ble_eq_true rfl)) ?_
  cases hx : P (5 * o + b) with
  | none =>
    refine jx_lnN (5 * a + b) C dX8_join_23 (pl5 a b) (by omega) ?_
    exact jx_vret C dX8_join_24 ⟨rfl, rfl, rfl, rfl⟩
  | some r =>
    refine jx_ln (k := r) (5 * a + b) C dX8_join_23 (hP _ _ (by omega) hx).1 (pl5 a b) (by omega) ?_
    exact jx_vret C dX8_join_24 ⟨rfl, rfl, rfl, rfl⟩
set_option maxRecDepth 100000 in
set_option maxHeartbeats 4000000 in
theorem c_8_isHeld {l : Launch} {D : va_G} {K : Nat → ClassId} {A : Nat → Nat} {I : TI} {U : TU} {P : TP} {b k : Nat} (hb : b < 5) (hk : k < 20) (hP : okP P) : MM l yX8_isHeld cX8_isHeld 4 (some .boolean) 1 D K A (I) (U) (P) [.ref (A 1), .ref (A (4 + 2 * k)), .int (nI b)] (XE (some (.int (bI (heldBy P b k)))) I U P) := by
  refine MM.go (own := RX8) (lv0 := [some (.ref (A 1)), some (.ref (A (4 + 2 * k))), some (.int (nI b)), none]) rfl (by decide) rfl (Nat.le_of_ble_eq_true rfl) rfl ?_
  intro p e s m args below meth c C
  refine jx_inj (fun inj => ?_)
  refine jx_iconst (v := 0) C dX8_isHeld_0 (by decide) ?_
  refine jx_istore_n (lv1 := [_, _, _, _]) C dX8_isHeld_1 (by decide) rfl ?_
  refine jx_iload_n C dX8_isHeld_2 rfl ?_
  refine jx_iconst (v := 4) C dX8_isHeld_3 (by decide) ?_
  refine jx_ic_geF (tgt := 29) C dX8_isHeld_4 (by decide) (by decide) ?_
  refine jx_aload_n C dX8_isHeld_7 rfl ?_
  refine jx_get C fl_8_17_7 dX8_isHeld_8 (by decide) gg_1 rfl ?_
  refine jx_iload_n C dX8_isHeld_11 rfl ?_
  refine jx_iload_n C dX8_isHeld_12 rfl ?_
  refine jx_one C (jr_S C (c_8_place) sw_8_43 rfl ⟨Nat.le_of_ble_eq_true rfl, Nat.le_of_ble_eq_true rfl⟩ ⟨Nat.le_of_ble_eq_true rfl, Nat.le_of_ble_eq_true rfl⟩ dX8_isHeld_13 rfl (Nat.le_of_ble_eq_true rfl)) ?_
  refine jx_aald3 (5 * 0 + b) C dX8_isHeld_16 (by decide) gg_3 (pl5 0 b) (by omega) (by decide) ?_
  refine jx_aload_n C dX8_isHeld_17 rfl ?_
  refine jx_acmp_ne (rx := (P (5 * 0 + b)).map (fun k => A (4 + 2 * k))) (ry := some (A (4 + 2 * k))) (tgt := 23) C dX8_isHeld_18 (by decide) (fun c18 => ?_) (fun c18 => ?_)
  · have n0 := c18
    refine jx_iinc (v := 1) (lv1 := [_, _, _, _]) C dX8_isHeld_23 rfl (by decide) rfl ?_
    refine jx_goto (tgt := 2) C dX8_isHeld_26 (by decide) ?_
    refine jx_iload_n C dX8_isHeld_2 rfl ?_
    refine jx_iconst (v := 4) C dX8_isHeld_3 (by decide) ?_
    refine jx_ic_geF (tgt := 29) C dX8_isHeld_4 (by decide) (by decide) ?_
    refine jx_aload_n C dX8_isHeld_7 rfl ?_
    refine jx_get C fl_8_17_7 dX8_isHeld_8 (by decide) gg_1 rfl ?_
    refine jx_iload_n C dX8_isHeld_11 rfl ?_
    refine jx_iload_n C dX8_isHeld_12 rfl ?_
    refine jx_one C (jr_S C (c_8_place) sw_8_43 rfl ⟨Nat.le_of_ble_eq_true rfl, Nat.le_of_ble_eq_true rfl⟩ ⟨Nat.le_of_ble_eq_true rfl, Nat.le_of_ble_eq_true rfl⟩ dX8_isHeld_13 rfl (Nat.le_of_ble_eq_true rfl)) ?_
    refine jx_aald3 (5 * 1 + b) C dX8_isHeld_16 (by decide) gg_3 (pl5 1 b) (by omega) (by decide) ?_
    refine jx_aload_n C dX8_isHeld_17 rfl ?_
    refine jx_acmp_ne (rx := (P (5 * 1 + b)).map (fun k => A (4 + 2 * k))) (ry := some (A (4 + 2 * k))) (tgt := 23) C dX8_isHeld_18 (by decide) (fun c18 => ?_) (fun c18 => ?_)
    · have n1 := c18
      refine jx_iinc (v := 2) (lv1 := [_, _, _, _]) C dX8_isHeld_23 rfl (by decide) rfl ?_
      refine jx_goto (tgt := 2) C dX8_isHeld_26 (by decide) ?_
      refine jx_iload_n C dX8_isHeld_2 rfl ?_
      refine jx_iconst (v := 4) C dX8_isHeld_3 (by decide) ?_
      refine jx_ic_geF (tgt := 29) C dX8_isHeld_4 (by decide) (by decide) ?_
      refine jx_aload_n C dX8_isHeld_7 rfl ?_
      refine jx_get C fl_8_17_7 dX8_isHeld_8 (by decide) gg_1 rfl ?_
      refine jx_iload_n C dX8_isHeld_11 rfl ?_
      refine jx_iload_n C dX8_isHeld_12 rfl ?_
      refine jx_one C (jr_S C (c_8_place) sw_8_43 rfl ⟨Nat.le_of_ble_eq_true rfl, Nat.le_of_ble_eq_true rfl⟩ ⟨Nat.le_of_ble_eq_true rfl, Nat.le_of_ble_eq_true rfl⟩ dX8_isHeld_13 rfl (Nat.le_of_ble_eq_true rfl)) ?_
      refine jx_aald3 (5 * 2 + b) C dX8_isHeld_16 (by decide) gg_3 (pl5 2 b) (by omega) (by decide) ?_
      refine jx_aload_n C dX8_isHeld_17 rfl ?_
      refine jx_acmp_ne (rx := (P (5 * 2 + b)).map (fun k => A (4 + 2 * k))) (ry := some (A (4 + 2 * k))) (tgt := 23) C dX8_isHeld_18 (by decide) (fun c18 => ?_) (fun c18 => ?_)
      · have n2 := c18
        refine jx_iinc (v := 3) (lv1 := [_, _, _, _]) C dX8_isHeld_23 rfl (by decide) rfl ?_
        refine jx_goto (tgt := 2) C dX8_isHeld_26 (by decide) ?_
        refine jx_iload_n C dX8_isHeld_2 rfl ?_
        refine jx_iconst (v := 4) C dX8_isHeld_3 (by decide) ?_
        refine jx_ic_geF (tgt := 29) C dX8_isHeld_4 (by decide) (by decide) ?_
        refine jx_aload_n C dX8_isHeld_7 rfl ?_
        refine jx_get C fl_8_17_7 dX8_isHeld_8 (by decide) gg_1 rfl ?_
        refine jx_iload_n C dX8_isHeld_11 rfl ?_
        refine jx_iload_n C dX8_isHeld_12 rfl ?_
        refine jx_one C (jr_S C (c_8_place) sw_8_43 rfl ⟨Nat.le_of_ble_eq_true rfl, Nat.le_of_ble_eq_true rfl⟩ ⟨Nat.le_of_ble_eq_true rfl, Nat.le_of_ble_eq_true rfl⟩ dX8_isHeld_13 rfl (Nat.le_of_ble_eq_true rfl)) ?_
        refine jx_aald3 (5 * 3 + b) C dX8_isHeld_16 (by decide) gg_3 (pl5 3 b) (by omega) (by decide) ?_
        refine jx_aload_n C dX8_isHeld_17 rfl ?_
        refine jx_acmp_ne (rx := (P (5 * 3 + b)).map (fun k => A (4 + 2 * k))) (ry := some (A (4 + 2 * k))) (tgt := 23) C dX8_isHeld_18 (by decide) (fun c18 => ?_) (fun c18 => ?_)
        · refine jx_iinc (v := 4) (lv1 := [_, _, _, _]) C dX8_isHeld_23 rfl (by decide) rfl ?_
          refine jx_goto (tgt := 2) C dX8_isHeld_26 (by decide) ?_
          refine jx_iload_n C dX8_isHeld_2 rfl ?_
          refine jx_iconst (v := 4) C dX8_isHeld_3 (by decide) ?_
          refine jx_ic_geT (tgt := 29) C dX8_isHeld_4 (by decide) (by decide) ?_
          refine jx_iconst (v := 0) C dX8_isHeld_29 (by decide) ?_
          exact jx_zret C dX8_isHeld_30 rfl ⟨by rw [bI_f (fun h => by rcases h with h | h | h | h <;> first | exact n0 ((ln_eq inj hP (by omega) hk).mpr h) | exact n1 ((ln_eq inj hP (by omega) hk).mpr h) | exact n2 ((ln_eq inj hP (by omega) hk).mpr h) | exact c18 ((ln_eq inj hP (by omega) hk).mpr h))], rfl, rfl, rfl⟩
        · refine jx_iconst (v := 1) C dX8_isHeld_21 (by decide) ?_
          exact jx_zret C dX8_isHeld_22 rfl ⟨by rw [bI_t (Or.inr (Or.inr (Or.inr (((ln_eq inj hP (by omega) hk).mp c18)))))], rfl, rfl, rfl⟩
      · refine jx_iconst (v := 1) C dX8_isHeld_21 (by decide) ?_
        exact jx_zret C dX8_isHeld_22 rfl ⟨by rw [bI_t (Or.inr (Or.inr (Or.inl ((ln_eq inj hP (by omega) hk).mp c18))))], rfl, rfl, rfl⟩
    · refine jx_iconst (v := 1) C dX8_isHeld_21 (by decide) ?_
      exact jx_zret C dX8_isHeld_22 rfl ⟨by rw [bI_t (Or.inr (Or.inl ((ln_eq inj hP (by omega) hk).mp c18)))], rfl, rfl, rfl⟩
  · refine jx_iconst (v := 1) C dX8_isHeld_21 (by decide) ?_
    exact jx_zret C dX8_isHeld_22 rfl ⟨by rw [bI_t (Or.inl ((ln_eq inj hP (by omega) hk).mp c18))], rfl, rfl, rfl⟩
set_option maxRecDepth 100000 in
set_option maxHeartbeats 4000000 in
theorem c_8_spareLane {l : Launch} {D : va_G} {K : Nat → ClassId} {A : Nat → Nat} {I : TI} {U : TU} {P : TP} {b : Nat} (hb : b < 5) (hP : okP P) (hs : ∃ a : Nat, a < 4 ∧ P (5 * a + b) = none) : MM l yX8_spareLane cX8_spareLane 4 (some (.object "HandLoom$Lane")) 2 D K A (I) (U) (P) [.ref (A 1), .int (nI b)] (XV (fun w I1 U1 P1 => ∃ u : Nat, u < 4 ∧ ¬ heldBy P b (5 * u + b) ∧ w = .ref (A (4 + 2 * (5 * u + b))) ∧ I1 = I ∧ U1 = U ∧ P1 = P)) := by
  refine MM.go (own := RX8) (lv0 := [some (.ref (A 1)), some (.int (nI b)), none, none]) rfl (by decide) rfl (Nat.le_of_ble_eq_true rfl) rfl ?_
  intro p e s m args below meth c C
  refine jx_iconst (v := 0) C dX8_spareLane_0 (by decide) ?_
  refine jx_istore_n (lv1 := [_, _, _, _]) C dX8_spareLane_1 (by decide) rfl ?_
  refine jx_iload_n C dX8_spareLane_2 rfl ?_
  refine jx_iconst (v := 4) C dX8_spareLane_3 (by decide) ?_
  refine jx_ic_geF (tgt := 35) C dX8_spareLane_4 (by decide) (by decide) ?_
  refine jx_aload_n C dX8_spareLane_7 rfl ?_
  refine jx_get C fl_8_11_7 dX8_spareLane_8 (by decide) gg_1 rfl ?_
  refine jx_iload_n C dX8_spareLane_11 rfl ?_
  refine jx_iload_n C dX8_spareLane_12 rfl ?_
  refine jx_one C (jr_S C (c_8_place) sw_8_43 rfl ⟨Nat.le_of_ble_eq_true rfl, Nat.le_of_ble_eq_true rfl⟩ ⟨Nat.le_of_ble_eq_true rfl, Nat.le_of_ble_eq_true rfl⟩ dX8_spareLane_13 rfl (Nat.le_of_ble_eq_true rfl)) ?_
  refine jx_aald3 (5 * 0 + b) C dX8_spareLane_16 (by decide) gg_2 (pl5 0 b) (by omega) (by decide) ?_
  refine jx_astore_n (lv1 := [_, _, _, _]) C dX8_spareLane_17 (by decide) rfl ?_
  refine jx_aload_n C dX8_spareLane_18 rfl ?_
  refine jx_aload_n C dX8_spareLane_19 rfl ?_
  refine jx_iload_n C dX8_spareLane_20 rfl ?_
  by_cases h0 : heldBy P b (5 * 0 + b)
  · skip
    refine jx_one C (jr_V C (c_8_isHeld (k := 5 * 0 + b) hb (by omega) hP) vw_8_61 (by decide) gg_1 rfl rfl ⟨Nat.le_of_ble_eq_true rfl, Nat.le_of_ble_eq_true rfl⟩ ⟨Nat.le_of_ble_eq_true rfl, Nat.le_of_ble_eq_true rfl⟩ dX8_spareLane_21 rfl (Nat.le_of_ble_eq_true rfl)) ?_
    rw [bI_t h0]
    refine jx_if_neT (tgt := 29) C dX8_spareLane_24 (by decide) (by decide) ?_
    refine jx_iinc (v := 1) (lv1 := [_, _, _, _]) C dX8_spareLane_29 rfl (by decide) rfl ?_
    refine jx_goto (tgt := 2) C dX8_spareLane_32 (by decide) ?_
    refine jx_iload_n C dX8_spareLane_2 rfl ?_
    refine jx_iconst (v := 4) C dX8_spareLane_3 (by decide) ?_
    refine jx_ic_geF (tgt := 35) C dX8_spareLane_4 (by decide) (by decide) ?_
    refine jx_aload_n C dX8_spareLane_7 rfl ?_
    refine jx_get C fl_8_11_7 dX8_spareLane_8 (by decide) gg_1 rfl ?_
    refine jx_iload_n C dX8_spareLane_11 rfl ?_
    refine jx_iload_n C dX8_spareLane_12 rfl ?_
    refine jx_one C (jr_S C (c_8_place) sw_8_43 rfl ⟨Nat.le_of_ble_eq_true rfl, Nat.le_of_ble_eq_true rfl⟩ ⟨Nat.le_of_ble_eq_true rfl, Nat.le_of_ble_eq_true rfl⟩ dX8_spareLane_13 rfl (Nat.le_of_ble_eq_true rfl)) ?_
    refine jx_aald3 (5 * 1 + b) C dX8_spareLane_16 (by decide) gg_2 (pl5 1 b) (by omega) (by decide) ?_
    refine jx_astore_n (lv1 := [_, _, _, _]) C dX8_spareLane_17 (by decide) rfl ?_
    refine jx_aload_n C dX8_spareLane_18 rfl ?_
    refine jx_aload_n C dX8_spareLane_19 rfl ?_
    refine jx_iload_n C dX8_spareLane_20 rfl ?_
    by_cases h1 : heldBy P b (5 * 1 + b)
    · skip
      refine jx_one C (jr_V C (c_8_isHeld (k := 5 * 1 + b) hb (by omega) hP) vw_8_61 (by decide) gg_1 rfl rfl ⟨Nat.le_of_ble_eq_true rfl, Nat.le_of_ble_eq_true rfl⟩ ⟨Nat.le_of_ble_eq_true rfl, Nat.le_of_ble_eq_true rfl⟩ dX8_spareLane_21 rfl (Nat.le_of_ble_eq_true rfl)) ?_
      rw [bI_t h1]
      refine jx_if_neT (tgt := 29) C dX8_spareLane_24 (by decide) (by decide) ?_
      refine jx_iinc (v := 2) (lv1 := [_, _, _, _]) C dX8_spareLane_29 rfl (by decide) rfl ?_
      refine jx_goto (tgt := 2) C dX8_spareLane_32 (by decide) ?_
      refine jx_iload_n C dX8_spareLane_2 rfl ?_
      refine jx_iconst (v := 4) C dX8_spareLane_3 (by decide) ?_
      refine jx_ic_geF (tgt := 35) C dX8_spareLane_4 (by decide) (by decide) ?_
      refine jx_aload_n C dX8_spareLane_7 rfl ?_
      refine jx_get C fl_8_11_7 dX8_spareLane_8 (by decide) gg_1 rfl ?_
      refine jx_iload_n C dX8_spareLane_11 rfl ?_
      refine jx_iload_n C dX8_spareLane_12 rfl ?_
      refine jx_one C (jr_S C (c_8_place) sw_8_43 rfl ⟨Nat.le_of_ble_eq_true rfl, Nat.le_of_ble_eq_true rfl⟩ ⟨Nat.le_of_ble_eq_true rfl, Nat.le_of_ble_eq_true rfl⟩ dX8_spareLane_13 rfl (Nat.le_of_ble_eq_true rfl)) ?_
      refine jx_aald3 (5 * 2 + b) C dX8_spareLane_16 (by decide) gg_2 (pl5 2 b) (by omega) (by decide) ?_
      refine jx_astore_n (lv1 := [_, _, _, _]) C dX8_spareLane_17 (by decide) rfl ?_
      refine jx_aload_n C dX8_spareLane_18 rfl ?_
      refine jx_aload_n C dX8_spareLane_19 rfl ?_
      refine jx_iload_n C dX8_spareLane_20 rfl ?_
      by_cases h2 : heldBy P b (5 * 2 + b)
      · skip
        refine jx_one C (jr_V C (c_8_isHeld (k := 5 * 2 + b) hb (by omega) hP) vw_8_61 (by decide) gg_1 rfl rfl ⟨Nat.le_of_ble_eq_true rfl, Nat.le_of_ble_eq_true rfl⟩ ⟨Nat.le_of_ble_eq_true rfl, Nat.le_of_ble_eq_true rfl⟩ dX8_spareLane_21 rfl (Nat.le_of_ble_eq_true rfl)) ?_
        rw [bI_t h2]
        refine jx_if_neT (tgt := 29) C dX8_spareLane_24 (by decide) (by decide) ?_
        refine jx_iinc (v := 3) (lv1 := [_, _, _, _]) C dX8_spareLane_29 rfl (by decide) rfl ?_
        refine jx_goto (tgt := 2) C dX8_spareLane_32 (by decide) ?_
        refine jx_iload_n C dX8_spareLane_2 rfl ?_
        refine jx_iconst (v := 4) C dX8_spareLane_3 (by decide) ?_
        refine jx_ic_geF (tgt := 35) C dX8_spareLane_4 (by decide) (by decide) ?_
        refine jx_aload_n C dX8_spareLane_7 rfl ?_
        refine jx_get C fl_8_11_7 dX8_spareLane_8 (by decide) gg_1 rfl ?_
        refine jx_iload_n C dX8_spareLane_11 rfl ?_
        refine jx_iload_n C dX8_spareLane_12 rfl ?_
        refine jx_one C (jr_S C (c_8_place) sw_8_43 rfl ⟨Nat.le_of_ble_eq_true rfl, Nat.le_of_ble_eq_true rfl⟩ ⟨Nat.le_of_ble_eq_true rfl, Nat.le_of_ble_eq_true rfl⟩ dX8_spareLane_13 rfl (Nat.le_of_ble_eq_true rfl)) ?_
        refine jx_aald3 (5 * 3 + b) C dX8_spareLane_16 (by decide) gg_2 (pl5 3 b) (by omega) (by decide) ?_
        refine jx_astore_n (lv1 := [_, _, _, _]) C dX8_spareLane_17 (by decide) rfl ?_
        refine jx_aload_n C dX8_spareLane_18 rfl ?_
        refine jx_aload_n C dX8_spareLane_19 rfl ?_
        refine jx_iload_n C dX8_spareLane_20 rfl ?_
        by_cases h3 : heldBy P b (5 * 3 + b)
        · skip
          refine jx_one C (jr_V C (c_8_isHeld (k := 5 * 3 + b) hb (by omega) hP) vw_8_61 (by decide) gg_1 rfl rfl ⟨Nat.le_of_ble_eq_true rfl, Nat.le_of_ble_eq_true rfl⟩ ⟨Nat.le_of_ble_eq_true rfl, Nat.le_of_ble_eq_true rfl⟩ dX8_spareLane_21 rfl (Nat.le_of_ble_eq_true rfl)) ?_
          rw [bI_t h3]
          refine jx_if_neT (tgt := 29) C dX8_spareLane_24 (by decide) (by decide) ?_
          refine jx_iinc (v := 4) (lv1 := [_, _, _, _]) C dX8_spareLane_29 rfl (by decide) rfl ?_
          refine jx_goto (tgt := 2) C dX8_spareLane_32 (by decide) ?_
          refine jx_iload_n C dX8_spareLane_2 rfl ?_
          refine jx_iconst (v := 4) C dX8_spareLane_3 (by decide) ?_
          refine jx_ic_geT (tgt := 35) C dX8_spareLane_4 (by decide) (by decide) ?_
          exact absurd hs (fun q => spare q.choose_spec.1 q.choose_spec.2 h0 h1 h2 h3)
        · skip
          refine jx_one C (jr_V C (c_8_isHeld (k := 5 * 3 + b) hb (by omega) hP) vw_8_61 (by decide) gg_1 rfl rfl ⟨Nat.le_of_ble_eq_true rfl, Nat.le_of_ble_eq_true rfl⟩ ⟨Nat.le_of_ble_eq_true rfl, Nat.le_of_ble_eq_true rfl⟩ dX8_spareLane_21 rfl (Nat.le_of_ble_eq_true rfl)) ?_
          rw [bI_f h3]
          refine jx_if_neF (tgt := 29) C dX8_spareLane_24 (by decide) (by decide) ?_
          refine jx_aload_n C dX8_spareLane_27 rfl ?_
          exact jx_aret C dX8_spareLane_28 (Or.inr ⟨_, rfl⟩) ⟨_, rfl, 3, by decide, h3, rfl, rfl, rfl, rfl⟩
      · skip
        refine jx_one C (jr_V C (c_8_isHeld (k := 5 * 2 + b) hb (by omega) hP) vw_8_61 (by decide) gg_1 rfl rfl ⟨Nat.le_of_ble_eq_true rfl, Nat.le_of_ble_eq_true rfl⟩ ⟨Nat.le_of_ble_eq_true rfl, Nat.le_of_ble_eq_true rfl⟩ dX8_spareLane_21 rfl (Nat.le_of_ble_eq_true rfl)) ?_
        rw [bI_f h2]
        refine jx_if_neF (tgt := 29) C dX8_spareLane_24 (by decide) (by decide) ?_
        refine jx_aload_n C dX8_spareLane_27 rfl ?_
        exact jx_aret C dX8_spareLane_28 (Or.inr ⟨_, rfl⟩) ⟨_, rfl, 2, by decide, h2, rfl, rfl, rfl, rfl⟩
    · skip
      refine jx_one C (jr_V C (c_8_isHeld (k := 5 * 1 + b) hb (by omega) hP) vw_8_61 (by decide) gg_1 rfl rfl ⟨Nat.le_of_ble_eq_true rfl, Nat.le_of_ble_eq_true rfl⟩ ⟨Nat.le_of_ble_eq_true rfl, Nat.le_of_ble_eq_true rfl⟩ dX8_spareLane_21 rfl (Nat.le_of_ble_eq_true rfl)) ?_
      rw [bI_f h1]
      refine jx_if_neF (tgt := 29) C dX8_spareLane_24 (by decide) (by decide) ?_
      refine jx_aload_n C dX8_spareLane_27 rfl ?_
      exact jx_aret C dX8_spareLane_28 (Or.inr ⟨_, rfl⟩) ⟨_, rfl, 1, by decide, h1, rfl, rfl, rfl, rfl⟩
  · skip
    refine jx_one C (jr_V C (c_8_isHeld (k := 5 * 0 + b) hb (by omega) hP) vw_8_61 (by decide) gg_1 rfl rfl ⟨Nat.le_of_ble_eq_true rfl, Nat.le_of_ble_eq_true rfl⟩ ⟨Nat.le_of_ble_eq_true rfl, Nat.le_of_ble_eq_true rfl⟩ dX8_spareLane_21 rfl (Nat.le_of_ble_eq_true rfl)) ?_
    rw [bI_f h0]
    refine jx_if_neF (tgt := 29) C dX8_spareLane_24 (by decide) (by decide) ?_
    refine jx_aload_n C dX8_spareLane_27 rfl ?_
    exact jx_aret C dX8_spareLane_28 (Or.inr ⟨_, rfl⟩) ⟨_, rfl, 0, by decide, h0, rfl, rfl, rfl, rfl⟩
theorem okP_none {P : TP} {j : Nat} (h : okP P) : okP (va_up P j none) := by
  intro i k hi hk
  by_cases hij : i = j
  · subst hij; rw [va_up_self] at hk; cases hk
  · rw [va_up_ne _ _ hij] at hk; exact h i k hi hk
theorem va_up_up {α : Type} (f : Nat → α) (k : Nat) (v w : α) : va_up (va_up f k v) k w = va_up f k w := by
  funext j
  by_cases h : j = k <;> simp [va_up, h]
set_option maxRecDepth 100000 in
set_option maxHeartbeats 4000000 in
theorem c_8_stretch {l : Launch} {D : va_G} {K : Nat → ClassId} {A : Nat → Nat} {I : TI} {U : TU} {P : TP} {a b n : Nat} (ha : a < 4) (hb : b < 5) (hn : n ≤ 24) (hP : okP P) : MM l yX8_stretch cX8_stretch 5 none 3 D K A (I) (U) (P) [.ref (A 1), .int (nI a), .int (nI b), .int (nI n)] (XN (fun I1 U1 P1 => ∃ u : Nat, u < 4 ∧ ¬ heldBy (va_up P (5 * a + b) none) b (5 * u + b) ∧ I1 = rsJ (5 * u + b) n n I ∧ U1 = rsV (5 * u + b) n U ∧ P1 = va_up P (5 * a + b) (some (5 * u + b)))) := by
  refine MM.go (own := RX8) (lv0 := [some (.ref (A 1)), some (.int (nI a)), some (.int (nI b)), some (.int (nI n)), none]) rfl (by decide) rfl (Nat.le_of_ble_eq_true rfl) rfl ?_
  intro p e s m args below meth c C
  refine jx_iload_n C dX8_stretch_0 rfl ?_
  refine jx_iload_n C dX8_stretch_1 rfl ?_
  refine jx_one C (jr_S C (c_8_isLane) sw_8_39 rfl ⟨Nat.le_of_ble_eq_true rfl, Nat.le_of_ble_eq_true rfl⟩ ⟨Nat.le_of_ble_eq_true rfl, Nat.le_of_ble_eq_true rfl⟩ dX8_stretch_2 rfl (Nat.le_of_ble_eq_true rfl)) ?_
  rw [bI_t ⟨inF_nI ha, inS_nI hb⟩]
  refine jx_if_neT (tgt := 9) C dX8_stretch_5 (by decide) (by decide) ?_
  refine jx_aload_n C dX8_stretch_9 rfl ?_
  refine jx_iload_n C dX8_stretch_10 rfl ?_
  refine jx_iload_n C dX8_stretch_11 rfl ?_
  refine jx_void C (jr_V C (c_8_loosen ha hb) vw_8_51 (by decide) gg_1 rfl rfl ⟨Nat.le_of_ble_eq_true rfl, Nat.le_of_ble_eq_true rfl⟩ ⟨Nat.le_of_ble_eq_true rfl, Nat.le_of_ble_eq_true rfl⟩ dX8_stretch_12 rfl (Nat.le_of_ble_eq_true rfl)) ?_
  refine jx_aload_n C dX8_stretch_15 rfl ?_
  refine jx_iload_n C dX8_stretch_16 rfl ?_
  refine jx_oneV C (jr_V C (c_8_spareLane hb (okP_none hP) ⟨a, ha, va_up_self _ _ _⟩) vw_8_55 (by decide) gg_1 rfl rfl ⟨Nat.le_of_ble_eq_true rfl, Nat.le_of_ble_eq_true rfl⟩ ⟨Nat.le_of_ble_eq_true rfl, Nat.le_of_ble_eq_true rfl⟩ dX8_stretch_17 rfl (Nat.le_of_ble_eq_true rfl)) (fun w I1 U1 P1 hq => ?_)
  obtain ⟨u, hu, hnh, rfl, rfl, rfl, rfl⟩ := hq
  refine jx_astore (lv1 := [_, _, _, _, _]) C dX8_stretch_20 (by decide) rfl ?_
  refine jx_aload C dX8_stretch_22 rfl ?_
  refine jx_ifnull C dX8_stretch_24 ?_
  refine jx_aload C dX8_stretch_27 rfl ?_
  refine jx_iload_n C dX8_stretch_29 rfl ?_
  refine jx_void C (jv_restretch (k := 5 * u + b) C dX8_stretch_30 (by omega) hn ⟨by decide, by decide⟩ ⟨Nat.zero_le _, Nat.zero_le _⟩ (Nat.le_of_ble_eq_true rfl)) ?_
  refine jx_aload_n C dX8_stretch_33 rfl ?_
  refine jx_get C fl_8_17_7 dX8_stretch_34 (by decide) gg_1 rfl ?_
  refine jx_iload_n C dX8_stretch_37 rfl ?_
  refine jx_iload_n C dX8_stretch_38 rfl ?_
  refine jx_one C (jr_S C (c_8_place) sw_8_43 rfl ⟨Nat.le_of_ble_eq_true rfl, Nat.le_of_ble_eq_true rfl⟩ ⟨Nat.le_of_ble_eq_true rfl, Nat.le_of_ble_eq_true rfl⟩ dX8_stretch_39 rfl (Nat.le_of_ble_eq_true rfl)) ?_
  refine jx_aload C dX8_stretch_42 rfl ?_
  refine jx_ln (5 * a + b) C dX8_stretch_44 (show 5 * u + b < 20 by omega) (pl5 a b) (by omega) ?_
  exact jx_vret C dX8_stretch_45 ⟨rfl, u, hu, hnh, rfl, rfl, va_up_up _ _ _ _⟩
