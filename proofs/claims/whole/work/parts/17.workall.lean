/-! work() as a function -/
def fT (k n : Nat) (I : TI) (U : TU) : Int32 × TI × TU := (tl I U k n, I, U)
def wkD (kd : Nat) (I : TI) : TI := if kd = 1 then dqI (bg I) else bg I
def wkE (kd k n : Nat) (v : Int32) (I : TI) (U : TU) : Int32 × TI × TU :=
  if kd = 1 then fT k n (laI k n (cutTo (k % 5) (dqV (bg I))) (dqI (bg I))) (laU k n (fHo (f8 (dqV (bg I)))) U)
  else if kd = 2 then (if I 44 2 = 0 then (0, tel (bg I) 4, U) else fT k n (laI k n (vPull (k % 5) (I (5 + 2 * k) n) (dqV (bg I))) (dqI (bg I))) (laU k n (fHo (FP.fadd (U (5 + 2 * k) n) (f8 (dqV (bg I))))) U))
  else if kd = 3 then fT k n (laI k n (vPull (k % 5) (I (5 + 2 * k) n) 1) (bg I)) (laU k n (fHo (FP.fadd (U (5 + 2 * k) n) (f8 8))) U)
  else if kd = 4 then (if v = 0 ∧ ¬ k % 5 = 3 then (0, tel (bg I) 5, U) else fT k n (laI k n (vPart (k % 5) (I (5 + 2 * k) n) v) (bg I)) (laU k n (fHo (FP.fdiv (U (5 + 2 * k) n) (FP.i2f v))) U))
  else fT k n (bg I) U
/-- an act of kind kd at the lane r's end i: answer, ints, floats -/
def wk (kd : Nat) (r : Option Nat) (i v : Int32) (I : TI) (U : TU) : Int32 × TI × TU :=
  if kd = 1 ∧ I 44 2 = 0 then (0, tel (bg I) 4, U) else
  match r with
  | none => (0, tel (wkD kd I) 1, U)
  | some k => if inR (I (4 + 2 * k) 0) i then wkE kd k i.toNatClampNeg v I U else (0, tel (wkD kd I) 2, U)
def okL (I : TI) (U : TU) (k : Nat) : Prop := k < 20 ∧ ∃ c : Nat, c ≤ 24 ∧ I (4 + 2 * k) 0 = nI c ∧ ∀ n, n < 24 → okE I U k n
theorem dqI_eq {I : TI} {fi co : Nat} (hfi : I 44 1 = nI fi) (hco : I 44 2 = nI (co + 1)) (h1 : fi < 16) (h2 : co < 16) : dqI (bg I) = up2 (up2 (up2 I 63 1 0) 44 1 (nI ((fi + 1) % 16))) 44 2 (nI co) := by
  have e1 : fiN (bg I) = fi := by
    unfold fiN bg
    rw [up2_ne (by omega), hfi, nI_clamp (by omega)]
  have e2 : coN (bg I) = co + 1 := by
    unfold coN bg
    rw [up2_ne (by omega), hco, nI_clamp (by omega)]
  unfold dqI
  rw [e1, e2]
  rfl
theorem dqV_eq {I : TI} {fi : Nat} (hfi : I 44 1 = nI fi) (h1 : fi < 16) : dqV (bg I) = I 45 fi := by
  have e1 : fiN (bg I) = fi := by
    unfold fiN bg
    rw [up2_ne (by omega), hfi, nI_clamp (by omega)]
  unfold dqV
  rw [e1]
  unfold bg
  rw [up2_ne (by omega)]
set_option maxRecDepth 100000 in
set_option maxHeartbeats 4000000 in
theorem c_10_work {l : Launch} {D : va_G} {K : Nat → ClassId} {A : Nat → Nat} {I : TI} {U : TU} {P : TP} {kd : Nat} {r : Option Nat} {x v : Int32} (hkd : kd < 5) (hs : okS I) (hl : ∀ k, r = some k → okL I U k) : MM l yX10_work cX10_work 7 (some .int) 3 D K A I U P [.ref (A 0), .int (nI kd), lnV A r, .int x, .int v] (XE (some (.int (wk kd r x v I U).1)) (wk kd r x v I U).2.1 (wk kd r x v I U).2.2 P) := by
  obtain ⟨fi, co, hfi, hco, h1, h2⟩ := hs
  by_cases k1 : kd = 1
  · subst k1
    by_cases h0 : I 44 2 = 0
    · rw [show wk 1 r x v I U = (0, tel (bg I) 4, U) by simp [wk, h0]]
      cases r with
      | none => exact c_10_work_1eN h0
      | some k => exact c_10_work_1eR h0
    · obtain ⟨co, rfl⟩ : ∃ c' : Nat, co = c' + 1 := by
        refine ⟨co - 1, ?_⟩
        have : co ≠ 0 := fun q => h0 (by rw [hco, q]; rfl)
        omega
      cases r with
      | none =>
        rw [show wk 1 none x v I U = (0, tel (dqI (bg I)) 1, U) by simp [wk, h0, wkD], dqI_eq hfi hco h1 (by omega)]
        exact c_10_work_1N hfi hco h1 (by omega)
      | some k =>
        obtain ⟨hk, c, hc, hck, ok⟩ := hl k rfl
        by_cases hin : inR (I (4 + 2 * k) 0) x
        · obtain ⟨n, hn, rfl⟩ := inR_of (by omega) (hck ▸ hin)
          rw [show wk 1 (some k) (nI n) v I U = wkE 1 k n v I U by simp only [wk, h0, and_false, if_false, if_pos hin, nI_clamp (show n < 2 ^ 31 by omega)]]
          rw [show wkE 1 k n v I U = fT k n (laI k n (cutTo (k % 5) (dqV (bg I))) (dqI (bg I))) (laU k n (fHo (f8 (dqV (bg I)))) U) from rfl, dqI_eq hfi hco h1 (by omega), dqV_eq hfi h1]
          exact c_10_work_1 hk (by omega) hin hfi hco h1 (by omega)
        · rw [show wk 1 (some k) x v I U = (0, tel (dqI (bg I)) 2, U) by simp only [wk, h0, and_false, if_false, if_neg hin, wkD]; rfl, dqI_eq hfi hco h1 (by omega)]
          exact c_10_work_1o hk hin hfi hco h1 (by omega)
  · have hne : ¬ nI kd = 1 := by
      rw [show (1 : Int32) = nI 1 from rfl, nI_eq (by omega) (by decide)]
      exact k1
    have hwD : wkD kd I = bg I := by rw [wkD, if_neg k1]
    cases r with
    | none =>
      rw [show wk kd none x v I U = (0, tel (bg I) 1, U) by simp only [wk, k1, false_and, if_false, hwD]]
      exact c_10_work_gN hne
    | some k =>
      obtain ⟨hk, c, hc, hck, ok⟩ := hl k rfl
      by_cases hin : inR (I (4 + 2 * k) 0) x
      · obtain ⟨n, hn, rfl⟩ := inR_of (by omega) (hck ▸ hin)
        have hok := ok n (by omega)
        rw [show wk kd (some k) (nI n) v I U = wkE kd k n v I U by simp only [wk, k1, false_and, if_false, if_pos hin, nI_clamp (show n < 2 ^ 31 by omega)]]
        rcases (show kd = 0 ∨ kd = 2 ∨ kd = 3 ∨ kd = 4 by omega) with rfl | rfl | rfl | rfl
        · exact c_10_work_0 hk (by omega) hin hok
        · by_cases h0 : I 44 2 = 0
          · rw [show wkE 2 k n v I U = (0, tel (bg I) 4, U) by simp [wkE, h0]]
            exact c_10_work_2e hk (by omega) hin h0
          · obtain ⟨co, rfl⟩ : ∃ c' : Nat, co = c' + 1 := by
              refine ⟨co - 1, ?_⟩
              have : co ≠ 0 := fun q => h0 (by rw [hco, q]; rfl)
              omega
            rw [show wkE 2 k n v I U = fT k n (laI k n (vPull (k % 5) (I (5 + 2 * k) n) (dqV (bg I))) (dqI (bg I))) (laU k n (fHo (FP.fadd (U (5 + 2 * k) n) (f8 (dqV (bg I))))) U) by simp [wkE, h0], dqI_eq hfi hco h1 (by omega), dqV_eq hfi h1]
            exact c_10_work_2 hk (by omega) hin hok hfi hco h1 (by omega)
        · exact c_10_work_3 hk (by omega) hin hok
        · by_cases hv : v = 0 ∧ ¬ k % 5 = 3
          · rw [show wkE 4 k n v I U = (0, tel (bg I) 5, U) by simp [wkE, hv]]
            obtain ⟨rfl, h3⟩ := hv
            exact c_10_work_4z hk h3 hin
          · rw [show wkE 4 k n v I U = fT k n (laI k n (vPart (k % 5) (I (5 + 2 * k) n) v) (bg I)) (laU k n (fHo (FP.fdiv (U (5 + 2 * k) n) (FP.i2f v))) U) by simp only [wkE, if_neg hv]; rfl]
            exact c_10_work_4 hk (by omega) hin hok (by
              by_cases q : v = 0
              · exact Or.inr (Classical.not_not.mp (fun h => hv ⟨q, h⟩))
              · exact Or.inl q)
      · rw [show wk kd (some k) x v I U = (0, tel (bg I) 2, U) by simp only [wk, k1, false_and, if_false, if_neg hin, hwD]]
        exact c_10_work_go hne hk hin
