/-! run() -/
def cdN (I : TI) (j t : Nat) : Nat := (I (51 + j) t).toNatClampNeg
/-- the act of card j -/
def rnS (P : TP) (j : Nat) (I : TI) (U : TU) : Int32 × TI × TU := wk (cdN I j 0) (P (5 * cdN I j 1 + cdN I j 2)) (I (51 + j) 3) (I (51 + j) 4) I U
/-- .. and its sum -/
def rnI (P : TP) (j : Nat) (I : TI) (U : TU) : TI := up2 (rnS P j I U).2.1 0 6 (I 0 6 + (rnS P j I U).1)
/-- cards from the t-th on, f of them: how many were done, the ints, the floats; co: how many cards there are -/
def rn (P : TP) (co : Nat) : Nat → Nat → TI → TU → Nat × TI × TU
  | 0, t, I, U => (t, bg I, U)
  | f + 1, t, I, U => if endsBy (I 0 5) (rnI P (t % co) I U 63 1) then (t, rnI P (t % co) I U, (rnS P (t % co) I U).2.2) else rn P co f (t + 1) (rnI P (t % co) I U) (rnS P (t % co) I U).2.2
def okD (I : TI) : Prop := ∃ co : Nat, co ≤ 12 ∧ I 49 1 = nI co ∧ ∀ j, j < co → ∃ kd a b : Nat, kd < 5 ∧ a < 4 ∧ b < 5 ∧ I (51 + j) 0 = nI kd ∧ I (51 + j) 1 = nI a ∧ I (51 + j) 2 = nI b
theorem tel_o {I : TI} {f x y : Nat} (h : ¬ (x = 63 ∨ x = 64)) : tel I f x y = I x y := by
  unfold tel
  rw [up2_ne (by omega), up2_ne (by omega)]
theorem bg_o {I : TI} {x y : Nat} (h : ¬ x = 63) : bg I x y = I x y := by
  unfold bg
  rw [up2_ne (by omega)]
theorem dqI_o {I : TI} {x y : Nat} (h : ¬ x = 44) : dqI I x y = I x y := by
  unfold dqI
  rw [up2_ne (by omega), up2_ne (by omega)]
theorem wkD_o {kd : Nat} {I : TI} {x y : Nat} (h : ¬ (x = 44 ∨ x = 63)) : wkD kd I x y = I x y := by
  unfold wkD
  split
  · rw [dqI_o (by omega), bg_o (by omega)]
  · rw [bg_o (by omega)]
/-- an act writes to the spool, the ledger, the lanes' rows alone -/
theorem wk_o {kd : Nat} {r : Option Nat} {i v : Int32} {I : TI} {U : TU} (hr : ∀ k, r = some k → k < 20) {x y : Nat} (h : ¬ (x = 44 ∨ x = 63 ∨ x = 64 ∨ (5 ≤ x ∧ x < 44 ∧ x % 2 = 1))) : (wk kd r i v I U).2.1 x y = I x y := by
  unfold wk
  split
  · show tel (bg I) 4 x y = _
    rw [tel_o (by omega), bg_o (by omega)]
  · cases r with
    | none =>
      show tel (wkD kd I) 1 x y = _
      rw [tel_o (by omega), wkD_o (by omega)]
    | some k =>
      have hk := hr k rfl
      show (if inR (I (4 + 2 * k) 0) i then wkE kd k i.toNatClampNeg v I U else (0, tel (wkD kd I) 2, U)).2.1 x y = _
      split
      · unfold wkE fT
        have g1 : ∀ n z, laI k n z (dqI (bg I)) x y = I x y := fun n z => by rw [laI_o (by omega), dqI_o (by omega), bg_o (by omega)]
        have g2 : ∀ n z, laI k n z (bg I) x y = I x y := fun n z => by rw [laI_o (by omega), bg_o (by omega)]
        have g3 : ∀ f, tel (bg I) f x y = I x y := fun f => by rw [tel_o (by omega), bg_o (by omega)]
        repeat' split
        all_goals first | exact g1 _ _ | exact g2 _ _ | exact g3 _ | exact bg_o (by omega)
      · show tel (wkD kd I) 2 x y = _
        rw [tel_o (by omega), wkD_o (by omega)]
theorem okS_same {I I' : TI} (h : okS I) (h1 : I' 44 1 = I 44 1) (h2 : I' 44 2 = I 44 2) : okS I' := by
  obtain ⟨fi, co, a, b, c, d⟩ := h
  exact ⟨fi, co, h1.trans a, h2.trans b, c, d⟩
theorem okS_dq {I : TI} (h : okS I) : okS (dqI I) := by
  obtain ⟨fi, co, a, b, c, d⟩ := h
  refine ⟨(fiN I + 1) % 16, coN I - 1, ?_, ?_, Nat.mod_lt _ (by decide), ?_⟩
  · unfold dqI
    rw [up2_ne (by omega), up2_same]
  · unfold dqI
    rw [up2_same]
  · unfold coN
    rw [b, nI_clamp (by omega)]
    omega
theorem okS_bg {I : TI} (h : okS I) : okS (bg I) := okS_same h (bg_o (by decide)) (bg_o (by decide))
theorem okS_la {I : TI} {k n : Nat} {z : Int32} (hk : k < 20) (h : okS I) : okS (laI k n z I) := okS_same h (laI_o (by omega)) (laI_o (by omega))
theorem okS_tel {I : TI} {f : Nat} (h : okS I) : okS (tel I f) := okS_same h (tel_o (by decide)) (tel_o (by decide))
theorem okS_wkD {kd : Nat} {I : TI} (h : okS I) : okS (wkD kd I) := by
  unfold wkD
  split
  · exact okS_dq (okS_bg h)
  · exact okS_bg h
theorem okS_wk {kd : Nat} {r : Option Nat} {i v : Int32} {I : TI} {U : TU} (hr : ∀ k, r = some k → k < 20) (h : okS I) : okS (wk kd r i v I U).2.1 := by
  unfold wk
  split
  · exact okS_tel (okS_bg h)
  · cases r with
    | none => exact okS_tel (okS_wkD h)
    | some k =>
      have hk := hr k rfl
      show okS (if inR (I (4 + 2 * k) 0) i then wkE kd k i.toNatClampNeg v I U else (0, tel (wkD kd I) 2, U)).2.1
      split
      · unfold wkE fT
        repeat' split
        all_goals first | exact okS_la hk (okS_dq (okS_bg h)) | exact okS_la hk (okS_bg h) | exact okS_tel (okS_bg h) | exact okS_bg h
      · exact okS_tel (okS_wkD h)
theorem okL_same {I I' : TI} {U : TU} {k : Nat} (h : okL I U k) (h0 : I' (4 + 2 * k) 0 = I (4 + 2 * k) 0) (h1 : ∀ n, n < 24 → I' (5 + 2 * k) n = I (5 + 2 * k) n) : okL I' U k := by
  obtain ⟨hk, c, hc, hcc, ok⟩ := h
  exact ⟨hk, c, hc, h0.trans hcc, fun n hn => okE_at (ok n hn) (fun _ => h1 n hn) (fun _ => rfl)⟩
theorem okLs_same {I I' : TI} {U : TU} (h : okLs I U) (hh : ∀ x y, 4 ≤ x → x < 44 → I' x y = I x y) : okLs I' U := fun k hk => okL_same (h k hk) (hh _ _ (by omega) (by omega)) (fun n _ => hh _ _ (by omega) (by omega))
theorem okLs_la {I : TI} {U : TU} {k n : Nat} {x : Int32} {y : UInt32} (hk : k < 20) (h : okLs I U) (hx : okE (laI k n x I) (laU k n y U) k n) : okLs (laI k n x I) (laU k n y U) := by
  intro q hq
  obtain ⟨hq, c, hc, hcc, ok⟩ := h q hq
  refine ⟨hq, c, hc, by rw [laI_o (by omega)]; exact hcc, fun i hi => ?_⟩
  by_cases hqk : q = k
  · subst hqk
    by_cases hin : i = n
    · subst hin; exact hx
    · refine okE_at (ok i hi) (fun h3 => ?_) (fun h2 => ?_)
      · unfold laI
        rw [if_neg (by omega), up2_ne (by omega)]
      · unfold laU
        rw [if_pos h2, up2_ne (by omega)]
  · refine okE_at (ok i hi) (fun h3 => laI_o (by omega)) (fun h2 => ?_)
    unfold laU
    split
    · exact up2_ne (by omega)
    · rfl
theorem okLs_bg {I : TI} {U : TU} (h : okLs I U) : okLs (bg I) U := okLs_same h (fun x y _ _ => bg_o (by omega))
theorem okLs_dq {I : TI} {U : TU} (h : okLs I U) : okLs (dqI I) U := okLs_same h (fun x y _ _ => dqI_o (by omega))
theorem okLs_tel {I : TI} {U : TU} {f : Nat} (h : okLs I U) : okLs (tel I f) U := okLs_same h (fun x y _ _ => tel_o (by omega))
theorem okLs_wk {kd : Nat} {r : Option Nat} {i v : Int32} {I : TI} {U : TU} (hr : ∀ k, r = some k → k < 20) (h : okLs I U) : okLs (wk kd r i v I U).2.1 (wk kd r i v I U).2.2 := by
  have hD : okLs (wkD kd I) U := by
    unfold wkD
    split
    · exact okLs_dq (okLs_bg h)
    · exact okLs_bg h
  unfold wk
  split
  · exact okLs_tel (okLs_bg h)
  · cases r with
    | none => exact okLs_tel hD
    | some k =>
      have hk := hr k rfl
      obtain ⟨_, c, hc, hcc, ok⟩ := h k hk
      show okLs (if inR (I (4 + 2 * k) 0) i then wkE kd k i.toNatClampNeg v I U else (0, tel (wkD kd I) 2, U)).2.1 (if inR (I (4 + 2 * k) 0) i then wkE kd k i.toNatClampNeg v I U else (0, tel (wkD kd I) 2, U)).2.2
      split
      · next hin =>
        obtain ⟨n, hn, rfl⟩ := inR_of (by omega) (hcc ▸ hin)
        rw [nI_clamp (by omega)]
        have okn := ok n (by omega)
        unfold wkE fT
        split
        · exact okLs_la hk (okLs_dq (okLs_bg h)) okLay
        · split
          · split
            · exact okLs_tel (okLs_bg h)
            · exact okLs_la hk (okLs_dq (okLs_bg h)) (okPull okn)
          · split
            · exact okLs_la hk (okLs_bg h) (okPull okn)
            · split
              · split
                · exact okLs_tel (okLs_bg h)
                · next hv =>
                  exact okLs_la hk (okLs_bg h) (okPart okn (by
                    by_cases q : v = 0
                    · exact Or.inr (Classical.not_not.mp (fun h => hv ⟨q, h⟩))
                    · exact Or.inl q))
              · exact okLs_bg h
      · exact okLs_tel hD
theorem okD_same {I I' : TI} (h : okD I) (hh : ∀ x y, 49 ≤ x → x < 63 → I' x y = I x y) : okD I' := by
  obtain ⟨co, h1, h2, h3⟩ := h
  refine ⟨co, h1, (hh _ _ (by omega) (by omega)).trans h2, fun j hj => ?_⟩
  obtain ⟨kd, a, b, q1, q2, q3, q4, q5, q6⟩ := h3 j hj
  exact ⟨kd, a, b, q1, q2, q3, (hh _ _ (by omega) (by omega)).trans q4, (hh _ _ (by omega) (by omega)).trans q5, (hh _ _ (by omega) (by omega)).trans q6⟩
theorem rem_co {t co : Nat} (h : 0 < co) (h1 : co < 100) (ht : t < 100) : nI t - nI t / nI co * nI co = nI (t % co) := pk_rem (by omega) h (by omega)
set_option maxRecDepth 100000 in
set_option maxHeartbeats 4000000 in
theorem lp_10_run {p : Program} {l : Launch} {e : Env} {s : State} {m : MethodId} {args : Array Value} {below : List Frame} {meth : Method} {c : Code} {D : va_G} {K : Nat → ClassId} {A : Nat → Nat} {P : TP} {post : TQ} {n co : Nat} (C : CX p s m args meth c RX10 cX10_run 4 (some .int) D K (AX 75 A s.heap.size)) (hP : okP P) (hco : 0 < co) (h12 : co ≤ 12) (hn : n ≤ 12) : ∀ (f t : Nat) (I : TI) (U : TU), t + f = n → okS I → okLs I U → okD I → I 49 1 = nI co → post (some (.int (nI (rn P co f t I U).1))) (rn P co f t I U).2.1 (rn P co f t I U).2.2 P → ∀ z : Option Value, GJ p l e (rmd 5) s m args below meth c 4 D (AX 75 A s.heap.size) (MQX below D K A args s post) 75 A (gg A K (I) (U) P) 0 0 31 [some (.ref (A 0)), some (.int (nI n)), some (.int (nI (t))), z] [] := by
  intro f
  induction f with
  | zero =>
    intro t I U ht hs hl hd hc h0 z
    obtain rfl : t = n := by omega
    refine jx_iload_n C dX10_run_31 rfl ?_
    refine jx_iload_n C dX10_run_32 rfl ?_
    refine jx_ic_geT (tgt := 115) C dX10_run_33 (by decide) (nI_le (Nat.le_refl _) (by omega)) ?_
    refine jx_aload_n C dX10_run_115 rfl ?_
    refine jx_get C fl_10_40_9 dX10_run_116 (by decide) gg_0 rfl ?_
    refine jx_void C (jr_V C (c_4_begin) vw_10_59 (by decide) gg_63 rfl rfl ⟨Nat.le_of_ble_eq_true rfl, Nat.le_of_ble_eq_true rfl⟩ ⟨Nat.le_of_ble_eq_true rfl, Nat.le_of_ble_eq_true rfl⟩ dX10_run_119 rfl (Nat.le_of_ble_eq_true rfl)) ?_
    refine jx_iload_n C dX10_run_122 rfl ?_
    exact jx_iret C dX10_run_123 h0
  | succ f ih =>
    intro t I U ht hs hl hd hc h0 z
    have hm : t % co < co := Nat.mod_lt _ hco
    obtain ⟨co2, q1, q2, q3⟩ := id hd
    obtain rfl : co2 = co := (nI_eq (by omega) (by omega)).mp (q2.symm.trans hc)
    obtain ⟨kd, a, b, hk, ha, hb, e0, e1, e2⟩ := q3 (t % co2) hm
    have eS : rnS P (t % co2) I U = wk kd (P (5 * a + b)) (I (51 + t % co2) 3) (I (51 + t % co2) 4) I U := by
      unfold rnS cdN
      rw [e0, e1, e2, nI_clamp (by omega), nI_clamp (by omega), nI_clamp (by omega)]
    have hr : ∀ k, P (5 * a + b) = some k → k < 20 := fun k hk => (hP _ _ (by omega) hk).1
    have hI0 : rnI P (t % co2) I U 0 5 = I 0 5 := by
      unfold rnI
      rw [up2_ne (by omega), eS, wk_o hr (by omega)]
    have hI6 : (wk kd (P (5 * a + b)) (I (51 + t % co2) 3) (I (51 + t % co2) 4) I U).2.1 = (rnS P (t % co2) I U).2.1 := by rw [eS]
    refine jx_iload_n C dX10_run_31 rfl ?_
    refine jx_iload_n C dX10_run_32 rfl ?_
    refine jx_ic_geF (tgt := 115) C dX10_run_33 (nI_ge (by omega) (by omega)) (by decide) ?_
    refine jx_aload_n C dX10_run_36 rfl ?_
    refine jx_get C fl_10_33_9 dX10_run_37 (by decide) gg_0 rfl ?_
    refine jx_iload_n C dX10_run_40 rfl ?_
    refine jx_aload_n C dX10_run_41 rfl ?_
    refine jx_get C fl_10_33_9 dX10_run_42 (by decide) gg_0 rfl ?_
    refine jx_one C (jr_V C (c_2_count) vw_10_152 (by decide) gg_49 rfl rfl ⟨Nat.le_of_ble_eq_true rfl, Nat.le_of_ble_eq_true rfl⟩ ⟨Nat.le_of_ble_eq_true rfl, Nat.le_of_ble_eq_true rfl⟩ dX10_run_45 rfl (Nat.le_of_ble_eq_true rfl)) ?_
    rw [hc]
    refine jx_irem C dX10_run_48 (nI_ne0 (by omega) (by omega)) ?_
    rw [rem_co (by omega) (by omega) (by omega)]
    refine jx_one C (jr_V C (c_2_at (show t % co2 < 12 by omega)) vw_10_156 (by decide) gg_49 rfl rfl ⟨Nat.le_of_ble_eq_true rfl, Nat.le_of_ble_eq_true rfl⟩ ⟨Nat.le_of_ble_eq_true rfl, Nat.le_of_ble_eq_true rfl⟩ dX10_run_49 rfl (Nat.le_of_ble_eq_true rfl)) ?_
    refine jx_astore_n (lv1 := [_, _, _, _]) C dX10_run_52 (by decide) rfl ?_
    refine jx_aload_n C dX10_run_53 rfl ?_
    refine jx_dup C dX10_run_54 rfl ?_
    refine jx_get C fl_10_48_9 dX10_run_55 (by decide) gg_0 rfl ?_
    refine jx_aload_n C dX10_run_58 rfl ?_
    refine jx_aload_n C dX10_run_59 rfl ?_
    refine jx_get C fl_10_160_0 dX10_run_60 (by omega) (gg_cd (show t % co2 < 12 by omega)) rfl ?_
    rw [e0]
    refine jx_aload_n C dX10_run_63 rfl ?_
    refine jx_get C fl_10_10_9 dX10_run_64 (by decide) gg_0 rfl ?_
    refine jx_aload_n C dX10_run_67 rfl ?_
    refine jx_get C fl_10_165_0 dX10_run_68 (by omega) (gg_cd (show t % co2 < 12 by omega)) rfl ?_
    refine jx_aload_n C dX10_run_71 rfl ?_
    refine jx_get C fl_10_168_0 dX10_run_72 (by omega) (gg_cd (show t % co2 < 12 by omega)) rfl ?_
    rw [e1, e2]
    refine jx_one C (jr_V C (c_8_laneAt ha hb) vw_10_70 (by decide) gg_1 rfl rfl ⟨Nat.le_of_ble_eq_true rfl, Nat.le_of_ble_eq_true rfl⟩ ⟨Nat.le_of_ble_eq_true rfl, Nat.le_of_ble_eq_true rfl⟩ dX10_run_75 rfl (Nat.le_of_ble_eq_true rfl)) ?_
    refine jx_aload_n C dX10_run_78 rfl ?_
    refine jx_get C fl_10_171_0 dX10_run_79 (by omega) (gg_cd (show t % co2 < 12 by omega)) rfl ?_
    refine jx_aload_n C dX10_run_82 rfl ?_
    refine jx_get C fl_10_174_0 dX10_run_83 (by omega) (gg_cd (show t % co2 < 12 by omega)) rfl ?_
    refine jx_one C (jr_V C (c_10_work hk hs (fun k hk => hl k (hr k hk))) vw_10_103 (by decide) gg_0 rfl rfl ⟨Nat.le_of_ble_eq_true rfl, Nat.le_of_ble_eq_true rfl⟩ ⟨Nat.le_of_ble_eq_true rfl, Nat.le_of_ble_eq_true rfl⟩ dX10_run_86 rfl (Nat.le_of_ble_eq_true rfl)) ?_
    rw [← eS]
    refine jx_iadd C dX10_run_89 ?_
    refine jx_putI C fp_10_48_9 dX10_run_90 (by decide) gg_0 (Nat.le_of_ble_eq_true rfl) rfl ?_
    change GJ _ _ _ _ _ _ _ _ _ _ _ _ _ _ _ _ (gg A K (rnI P (t % co2) I U) _ P) _ _ _ _ _
    refine jx_aload_n C dX10_run_93 rfl ?_
    refine jx_aload_n C dX10_run_94 rfl ?_
    refine jx_get C fl_10_40_9 dX10_run_95 (by decide) gg_0 rfl ?_
    refine jx_one C (jr_V C (c_4_latest) vw_10_177 (by decide) gg_63 rfl rfl ⟨Nat.le_of_ble_eq_true rfl, Nat.le_of_ble_eq_true rfl⟩ ⟨Nat.le_of_ble_eq_true rfl, Nat.le_of_ble_eq_true rfl⟩ dX10_run_98 rfl (Nat.le_of_ble_eq_true rfl)) ?_
    by_cases hz : endsBy (I 0 5) (rnI P (t % co2) I U 63 1)
    · skip
      refine jx_one C (jr_V C (c_10_isEndedBy) vw_10_180 (by decide) gg_0 rfl rfl ⟨Nat.le_of_ble_eq_true rfl, Nat.le_of_ble_eq_true rfl⟩ ⟨Nat.le_of_ble_eq_true rfl, Nat.le_of_ble_eq_true rfl⟩ dX10_run_101 rfl (Nat.le_of_ble_eq_true rfl)) ?_
      rw [hI0, bI_t hz]
      refine jx_if_eqF (tgt := 109) C dX10_run_104 (by decide) (by decide) ?_
      have er : rn P co2 (f + 1) t I U = (t, rnI P (t % co2) I U, (rnS P (t % co2) I U).2.2) := by rw [rn, if_pos hz]
      rw [er] at h0
      refine jx_iload_n C dX10_run_107 rfl ?_
      exact jx_iret C dX10_run_108 h0
    · skip
      refine jx_one C (jr_V C (c_10_isEndedBy) vw_10_180 (by decide) gg_0 rfl rfl ⟨Nat.le_of_ble_eq_true rfl, Nat.le_of_ble_eq_true rfl⟩ ⟨Nat.le_of_ble_eq_true rfl, Nat.le_of_ble_eq_true rfl⟩ dX10_run_101 rfl (Nat.le_of_ble_eq_true rfl)) ?_
      rw [hI0, bI_f hz]
      refine jx_if_eqT (tgt := 109) C dX10_run_104 (by decide) (by decide) ?_
      refine jx_iinc (lv1 := [_, _, _, _]) C dX10_run_109 rfl (nI_1 t) rfl ?_
      refine jx_goto (tgt := 31) C dX10_run_112 (by decide) ?_
      have er : rn P co2 (f + 1) t I U = rn P co2 f (t + 1) (rnI P (t % co2) I U) (rnS P (t % co2) I U).2.2 := by rw [rn, if_neg hz]
      rw [er] at h0
      have g1 : ∀ x y, 46 ≤ x → x < 63 → rnI P (t % co2) I U x y = I x y := fun x y h1 h2 => by unfold rnI; rw [up2_ne (by omega), eS, wk_o hr (by omega)]
      refine ih (t + 1) _ _ (by omega) ?_ ?_ (okD_same hd (fun x y h1 h2 => g1 x y (by omega) h2)) ((g1 _ _ (by omega) (by omega)).trans hc) h0 _
      · unfold rnI; rw [eS]; exact okS_same (okS_wk hr hs) (up2_ne (by omega)) (up2_ne (by omega))
      · unfold rnI; rw [eS]; exact okLs_same (okLs_wk hr hl) (fun x y _ _ => up2_ne (by omega))
set_option maxRecDepth 100000 in
set_option maxHeartbeats 4000000 in
theorem c_10_runX1 {l : Launch} {D : va_G} {K : Nat → ClassId} {A : Nat → Nat} {I : TI} {U : TU} {P : TP} {x : Int32} (h : x < 1) : MM l yX10_run cX10_run 4 (some .int) 5 D K A (I) (U) (P) [.ref (A 0), .int x] (XE (some (.int (-2147483648))) I U P) := by
  refine MM.go (own := RX10) (lv0 := [some (.ref (A 0)), some (.int x), none, none]) rfl (by decide) rfl (Nat.le_of_ble_eq_true rfl) rfl ?_
  intro p e s m args below meth c C
  refine jx_iload_n C dX10_run_0 rfl ?_
  refine jx_iconst (v := 1) C dX10_run_1 (by decide) ?_
  refine jx_ic_ltT (tgt := 21) C dX10_run_2 (by decide) h ?_
  refine jx_ldc C dX10_run_21 qw_215 ?_
  exact jx_iret C dX10_run_23 ⟨rfl, rfl, rfl, rfl⟩
set_option maxRecDepth 100000 in
set_option maxHeartbeats 4000000 in
theorem c_10_runX2 {l : Launch} {D : va_G} {K : Nat → ClassId} {A : Nat → Nat} {I : TI} {U : TU} {P : TP} {x : Int32} (h : ¬ x < 1) (h2 : 12 < x) : MM l yX10_run cX10_run 4 (some .int) 5 D K A (I) (U) (P) [.ref (A 0), .int x] (XE (some (.int (-2147483648))) I U P) := by
  refine MM.go (own := RX10) (lv0 := [some (.ref (A 0)), some (.int x), none, none]) rfl (by decide) rfl (Nat.le_of_ble_eq_true rfl) rfl ?_
  intro p e s m args below meth c C
  refine jx_iload_n C dX10_run_0 rfl ?_
  refine jx_iconst (v := 1) C dX10_run_1 (by decide) ?_
  refine jx_ic_ltF (tgt := 21) C dX10_run_2 h (by decide) ?_
  refine jx_iload_n C dX10_run_5 rfl ?_
  refine jx_bipush (v := 12) C dX10_run_6 (by decide) ?_
  refine jx_ic_gtT (tgt := 21) C dX10_run_8 (by decide) h2 ?_
  refine jx_ldc C dX10_run_21 qw_215 ?_
  exact jx_iret C dX10_run_23 ⟨rfl, rfl, rfl, rfl⟩
set_option maxRecDepth 100000 in
set_option maxHeartbeats 4000000 in
theorem c_10_runX3 {l : Launch} {D : va_G} {K : Nat → ClassId} {A : Nat → Nat} {I : TI} {U : TU} {P : TP} {x : Int32} (h : ¬ x < 1) (h2 : ¬ 12 < x) (h3 : I 49 1 = 0) : MM l yX10_run cX10_run 4 (some .int) 5 D K A (I) (U) (P) [.ref (A 0), .int x] (XE (some (.int (-2147483648))) I U P) := by
  refine MM.go (own := RX10) (lv0 := [some (.ref (A 0)), some (.int x), none, none]) rfl (by decide) rfl (Nat.le_of_ble_eq_true rfl) rfl ?_
  intro p e s m args below meth c C
  refine jx_iload_n C dX10_run_0 rfl ?_
  refine jx_iconst (v := 1) C dX10_run_1 (by decide) ?_
  refine jx_ic_ltF (tgt := 21) C dX10_run_2 h (by decide) ?_
  refine jx_iload_n C dX10_run_5 rfl ?_
  refine jx_bipush (v := 12) C dX10_run_6 (by decide) ?_
  refine jx_ic_gtF (tgt := 21) C dX10_run_8 h2 (by decide) ?_
  refine jx_aload_n C dX10_run_11 rfl ?_
  refine jx_get C fl_10_33_9 dX10_run_12 (by decide) gg_0 rfl ?_
  refine jx_one C (jr_V C (c_2_count) vw_10_152 (by decide) gg_49 rfl rfl ⟨Nat.le_of_ble_eq_true rfl, Nat.le_of_ble_eq_true rfl⟩ ⟨Nat.le_of_ble_eq_true rfl, Nat.le_of_ble_eq_true rfl⟩ dX10_run_15 rfl (Nat.le_of_ble_eq_true rfl)) ?_
  refine jx_if_neF (tgt := 24) C dX10_run_18 h3 (by decide) ?_
  refine jx_ldc C dX10_run_21 qw_215 ?_
  exact jx_iret C dX10_run_23 ⟨rfl, rfl, rfl, rfl⟩
set_option maxRecDepth 100000 in
set_option maxHeartbeats 4000000 in
theorem c_10_run {l : Launch} {D : va_G} {K : Nat → ClassId} {A : Nat → Nat} {I : TI} {U : TU} {P : TP} {n co : Nat} (h1 : 1 ≤ n) (hn : n ≤ 12) (hco : 0 < co) (h12 : co ≤ 12) (hc : I 49 1 = nI co) (hP : okP P) (hs : okS I) (hl : okLs I U) (hd : okD I) : MM l yX10_run cX10_run 4 (some .int) 5 D K A (I) (U) (P) [.ref (A 0), .int (nI n)] (XE (some (.int (nI (rn P co n 0 (up2 I 0 6 0) U).1))) (rn P co n 0 (up2 I 0 6 0) U).2.1 (rn P co n 0 (up2 I 0 6 0) U).2.2 P) := by
  refine MM.go (own := RX10) (lv0 := [some (.ref (A 0)), some (.int (nI n)), none, none]) rfl (by decide) rfl (Nat.le_of_ble_eq_true rfl) rfl ?_
  intro p e s m args below meth c C
  refine jx_iload_n C dX10_run_0 rfl ?_
  refine jx_iconst (v := 1) C dX10_run_1 (by decide) ?_
  refine jx_ic_ltF (tgt := 21) C dX10_run_2 (nI_nlt (a := n) (b := 1) h1 (by omega)) (by decide) ?_
  refine jx_iload_n C dX10_run_5 rfl ?_
  refine jx_bipush (v := 12) C dX10_run_6 (by decide) ?_
  refine jx_ic_gtF (tgt := 21) C dX10_run_8 (nI_nlt (a := 12) hn (by decide)) (by decide) ?_
  refine jx_aload_n C dX10_run_11 rfl ?_
  refine jx_get C fl_10_33_9 dX10_run_12 (by decide) gg_0 rfl ?_
  refine jx_one C (jr_V C (c_2_count) vw_10_152 (by decide) gg_49 rfl rfl ⟨Nat.le_of_ble_eq_true rfl, Nat.le_of_ble_eq_true rfl⟩ ⟨Nat.le_of_ble_eq_true rfl, Nat.le_of_ble_eq_true rfl⟩ dX10_run_15 rfl (Nat.le_of_ble_eq_true rfl)) ?_
  rw [hc]
  refine jx_if_neT (tgt := 24) C dX10_run_18 (by decide) (nI_ne0 hco (by omega)) ?_
  refine jx_aload_n C dX10_run_24 rfl ?_
  refine jx_iconst (v := 0) C dX10_run_25 (by decide) ?_
  refine jx_putI C fp_10_48_9 dX10_run_26 (by decide) gg_0 (Nat.le_of_ble_eq_true rfl) rfl ?_
  refine jx_iconst (v := 0) C dX10_run_29 (by decide) ?_
  refine jx_istore_n (lv1 := [_, _, _, _]) C dX10_run_30 (by decide) rfl ?_
  exact lp_10_run C hP hco h12 hn n 0 (up2 I 0 6 0) U (by omega) (okS_same hs (up2_ne (by omega)) (up2_ne (by omega))) (okLs_same hl (fun x y _ _ => up2_ne (by omega))) (okD_same hd (fun x y _ _ => up2_ne (by omega))) ((up2_ne (by omega)).trans hc) ⟨rfl, rfl, rfl, rfl⟩ none
