/-! thread, spool, swap, cloth, snip, hang, cell, card, unhook, keeper, told side by side -/
section OPS2
variable {l : Launch} {D : va_G} {K : Nat → ClassId} {A : Nat → Nat} {I : TI} {U : TU} {P : TP}
theorem rsJ_o {k n u x y : Nat} {I : TI} (h : ¬ x = 4 + 2 * k) (h2 : ¬ x = 5 + 2 * k) : rsJ k n u I x y = I x y := by
  unfold rsJ
  rw [if_neg (by omega), if_neg (by omega)]
theorem rsV_o {k u x y : Nat} {U : TU} (h2 : ¬ x = 5 + 2 * k) : rsV k u U x y = U x y := by
  unfold rsV
  rw [if_neg (by omega)]
theorem mth_o {I : TI} {pl r n k x y : Nat} (h : ¬ (x = 66 ∨ x = 67 ∨ x = 68)) : mth I pl r n k x y = I x y := by
  unfold mth
  rw [if_neg (by omega), if_neg (by omega), if_neg (by omega)]
theorem mthU_o {U : TU} {r k x y : Nat} (h : ¬ x = 69) : mthU U r k x y = U x y := by
  unfold mthU
  rw [if_neg (by omega)]
theorem two_thread {f s0 n : Int32} (h : RA I U P) : Two l D K A I U P yX10_thread cX10_thread 4 (some .int) 5 [.ref (A 0), .int f, .int s0, .int n] yX11_thread cX11_thread 7 (some .int) 5 [.ref (A 65), .int f, .int s0, .int n] := by
  by_cases hx : inL f s0
  · obtain ⟨a, ha, rfl⟩ := inF_of hx.1
    obtain ⟨b, hb, rfl⟩ := inS_of hx.2
    by_cases hn : n ≤ 24
    · by_cases hz : 0 ≤ n
      · obtain ⟨n0, hn0, rfl⟩ : ∃ n0 : Nat, n0 ≤ 24 ∧ n = nI n0 := by
          obtain ⟨j, hj, e⟩ := inR_of (n := 25) (by decide) (x := n) ⟨Int32.not_lt.mpr hz, fun q => by
            have h1 := Int32.le_iff_toInt_le.mp q
            have h2 := Int32.le_iff_toInt_le.mp hn
            rw [show (nI 25).toInt = 25 from rfl] at h1
            rw [show (24 : Int32).toInt = 24 from rfl] at h2
            omega⟩
          exact ⟨j, by omega, e⟩
        have hpl : 5 * a + b < 20 := by omega
        refine ⟨_, c_10_thread ha hb hn0 (rb_w h).1, ?_⟩
        rintro w I1 U1 P1 ⟨u, hu, hh, rfl, rfl, rfl, rfl⟩
        refine ⟨⟨_, rfl⟩, (c_11_thread ha hb hn0).mono ?_⟩
        rintro v I2 U2 P2 ⟨w', rfl, r, hr, hus, rfl, rfl, rfl, rfl⟩
        refine ⟨_, rfl, rfl, ?_⟩
        have hk : 5 * u + b < 20 := by omega
        have r0 : RB I U P (rsJ (5 * u + b) n0 n0 (bg I)) (rsV (5 * u + b) n0 U) := RB_same h (fun _ _ _ => rfl) (fun _ _ _ => rfl) (fun x y q => by rw [rsJ_o (by omega) (by omega), bg_1 q]) (fun x y q => rsV_o (by omega))
        generalize hI1 : rsJ (5 * u + b) n0 n0 (bg I) = I1 at r0 hus ⊢
        generalize hU1 : rsV (5 * u + b) n0 U = U1 at r0 ⊢
        have r1 := RW_cut (RAF_bg r0.1).2.2.2.2 hpl
        have r2 := RW_new (n := n0) r1 hpl hk (by omega) hr hn0 va_up_at (fun q hq e => by
          have e5 := (r1.1 q _ hq e).2
          refine hh ?_
          have : q = 5 * (q / 5) + b := by omega
          rcases (show q / 5 = 0 ∨ q / 5 = 1 ∨ q / 5 = 2 ∨ q / 5 = 3 by omega) with z | z | z | z <;> rw [z] at this <;> rw [this] at e
          · exact Or.inl e
          · exact Or.inr (Or.inl e)
          · exact Or.inr (Or.inr (Or.inl e))
          · exact Or.inr (Or.inr (Or.inr e))) (fun q hq e => by
          have := used_iff.mpr ⟨q, hq, e⟩
          rw [hus] at this
          cases this)
        rw [hI1, hU1, show va_up (va_up P (5 * a + b) none) (5 * a + b) (some (5 * u + b)) = va_up P (5 * a + b) (some (5 * u + b)) by
          funext z
          by_cases e : z = 5 * a + b
          · subst e; rw [va_up_at, va_up_at]
          · rw [upn e, upn e, upn e], show mth (up2 I1 66 (5 * a + b) (-1)) (5 * a + b) r n0 24 = mth I1 (5 * a + b) r n0 24 by
          funext x y
          unfold mth up2
          by_cases e : x = 66 ∧ y = 5 * a + b
          · rw [if_pos e, if_pos e]
          · rw [if_neg e, if_neg e, if_neg e]] at r2
        have eI : ∀ x y, ¬ (4 ≤ x ∧ x < 44) → ¬ x = 63 → I1 x y = I x y := fun x y q q2 => by rw [← hI1, rsJ_o (by omega) (by omega), bg_o q2]
        have r3 : RAF I1 U1 (va_up P (5 * a + b) (some (5 * u + b))) (mth I1 (5 * a + b) r n0 24) (mthU U1 r 24) :=
          ⟨RS_same r0.1.1 (fun x y q => eI x y (by omega) (by omega)) (fun x y q => mth_o (by omega)), RC_same r0.1.2.1 (fun x y q => eI x y (by omega) (by omega)) (fun x y q => mth_o (by omega)), RD_same r0.1.2.2.1 (fun x y q => eI x y (by omega) (by omega)) (fun x y q => mth_o (by omega)), RK_same r0.1.2.2.2.1 (fun x y q => eI x y (by omega) (by omega)) (fun x y q => mth_o (by omega)), r2⟩
        have r4 : RB I1 U1 (va_up P (5 * a + b) (some (5 * u + b))) (mbg (mth I1 (5 * a + b) r n0 24)) (mthU U1 r 24) := ⟨RAF_mbg r3, by
          unfold mbg
          rw [up2_same, ← hI1, rsJ_o (by omega) (by omega), bg, up2_same]⟩
        exact RB_same r4 (fun x y q => by rw [mbg_1 q, mth_o (by omega)]) (fun x y q => mthU_o (by omega)) (fun _ _ _ => rfl) (fun _ _ _ => rfl)
      · exact two_tel (by decide) h (c_10_threadZ ha hb hn hz) (fun r => c_11_threadZ ha hb hn hz)
    · exact two_0 h (c_10_threadX2 ha hb hn) (c_11_threadX2 ha hb hn)
  · exact two_0 h (c_10_threadX1 hx) (c_11_threadX1 hx)
theorem two_spool {v : Int32} (h : RA I U P) : Two l D K A I U P yX10_spool cX10_spool 2 (some .int) 5 [.ref (A 0), .int v] yX11_spool cX11_spool 2 (some .int) 5 [.ref (A 65), .int v] := by
  obtain ⟨fi, co, h1, h2, h3, h4, h5, h6⟩ := h.1.1
  by_cases hf : co = 16
  · subst hf
    exact two_0 h (c_10_spoolX h2) (c_11_spoolX h5)
  · refine two_E (I2 := up2 (up2 (up2 (up2 I 45 ((fi + co) % 16) v) 44 2 (nI (co + 1))) 70 co v) 65 5 (nI (co + 1))) (U2 := U) h (c_10_spool h1 h2 h3 (by omega)) (fun x y q => by rw [up2_ne (by omega), up2_ne (by omega)]) (fun _ _ _ => rfl) (fun x y q => by rw [up2_ne (by omega), up2_ne (by omega)]) (fun _ _ _ => rfl) (fun r => ?_)
    generalize hI1 : up2 (up2 I 45 ((fi + co) % 16) v) 44 2 (nI (co + 1)) = I1 at r ⊢
    obtain ⟨⟨-, rc, rd, rk, rw0⟩, rf0⟩ := r
    have e : ∀ x y, ¬ x = 44 → ¬ x = 45 → I1 x y = I x y := fun x y q q2 => by rw [← hI1, up2_ne (by omega), up2_ne (by omega)]
    have hco : I1 65 5 = nI co := by rw [e _ _ (by omega) (by omega)]; exact h5
    refine ⟨c_11_spool hco (by omega), ⟨⟨⟨fi, co + 1, ?_, ?_, h3, by omega, up2_same, fun j hj => ?_⟩, RC_same rc (fun x y q => e x y (by omega) (by omega)) (fun x y q => by rw [up2_ne (by omega), up2_ne (by omega)]), RD_same rd (fun x y q => e x y (by omega) (by omega)) (fun x y q => by rw [up2_ne (by omega), up2_ne (by omega)]), RK_same rk (fun x y q => e x y (by omega) (by omega)) (fun x y q => by rw [up2_ne (by omega), up2_ne (by omega)]), RW_same rw0 (fun x y q => e x y (by omega) (by omega)) (fun _ _ _ => rfl) (fun x y q => by rw [up2_ne (by omega), up2_ne (by omega)]) (fun _ => rfl)⟩, ?_⟩⟩
    · rw [← hI1, up2_ne (by omega), up2_ne (by omega)]; exact h1
    · rw [← hI1, up2_same]
    · rw [up2_ne (by omega)]
      by_cases q : j = co
      · subst q
        rw [up2_same, ← hI1, up2_ne (by omega), up2_same]
      · rw [up2_ne (by omega), e 70 _ (by omega) (by omega), ← hI1, up2_ne (by omega), up2_ne (by omega)]
        exact h6 j (by omega)
    · rw [up2_ne (by omega), up2_ne (by omega), rf0, e _ _ (by omega) (by omega)]
theorem lf_eq {I J : TI} {U V : TU} {P : TP} (h : RW I U P J V) {pl : Nat} (hpl : pl < 20) {x : Int32} : mlf J pl x = lfI (P pl) x I := by
  rcases h.2.2.2.2.2 pl hpl with ⟨a, b⟩ | ⟨k, r, a, b, c, d, e⟩
  · rw [a, mlf, if_pos b]; rfl
  · have er : rN J pl = r := by unfold rN; rw [b, nI_clamp (by omega)]
    rw [a, mlf, if_neg (by rw [b]; exact nI_m1 (by omega)), er, d.1]
    rfl
theorem two_swap {f s0 x y : Int32} (h : RA I U P) : Two l D K A I U P yX10_swap cX10_swap 7 (some .int) 5 [.ref (A 0), .int f, .int s0, .int x, .int y] yX11_swap cX11_swap 12 (some .int) 5 [.ref (A 65), .int f, .int s0, .int x, .int y] := by
  by_cases hx : inL f s0
  · obtain ⟨a, ha, rfl⟩ := inF_of hx.1
    obtain ⟨b, hb, rfl⟩ := inS_of hx.2
    have hpl : 5 * a + b < 20 := by omega
    cases hP : P (5 * a + b) with
    | none =>
      refine two_tel (by decide) h (c_10_swapN ha hb hP) (fun r => ?_)
      have e : mlf (tel (bg I) 1) (5 * a + b) x = 1 := by rw [lf_eq (rb_w r) hpl, hP]; rfl
      have := c_11_swapO1 (l := l) (D := D) (K := K) (A := A) (U := U) (P := P) (y := y) ha hb (rb_w r).2.2.1 (x := x) (by rw [e]; decide)
      rwa [e] at this
    | some k =>
      obtain ⟨k', r', hk, hk5, hP', -⟩ := RW_at (rb_w h) hpl (by rw [hP]; exact fun q => by cases q)
      rw [hP] at hP'
      cases hP'
      by_cases hi : inR (I (4 + 2 * k) 0) x
      · by_cases hj : inR (I (4 + 2 * k) 0) y
        · obtain ⟨-, c, hc, hcc, ok⟩ := (rb_w h).2.1 k hk
          obtain ⟨n, hn, rfl⟩ := inR_of (by omega) (hcc ▸ hi)
          obtain ⟨m0, hm, rfl⟩ := inR_of (by omega) (hcc ▸ hj)
          have hsw : ∀ x y, ¬ (4 ≤ x ∧ x < 44) → swI k n m0 (bg I) x y = bg I x y := fun x y q => by
            unfold swI
            split
            · rfl
            · rw [up2_ne (by omega), up2_ne (by omega)]
          have hswU : ∀ x y, ¬ (4 ≤ x ∧ x < 44) → swU k n m0 U x y = U x y := fun x y q => by
            unfold swU
            split
            · rw [up2_ne (by omega), up2_ne (by omega)]
            · rfl
          have ht : tl (bg I) U k n = tl I U k n := by unfold tl; rw [bg_o (by omega)]
          refine two_E h (c_10_swap ha hb hk hP hi hj (by omega) (by omega) (ok n (by omega)) (ok m0 (by omega))) (fun x y q => by rw [hsw _ _ (by omega), bg_1 q]) (fun x y q => hswU x y (by omega)) (I2 := mbg (mswI (24 * rN I (5 * a + b) + n) (24 * rN I (5 * a + b) + m0) (swI k n m0 (bg I)))) (U2 := mswU (24 * rN I (5 * a + b) + n) (24 * rN I (5 * a + b) + m0) (swU k n m0 U)) (fun x y q => by rw [mbg_1 q]; unfold mswI; rw [up2_ne (by omega), up2_ne (by omega)]) (fun x y q => by unfold mswU; rw [up2_ne (by omega), up2_ne (by omega)]) (fun r => ?_)
          obtain ⟨k2, r2, -, -, e1, e2, e3, e4, e5⟩ := RW_at (rb_w r) hpl (by rw [hP]; exact fun q => by cases q)
          rw [hP] at e1
          cases e1
          have er : rN I (5 * a + b) = r2 := by
            rw [hsw _ _ (by omega), bg_o (by omega)] at e2
            unfold rN; rw [e2, nI_clamp (by omega)]
          rw [er]
          have hx0 : mlf (swI k n m0 (bg I)) (5 * a + b) (nI n) = 0 := by rw [lf_eq (rb_w r) hpl, hP]; exact if_pos hi
          have hy0 : mlf (swI k n m0 (bg I)) (5 * a + b) (nI m0) = 0 := by rw [lf_eq (rb_w r) hpl, hP]; exact if_pos hj
          have hb5 : k % 5 = b := by omega
          have q1 := e4.2 n (by omega) hi
          have q2 := e4.2 m0 (by omega) hj
          refine ⟨?_, ⟨⟨RS_same r.1.1 ?_ ?_, RC_same r.1.2.1 ?_ ?_, RD_same r.1.2.2.1 ?_ ?_, RK_same r.1.2.2.2.1 ?_ ?_, ?_⟩, ?_⟩⟩
          · rw [ht, show tl I U k n = mtl (swI k n m0 (bg I)) (swU k n m0 U) b (24 * r2 + n) by
              unfold tl mtl
              rw [hb5]
              by_cases h2 : b = 2
              · rw [if_pos h2, if_pos h2, q1.1 (hb5.trans h2)]
              · rw [if_neg h2, if_neg h2, q1.2 (fun z => h2 (hb5.symm.trans z))]]
            exact c_11_swap ha hb (rb_w r).2.2.1 hx0 hy0 e2 e3 (by omega) (by omega) (fun _ => (rb_w r).2.2.2.2.1 _ (by omega))
          all_goals try (intro x y q; first | (rw [hsw x y (by omega), bg_o (by omega)]; done) | (rw [mbg_o (by omega)]; unfold mswI; rw [up2_ne (by omega), up2_ne (by omega)]; done))
          · generalize hJ : swI k n m0 (bg I) = J at r e2 e4 e5 q1 q2 hx0 hy0 ⊢
            generalize hV : swU k n m0 U = V at r e4 q1 q2 ⊢
            obtain ⟨w1, w2, w3, w4, w5, w6⟩ := rb_w r
            have eJ : ∀ x y, ¬ x = 68 → ¬ x = 65 → mbg (mswI (24 * r2 + n) (24 * r2 + m0) J) x y = J x y := fun x y q q2 => by
              rw [mbg_o (by omega)]; unfold mswI; rw [up2_ne (by omega), up2_ne (by omega)]
            have eJ8 : ∀ y, mbg (mswI (24 * r2 + n) (24 * r2 + m0) J) 68 y = if y = 24 * r2 + m0 then J 68 (24 * r2 + n) else if y = 24 * r2 + n then J 68 (24 * r2 + m0) else J 68 y := fun y => by
              rw [mbg_o (by omega)]
              unfold mswI up2
              simp only [true_and]
            have eV9 : ∀ y, mswU (24 * r2 + n) (24 * r2 + m0) V 69 y = if y = 24 * r2 + m0 then V 69 (24 * r2 + n) else if y = 24 * r2 + n then V 69 (24 * r2 + m0) else V 69 y := fun y => by
              unfold mswU up2
              simp only [true_and]
            have eI : ∀ x y, ¬ x = 5 + 2 * k → ¬ x = 63 → J x y = I x y := fun x y q q2 => by
              rw [← hJ]
              unfold swI
              split
              · rw [bg_o q2]
              · rw [up2_ne (by omega), up2_ne (by omega), bg_o q2]
            have eI5 : ¬ k % 5 = 2 → ∀ y, J (5 + 2 * k) y = if y = m0 then I (5 + 2 * k) n else if y = n then I (5 + 2 * k) m0 else I (5 + 2 * k) y := fun q y => by
              rw [← hJ]
              unfold swI
              rw [if_neg q]
              unfold up2 bg up2
              simp only [true_and, show ¬ (5 + 2 * k = 63) by omega, false_and, if_false]
            have eI5' : k % 5 = 2 → ∀ y, J (5 + 2 * k) y = I (5 + 2 * k) y := fun q y => by
              rw [← hJ]
              unfold swI
              rw [if_pos q, bg_o (by omega)]
            have eU : ∀ x y, ¬ x = 5 + 2 * k → V x y = U x y := fun x y q => by
              rw [← hV]
              unfold swU
              split
              · rw [up2_ne (by omega), up2_ne (by omega)]
              · rfl
            have eU5 : k % 5 = 2 → ∀ y, V (5 + 2 * k) y = if y = m0 then U (5 + 2 * k) n else if y = n then U (5 + 2 * k) m0 else U (5 + 2 * k) y := fun q y => by
              rw [← hV]
              unfold swU
              rw [if_pos q]
              unfold up2
              simp only [true_and]
            refine ⟨w1, fun k' hk' => ?_, fun q hq => by rw [eJ _ _ (by omega) (by omega)]; exact w3 q hq, fun q hq => by rw [eJ _ _ (by omega) (by omega)]; exact w4 q hq, fun z hz => ?_, fun q hq => ?_⟩
            · obtain ⟨_, c', hc', hcc', ok'⟩ := w2 k' hk'
              refine ⟨hk', c', hc', by rw [eI _ _ (by omega) (by omega)]; exact hcc', fun i hi' => ?_⟩
              by_cases ek : k' = k
              · subst ek
                refine ⟨fun h3 => ?_, fun h2 => ?_⟩
                · rw [eI5 (by omega)]
                  split
                  · exact (ok' n (by omega)).1 h3
                  · split
                    · exact (ok' m0 (by omega)).1 h3
                    · exact (ok' i hi').1 h3
                · rw [eU5 h2]
                  split
                  · exact (ok' n (by omega)).2 h2
                  · split
                    · exact (ok' m0 (by omega)).2 h2
                    · exact (ok' i hi').2 h2
              · exact okE_at (ok' i hi') (fun _ => eI _ _ (by omega) (by omega)) (fun _ => eU _ _ (by omega))
            · rw [eV9]
              split
              · exact w5 _ (by omega)
              · split
                · exact w5 _ (by omega)
                · exact w5 z hz
            · rw [eJ _ _ (by omega) (by omega)]
              rcases w6 q hq with ⟨a, b⟩ | ⟨k', r', a, b, c', d, e'⟩
              · exact Or.inl ⟨a, b⟩
              · have hk' := (w1 _ _ hq a).1
                refine Or.inr ⟨k', r', a, b, c', ?_, fun z hz => by rw [eJ _ _ (by omega) (by omega)]; exact e' z hz⟩
                by_cases ek : k' = k
                · subst ek
                  have hr2 : r' = r2 := by
                    have := (e5 q hq).mp a
                    rw [b] at this
                    exact (nI_eq (by omega) (by omega)).mp this
                  subst hr2
                  refine ⟨by rw [eJ _ _ (by omega) (by omega), eI (4 + 2 * k') 0 (by omega) (by omega)]; exact d.1, fun i hi hin => ?_⟩
                  rw [eI _ _ (by omega) (by omega)] at hin
                  have q3 := d.2 i hi hin
                  refine ⟨fun h2 => ?_, fun h2 => ?_⟩
                  · rw [eV9, eU5 h2]
                    simp only [Nat.add_left_cancel_iff]
                    split
                    · exact q1.1 h2
                    · split
                      · exact q2.1 h2
                      · exact q3.1 h2
                  · rw [eJ8, eI5 h2]
                    simp only [Nat.add_left_cancel_iff]
                    split
                    · exact q1.2 h2
                    · split
                      · exact q2.2 h2
                      · exact q3.2 h2
                · have nr : ¬ r' = r2 := fun z => ek (by
                    have := (e5 q hq).mpr (z ▸ b)
                    rw [a] at this
                    exact Option.some.inj this)
                  refine LQ_same d (eI _ _ (by omega) (by omega)) (eJ _ _ (by omega) (by omega)) (fun i hi _ => ⟨fun _ => ⟨?_, eU _ _ (by omega)⟩, fun _ => ⟨?_, eI _ _ (by omega) (by omega)⟩⟩)
                  · rw [eV9, if_neg (by omega), if_neg (by omega)]
                  · rw [eJ8, if_neg (by omega), if_neg (by omega)]
          · rw [hsw _ _ (by omega), bg, mbg, up2_same, up2_same]
        · refine two_tel (by decide) h (c_10_swapO2 ha hb hk hP hi hj) (fun r => ?_)
          have e : mlf (tel (bg I) 2) (5 * a + b) y = 2 := by rw [lf_eq (rb_w r) hpl, hP]; exact if_neg hj
          have e0 : mlf (tel (bg I) 2) (5 * a + b) x = 0 := by rw [lf_eq (rb_w r) hpl, hP]; exact if_pos hi
          have := c_11_swapO2 (l := l) (D := D) (K := K) (A := A) (U := U) (P := P) ha hb (rb_w r).2.2.1 e0 (y := y) (by rw [e]; decide)
          rwa [e] at this
      · refine two_tel (by decide) h (c_10_swapO1 ha hb hk hP hi) (fun r => ?_)
        have e : mlf (tel (bg I) 2) (5 * a + b) x = 2 := by rw [lf_eq (rb_w r) hpl, hP]; exact if_neg hi
        have := c_11_swapO1 (l := l) (D := D) (K := K) (A := A) (U := U) (P := P) (y := y) ha hb (rb_w r).2.2.1 (x := x) (by rw [e]; decide)
        rwa [e] at this
  · exact two_0 h (c_10_swapX hx) (c_11_swapX hx)
end OPS2
