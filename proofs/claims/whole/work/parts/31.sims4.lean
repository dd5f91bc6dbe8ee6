/-! act, weave, run side by side -/
section OPS4
variable {l : Launch} {D : va_G} {K : Nat → ClassId} {A : Nat → Nat} {I J : TI} {U V : TU} {P : TP}
theorem laU_o {k n a b : Nat} {y : UInt32} {U : TU} (h : ¬ a = 5 + 2 * k) : laU k n y U a b = U a b := by
  unfold laU
  split
  · exact up2_ne (by omega)
  · rfl
theorem mlaU_o {b at0 x y : Nat} {v : UInt32} {U : TU} (h : ¬ x = 69) : mlaU b at0 v U x y = U x y := by
  unfold mlaU
  split
  · exact up2_ne (by omega)
  · rfl
theorem mlaI_s {b at0 : Nat} {v : Int32} {I : TI} (h : ¬ b = 2) : mlaI b at0 v I 68 at0 = v := by rw [mlaI, if_neg h, up2_same]
theorem mlaI_n {b at0 y : Nat} {v : Int32} {I : TI} (h : ¬ y = at0) : mlaI b at0 v I 68 y = I 68 y := by
  unfold mlaI
  split
  · rfl
  · exact up2_ne (by omega)
theorem mlaU_s {at0 : Nat} {v : UInt32} {U : TU} : mlaU 2 at0 v U 69 at0 = v := by rw [mlaU, if_pos rfl, up2_same]
theorem mlaU_ne {b at0 y : Nat} {v : UInt32} {U : TU} (h : ¬ y = at0) : mlaU b at0 v U 69 y = U 69 y := by
  unfold mlaU
  split
  · exact up2_ne (by omega)
  · rfl
/-- an end laid anew on both sides -/
theorem RAF_la {pl k r n : Nat} {x : Int32} {y : UInt32} (h : RAF I U P J V) (hpl : pl < 20) (hk : P pl = some k) (hr : J 66 pl = nI r) (hr20 : r < 20) (hn : n < 24) (hx : okE (laI k n x I) (laU k n y U) k n) (hy : k % 5 = 2 → hd32 y) : RAF (laI k n x I) (laU k n y U) P (mlaI (k % 5) (24 * r + n) x J) (mlaU (k % 5) (24 * r + n) y V) := by
  obtain ⟨rs, rc, rd, rk, w1, w2, w3, w4, w5, w6⟩ := h
  have hk20 := (w1 _ _ hpl hk).1
  refine ⟨RS_same rs (fun x y q => laI_o (by omega)) (fun x y q => mlaI_o (by omega)), RC_same rc (fun x y q => laI_o (by omega)) (fun x y q => mlaI_o (by omega)), RD_same rd (fun x y q => laI_o (by omega)) (fun x y q => mlaI_o (by omega)), RK_same rk (fun x y q => laI_o (by omega)) (fun x y q => mlaI_o (by omega)), w1, okLs_la hk20 w2 hx, okR_same w3 (fun y => mlaI_o (by omega)), fun q hq => by rw [mlaI_o (by omega)]; exact w4 q hq, mokU_la w5 hy, fun q hq => ?_⟩
  rw [mlaI_o (by omega)]
  rcases w6 q hq with ⟨a, b⟩ | ⟨k', r', a, b, c', d, e'⟩
  · exact Or.inl ⟨a, b⟩
  · have hk' := (w1 _ _ hq a).1
    refine Or.inr ⟨k', r', a, b, c', ?_, fun z hz => by rw [mlaI_o (by omega)]; exact e' z hz⟩
    by_cases ek : k' = k
    · subst ek
      have hrr : r = r' := by
        have := (e' pl hpl).mp hk
        rw [hr] at this
        exact (nI_eq (by omega) (by omega)).mp this
      subst hrr
      refine ⟨by rw [mlaI_o (by omega), laI_o (by omega)]; exact d.1, fun i hi hin => ?_⟩
      rw [laI_o (by omega)] at hin
      have q3 := d.2 i hi hin
      refine ⟨fun h2 => ?_, fun h2 => ?_⟩
      · rw [h2]
        unfold laU
        rw [if_pos h2]
        by_cases ei : i = n
        · subst ei; rw [mlaU_s, up2_same]
        · rw [mlaU_ne (by omega), up2_ne (by omega)]; exact q3.1 h2
      · unfold laI
        rw [if_neg h2]
        by_cases ei : i = n
        · subst ei; rw [mlaI_s h2, up2_same]
        · rw [mlaI_n (by omega), up2_ne (by omega)]; exact q3.2 h2
    · have nr : ¬ r' = r := fun z => ek (by
        subst z
        have := (e' pl hpl).mpr hr
        rw [hk] at this
        exact (Option.some.inj this).symm)
      refine LQ_same d (laI_o (by omega)) (mlaI_o (by omega)) (fun i hi _ => ⟨fun _ => ⟨mlaU_ne (by omega), laU_o (by omega)⟩, fun _ => ⟨mlaI_n (by omega), laI_o (by omega)⟩⟩)
/-- a weft taken from the spool on both sides -/
theorem RAF_dq (h : RAF I U P J V) (h0 : ¬ I 44 2 = 0) : RAF (dqI (bg I)) U P (mdq J) V ∧ dqV (bg I) = J 70 0 := by
  obtain ⟨⟨fi, co, s1, s2, s3, s4, s5, s6⟩, rc, rd, rk, rw0⟩ := h
  obtain ⟨co, rfl⟩ : ∃ c' : Nat, co = c' + 1 := by
    refine ⟨co - 1, ?_⟩
    have : co ≠ 0 := fun q => h0 (by rw [s2, q]; rfl)
    omega
  have em : (J 65 5 - 1).toNatClampNeg = co := by
    rw [s5, show nI (co + 1) - 1 = nI co from by rw [show (1 : Int32) = nI 1 from rfl, ← nI_add]; exact Int32.add_sub_cancel _ _, nI_clamp (by omega)]
  rw [dqI_eq s1 s2 s3 (by omega), dqV_eq s1 s3]
  refine ⟨⟨⟨(fi + 1) % 16, co, ?_, up2_same, by omega, by omega, ?_, fun j hj => ?_⟩, RC_same rc (fun x y q => ?_) (fun x y q => mdq_o2 (by omega)), RD_same rd (fun x y q => ?_) (fun x y q => mdq_o2 (by omega)), RK_same rk (fun x y q => ?_) (fun x y q => mdq_o2 (by omega)), RW_same rw0 (fun x y q => ?_) (fun _ _ _ => rfl) (fun x y q => mdq_o2 (by omega)) (fun _ => rfl)⟩, ?_⟩
  · rw [up2_ne (by omega), up2_same]
  · unfold mdq
    rw [if_pos ⟨rfl, rfl⟩, s5, show nI (co + 1) - 1 = nI co from by rw [show (1 : Int32) = nI 1 from rfl, ← nI_add]; exact Int32.add_sub_cancel _ _]
  · unfold mdq
    rw [em, if_neg (by omega), if_pos ⟨rfl, hj⟩, s6 (j + 1) (by omega), up2_ne (by omega), up2_ne (by omega), up2_ne (by omega), show ((fi + 1) % 16 + j) % 16 = (fi + (j + 1)) % 16 by omega]
  · rw [up2_ne (by omega), up2_ne (by omega), up2_ne (by omega)]
  · rw [up2_ne (by omega), up2_ne (by omega), up2_ne (by omega)]
  · rw [up2_ne (by omega), up2_ne (by omega), up2_ne (by omega)]
  · rw [up2_ne (by omega), up2_ne (by omega), up2_ne (by omega)]
  · rw [s6 0 (by omega), show (fi + 0) % 16 = fi by omega]
theorem RB_tel {f : Nat} (hf : f < 6) (h : RAF I U P J V) : RB (tel (bg I) f) U P (mtel J f) V := RAF_tel hf (RAF_bg h)
/-- two steps that tell the same and keep the relation -/
def SIM (W M : Int32 × TI × TU) (P : TP) : Prop := W.1 = M.1 ∧ RB W.2.1 W.2.2 P M.2.1 M.2.2
/-- what an act tells, after it -/
theorem RB_fT {k n r b : Nat} {I' J' : TI} {U' V' : TU} (hb : k % 5 = b) (h : RAF I' U' P J' V') (hn : n < 24) (hq : LQ I' U' J' V' k r) (hin : inR (I' (4 + 2 * k) 0) (nI n)) (hI : I' 63 1 = 0) : SIM (fT k n I' U') (mfT b (24 * r + n) J' V') P := by
  subst hb
  refine ⟨?_, RAF_mbg h, ?_⟩
  · show tl I' U' k n = mtl J' V' (k % 5) (24 * r + n)
    unfold tl mtl
    by_cases h2 : k % 5 = 2
    · rw [if_pos h2, if_pos h2, (hq.2 n hn hin).1 h2]
    · rw [if_neg h2, if_neg h2, (hq.2 n hn hin).2 h2]
  · show mbg J' 65 14 = I' 63 1
    rw [hI, mbg, up2_same]
theorem LQ_of {pl k r : Nat} (h : RW I U P J V) (hpl : pl < 20) (hk : P pl = some k) (hr : J 66 pl = nI r) (hr20 : r < 20) : LQ I U J V k r := by
  rcases h.2.2.2.2.2 pl hpl with ⟨a, b⟩ | ⟨k', r', a, b, c', d, e'⟩
  · rw [hk] at a; cases a
  · rw [hk] at a
    cases a
    rw [hr] at b
    have : r = r' := (nI_eq (by omega) (by omega)).mp b
    subst this
    exact d
theorem wk_e {kd : Nat} {r : Option Nat} {i v : Int32} (h : kd = 1 ∧ I 44 2 = 0) : wk kd r i v I U = (0, tel (bg I) 4, U) := by
  unfold wk
  rw [if_pos h]
theorem wk_n {kd : Nat} {i v : Int32} (h : ¬ (kd = 1 ∧ I 44 2 = 0)) : wk kd none i v I U = (0, tel (wkD kd I) 1, U) := by
  unfold wk
  rw [if_neg h]
theorem wk_s {kd k : Nat} {i v : Int32} (h : ¬ (kd = 1 ∧ I 44 2 = 0)) : wk kd (some k) i v I U = if inR (I (4 + 2 * k) 0) i then wkE kd k i.toNatClampNeg v I U else (0, tel (wkD kd I) 2, U) := by
  unfold wk
  rw [if_neg h]
theorem dn_e {kd pl b : Nat} {i v : Int32} (h : kd = 1 ∧ I 65 5 = 0) : dn kd pl b i v I U = (0, mtel I 4, U) := by
  unfold dn
  rw [if_pos h]
theorem dn_n {kd pl b : Nat} {i v : Int32} (h : ¬ (kd = 1 ∧ I 65 5 = 0)) : dn kd pl b i v I U = if mlf I pl i = 0 then dnE kd b (24 * rN I pl + i.toNatClampNeg) v I U else (0, mtel (dnD kd I) (mlf I pl i), U) := by
  unfold dn
  rw [if_neg h]
theorem sim_wk {kd a b : Nat} {x v : Int32} (h : RAF I U P J V) (hkd : kd < 5) (ha : a < 4) (hb : b < 5) : SIM (wk kd (P (5 * a + b)) x v I U) (dn kd (5 * a + b) b x v J V) P := by
  have hpl : 5 * a + b < 20 := by omega
  have h00 : I 44 2 = 0 ↔ J 65 5 = 0 := by
    obtain ⟨fi, co, s1, s2, s3, s4, s5, s6⟩ := h.1
    rw [s2, s5]
  by_cases h1 : kd = 1 ∧ I 44 2 = 0
  · rw [wk_e h1, dn_e ⟨h1.1, h00.mp h1.2⟩]
    exact ⟨rfl, RB_tel (by decide) h⟩
  · rw [dn_n (fun z => h1 ⟨z.1, h00.mpr z.2⟩)]
    have hD : RAF (wkD kd I) U P (dnD kd J) V := by
      unfold wkD dnD
      by_cases k1 : kd = 1
      · rw [if_pos k1, if_pos k1]; exact (RAF_dq h (fun z => h1 ⟨k1, z⟩)).1
      · rw [if_neg k1, if_neg k1]; exact RAF_bg h
    rw [lf_eq h.2.2.2.2 hpl]
    cases hP : P (5 * a + b) with
    | none =>
      rw [wk_n h1]
      exact ⟨rfl, RAF_tel (by decide) hD⟩
    | some k =>
      rw [wk_s h1]
      obtain ⟨k', r, hk, hk5, hP', er, hr20, hq, -⟩ := RW_at h.2.2.2.2 hpl (by rw [hP]; exact fun q => by cases q)
      rw [hP] at hP'
      cases hP'
      by_cases hi : inR (I (4 + 2 * k) 0) x
      · rw [show lfI (some k) x I = 0 from if_pos hi, if_pos hi, if_pos rfl]
        obtain ⟨-, c, hc, hcc, ok⟩ := h.2.2.2.2.2.1 k hk
        obtain ⟨n, hn, rfl⟩ := inR_of (by omega) (hcc ▸ hi)
        rw [nI_clamp (by omega), show rN J (5 * a + b) = r by unfold rN; rw [er, nI_clamp (by omega)]]
        have hb5 : k % 5 = b := by omega
        have q := hq.2 n (by omega) hi
        have okn := ok n (by omega)
        -- an end laid, and told
        have go : ∀ (I' J' : TI) (z z' : Int32) (y y' : UInt32), RAF I' U P J' V → I' (4 + 2 * k) 0 = I (4 + 2 * k) 0 → J' 66 (5 * a + b) = nI r → I' 63 1 = 0 → okE (laI k n z I') (laU k n y U) k n → (k % 5 = 2 → hd32 y) → (¬ k % 5 = 2 → z = z') → (k % 5 = 2 → y = y') → SIM (fT k n (laI k n z I') (laU k n y U)) (mfT b (24 * r + n) (mlaI b (24 * r + n) z' J') (mlaU b (24 * r + n) y' V)) P := by
          intro I' J' z z' y y' hR h4 hJ hI ho hy hz1 hy1
          have R2 := RAF_la hR hpl hP hJ hr20 (show n < 24 by omega) ho hy
          rw [hb5] at R2
          rw [show mlaI b (24 * r + n) z' J' = mlaI b (24 * r + n) z J' by
            unfold mlaI
            split
            · rfl
            · next h2 => rw [hz1 (fun w => h2 (hb5.symm.trans w))], show mlaU b (24 * r + n) y' V = mlaU b (24 * r + n) y V by
            unfold mlaU
            split
            · next h2 => rw [hy1 (hb5.trans h2)]
            · rfl]
          exact RB_fT hb5 R2 (by omega) (LQ_of R2.2.2.2.2 hpl hP (by rw [mlaI_o (by omega)]; exact hJ) hr20) (by rw [laI_o (by omega), h4]; exact hi) (by rw [laI_o (by omega)]; exact hI)
        have b63 : bg I 63 1 = 0 := by rw [bg, up2_same]
        have d63 : dqI (bg I) 63 1 = 0 := by rw [dqI_o (by omega)]; exact b63
        have b4 : bg I (4 + 2 * k) 0 = I (4 + 2 * k) 0 := bg_o (by omega)
        have d4 : dqI (bg I) (4 + 2 * k) 0 = I (4 + 2 * k) 0 := by rw [dqI_o (by omega), b4]
        have dm : mdq J 66 (5 * a + b) = nI r := by rw [mdq_o (by omega)]; exact er
        rcases (show kd = 0 ∨ kd = 1 ∨ kd = 2 ∨ kd = 3 ∨ kd = 4 by omega) with rfl | rfl | rfl | rfl | rfl
        · exact RB_fT (r := r) hb5 (RAF_bg h) (by omega) (LQ_of (RAF_bg h).2.2.2.2 hpl hP er hr20) (by rw [b4]; exact hi) b63
        · obtain ⟨d1, d2⟩ := RAF_dq h (fun z => h1 ⟨rfl, z⟩)
          exact go (dqI (bg I)) (mdq J) _ _ _ _ d1 d4 dm d63 okLay (fun _ => hd_ho (f8_nan _)) (fun _ => by rw [d2, hb5]) (fun _ => by rw [d2])
        · by_cases h0 : I 44 2 = 0
          · rw [show wkE 2 k n v I U = (0, tel (bg I) 4, U) by simp [wkE, h0], show dnE 2 b (24 * r + n) v J V = (0, mtel J 4, V) by simp [dnE, h00.mp h0]]
            exact ⟨rfl, RB_tel (by decide) h⟩
          · obtain ⟨d1, d2⟩ := RAF_dq h h0
            have h0' : ¬ J 65 5 = 0 := fun z => h0 (h00.mpr z)
            rw [show wkE 2 k n v I U = fT k n (laI k n (vPull (k % 5) (I (5 + 2 * k) n) (dqV (bg I))) (dqI (bg I))) (laU k n (fHo (FP.fadd (U (5 + 2 * k) n) (f8 (dqV (bg I))))) U) by simp [wkE, h0], show dnE 2 b (24 * r + n) v J V = mfT b (24 * r + n) (mlaI b (24 * r + n) (vPull b (J 68 (24 * r + n)) (J 70 0)) (mdq J)) (mlaU b (24 * r + n) (fHo (FP.fadd (V 69 (24 * r + n)) (f8 (J 70 0)))) V) by simp [dnE, h0']]
            exact go (dqI (bg I)) (mdq J) _ _ _ _ d1 d4 dm d63 (okPull okn) (fun h2 => hd_ho (notnan (nn_add (okn.2 h2) (f8_nan _)))) (fun h2 => by rw [d2, hb5, q.2 h2]) (fun h2 => by rw [d2, q.1 h2])
        · exact go (bg I) J _ _ _ _ (RAF_bg h) b4 er b63 (okPull okn) (fun h2 => hd_ho (notnan (nn_add (okn.2 h2) (f8_nan _)))) (fun h2 => by rw [hb5, q.2 h2]) (fun h2 => by rw [q.1 h2])
        · by_cases hv : v = 0 ∧ ¬ b = 3
          · rw [show wkE 4 k n v I U = (0, tel (bg I) 5, U) by
              rw [← hb5] at hv
              simp [wkE, hv], show dnE 4 b (24 * r + n) v J V = (0, mtel J 5, V) by simp [dnE, hv]]
            exact ⟨rfl, RB_tel (by decide) h⟩
          · have hv' : ¬ v = 0 ∨ k % 5 = 3 := by
              by_cases z : v = 0
              · exact Or.inr (hb5.trans (Classical.not_not.mp (fun y => hv ⟨z, y⟩)))
              · exact Or.inl z
            rw [show wkE 4 k n v I U = fT k n (laI k n (vPart (k % 5) (I (5 + 2 * k) n) v) (bg I)) (laU k n (fHo (FP.fdiv (U (5 + 2 * k) n) (FP.i2f v))) U) by
              rw [← hb5] at hv
              unfold wkE
              rw [if_neg (by decide), if_neg (by decide), if_neg (by decide), if_pos rfl, if_neg hv], show dnE 4 b (24 * r + n) v J V = mfT b (24 * r + n) (mlaI b (24 * r + n) (vPart b (J 68 (24 * r + n)) v) J) (mlaU b (24 * r + n) (fHo (FP.fdiv (V 69 (24 * r + n)) (FP.i2f v))) V) by
              unfold dnE
              rw [if_neg (by decide), if_neg (by decide), if_neg (by decide), if_pos rfl, if_neg hv]]
            exact go (bg I) J _ _ _ _ (RAF_bg h) b4 er b63 (okPart okn hv') (fun h2 => hd_ho (notnan (nn_div (okn.2 h2) (hv'.resolve_right (by omega))))) (fun h2 => by rw [hb5, q.2 h2]) (fun h2 => by rw [q.1 h2])
      · rw [show lfI (some k) x I = 2 from if_neg hi, if_neg hi, if_neg (by decide)]
        exact ⟨rfl, RAF_tel (by decide) hD⟩
theorem wkU_o {kd : Nat} {r : Option Nat} {i v : Int32} (hr : ∀ k, r = some k → k < 20) {x y : Nat} (h : 65 ≤ x) : (wk kd r i v I U).2.2 x y = U x y := by
  by_cases h1 : kd = 1 ∧ I 44 2 = 0
  · rw [wk_e h1]
  · cases r with
    | none => rw [wk_n h1]
    | some k =>
      have hk := hr k rfl
      rw [wk_s h1]
      split
      · unfold wkE fT
        repeat' split
        all_goals first | rfl | exact laU_o (by omega)
      · rfl
theorem dnU_o {kd pl b : Nat} {i v : Int32} {x y : Nat} (h : x < 65) : (dn kd pl b i v I U).2.2 x y = U x y := by
  unfold dn
  split
  · rfl
  · split
    · unfold dnE mfT
      repeat' split
      all_goals first | rfl | exact mlaU_o (by omega)
    · rfl
theorem two_act {kd f s0 x v : Int32} (h : RA I U P) : Two l D K A I U P yX10_act cX10_act 6 (some .int) 5 [.ref (A 0), .int kd, .int f, .int s0, .int x, .int v] yX11_act cX11_act 6 (some .int) 5 [.ref (A 65), .int kd, .int f, .int s0, .int x, .int v] := by
  by_cases hk : inK kd
  · by_cases hl : inL f s0
    · obtain ⟨kd, hkd, rfl⟩ := inK_of hk
      obtain ⟨a, ha, rfl⟩ := inF_of hl.1
      obtain ⟨b, hb, rfl⟩ := inS_of hl.2
      have hP20 : ∀ k, P (5 * a + b) = some k → k < 20 := fun k hk => ((rb_w h).1 _ _ (by omega) hk).1
      generalize hI1 : wk kd (P (5 * a + b)) x v I U = W
      have mc : MM l yX10_act cX10_act 6 (some .int) 5 D K A I U P [.ref (A 0), .int (nI kd), .int (nI a), .int (nI b), .int x, .int v] (XE (some (.int W.1)) W.2.1 W.2.2 P) := hI1 ▸ c_10_act hkd ha hb (RAF_ok h.1).1 (fun k hk => (rb_w h).2.1 k (hP20 k hk))
      have r0 : ∀ x y, 65 ≤ x → W.2.1 x y = I x y := fun x y q => by rw [← hI1]; exact wk_o hP20 (by omega)
      have r1 : ∀ x y, 65 ≤ x → W.2.2 x y = U x y := fun x y q => by rw [← hI1]; exact wkU_o hP20 q
      have sim : RB I U P W.2.1 W.2.2 → SIM W (dn kd (5 * a + b) b x v W.2.1 W.2.2) P := fun r => by
        have := sim_wk (x := x) (v := v) r.1 hkd ha hb
        rwa [hI1] at this
      refine two_E (I2 := (dn kd (5 * a + b) b x v W.2.1 W.2.2).2.1) (U2 := (dn kd (5 * a + b) b x v W.2.1 W.2.2).2.2) h mc r0 r1 (fun x y q => dn_o (by omega)) (fun x y q => dnU_o q) (fun r => ⟨?_, (sim r).2⟩)
      rw [(sim r).1]
      exact c_11_act hkd ha hb (RAF_ok r.1).2.2.1 (rb_w r).2.2.1 (rb_w r).2.2.2.1 (rb_w r).2.2.2.2.1
    · exact two_0 h (c_10_actX2 hk hl) (c_11_actX2 hk hl)
  · by_cases h0 : kd < 0
    · exact two_0 h (c_10_actX1 hk) (c_11_actX1a h0)
    · exact two_0 h (c_10_actX1 hk) (c_11_actX1b h0 (Classical.not_not.mp (fun z => hk ⟨h0, z⟩)))
end OPS4
