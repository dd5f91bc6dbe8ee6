/-! weave and run side by side -/
section OPS5
variable {l : Launch} {D : va_G} {K : Nat → ClassId} {A : Nat → Nat} {I J : TI} {U V : TU} {P : TP}
theorem ln_eq2 {pl u : Nat} (h : RW I U P J V) (hpl : pl < 20) (h5 : ¬ pl % 5 = 2) (hu : u < 24) (h0 : lfI (P pl) (nI u) I = 0) : lnI (P pl) u I = J 68 (24 * rN J pl + u) := by
  cases hP : P pl with
  | none => rw [hP] at h0; cases h0
  | some k =>
    obtain ⟨k', r, hk, hk5, hP', er, hr20, hq, -⟩ := RW_at h hpl (by rw [hP]; exact fun q => by cases q)
    rw [hP] at hP' h0
    cases hP'
    have hi : inR (I (4 + 2 * k) 0) (nI u) := by
      by_cases z : inR (I (4 + 2 * k) 0) (nI u)
      · exact z
      · rw [show lfI (some k) (nI u) I = 2 from if_neg z] at h0; cases h0
    rw [show rN J pl = r by unfold rN; rw [er, nI_clamp (by omega)], (hq.2 u hu hi).2 (by omega)]
    rfl
theorem wcF_eq {a u : Nat} (h : RW I U P J V) (ha : a < 4) (hu : u < 24) : wcF P a u I = mwcF J a u := by
  unfold wcF mwcF
  rw [lf_eq h (by omega), lf_eq h (by omega), lf_eq h (by omega)]
  by_cases h3 : lfI (P (5 * a + 3)) (nI u) I = 0
  · rw [ln_eq2 h (by omega) (by omega) hu h3]
  · rw [if_pos h3, if_pos h3]
theorem RAF_cell {n w r u : Nat} {z : Int32} (h : RAF I U P J V) : RAF (up2 I 47 (24 * r + u) z) U P (up2 J 72 (24 * r + u) z) V := by
  obtain ⟨rs, ⟨n', w, c1, c2, c3, c4, c5, c6, c7, c8, c9⟩, rd, rk, rw0⟩ := h
  refine ⟨RS_same rs (fun x y q => up2_ne (by omega)) (fun x y q => up2_ne (by omega)), ⟨n', w, c1, c2, by rw [up2_ne (by omega)]; exact c3, by rw [up2_ne (by omega)]; exact c4, by rw [up2_ne (by omega)]; exact c5, by rw [up2_ne (by omega)]; exact c6, by rw [up2_ne (by omega), up2_ne (by omega)]; exact c7, fun p hp => by rw [up2_ne (by omega), up2_ne (by omega)]; exact c8 p hp, fun r' u' hr hu => ?_⟩, RD_same rd (fun x y q => up2_ne (by omega)) (fun x y q => up2_ne (by omega)), RK_same rk (fun x y q => up2_ne (by omega)) (fun x y q => up2_ne (by omega)), RW_same rw0 (fun x y q => up2_ne (by omega)) (fun _ _ _ => rfl) (fun x y q => up2_ne (by omega)) (fun _ => rfl)⟩
  by_cases e : 24 * r' + u' = 24 * r + u
  · rw [e, up2_same, up2_same]
  · rw [up2_ne (by omega), up2_ne (by omega)]
    exact c9 r' u' hr hu
theorem sim_wc {a u r : Nat} {weft : Int32} (h : RAF I U P J V) (ha : a < 4) (hu : u < 24) (h0 : wcF P a u I = 0) : RAF (wcI P a u r weft I) U P (mwcI J a u r weft) V := by
  have hw := h.2.2.2.2
  have g3 : lfI (P (5 * a + 3)) (nI u) I = 0 := by
    by_cases z : lfI (P (5 * a + 3)) (nI u) I = 0
    · exact z
    · unfold wcF at h0; rw [if_pos z] at h0; exact h0
  have g0 : lnI (P (5 * a + 3)) u I = 1 → lfI (P (5 * a + 0)) (nI u) I = 0 := fun q => by
    by_cases z : lfI (P (5 * a + 0)) (nI u) I = 0
    · exact z
    · unfold wcF at h0; rw [if_neg (fun y => y g3), if_pos ⟨q, z⟩] at h0; exact h0
  have g1 : lfI (P (5 * a + 1)) (nI u) I = 0 := by
    unfold wcF at h0
    rw [if_neg (fun y => y g3)] at h0
    by_cases z : lnI (P (5 * a + 3)) u I = 1 ∧ ¬ lfI (P (5 * a + 0)) (nI u) I = 0
    · exact absurd (g0 z.1) z.2
    · rw [if_neg z] at h0; exact h0
  have ev : (if lnI (P (5 * a + 3)) u I = 1 then lnI (P (5 * a + 0)) u I else weft) = (if J 68 (24 * rN J (5 * a + 3) + u) = 1 then J 68 (24 * rN J (5 * a + 0) + u) else weft) := by
    rw [← ln_eq2 hw (by omega) (by omega) hu g3]
    by_cases q : lnI (P (5 * a + 3)) u I = 1
    · rw [if_pos q, if_pos q, ln_eq2 hw (by omega) (by omega) hu (g0 q)]
    · rw [if_neg q, if_neg q]
  have e1 := ln_eq2 hw (by omega) (by omega) hu g1
  unfold wcI mwcI
  rw [ev]
  cases hP : P (5 * a + 1) with
  | none => rw [hP] at g1; cases g1
  | some k =>
    obtain ⟨k', r1, hk, hk5, hP', er, hr20, hq, -⟩ := RW_at hw (pl := 5 * a + 1) (by omega) (by rw [hP]; exact fun q => by cases q)
    rw [hP] at hP' e1
    cases hP'
    have hk1 : k % 5 = 1 := by omega
    have R2 := RAF_la (x := vPull (k % 5) (I (5 + 2 * k) u) (-1)) (y := U (5 + 2 * k) u) h (by omega) hP er hr20 hu ⟨fun z => by omega, fun z => by omega⟩ (fun z => by omega)
    rw [laU_ne (by omega), mlaU_n (by omega)] at R2
    refine RAF_cell (n := 0) (w := 0) ?_
    rw [show up2 J 68 (24 * rN J (5 * a + 1) + u) (cutTo 1 (J 68 (24 * rN J (5 * a + 1) + u) - 1)) = mlaI (k % 5) (24 * r1 + u) (vPull (k % 5) (I (5 + 2 * k) u) (-1)) J by
      rw [← e1, show rN J (5 * a + 1) = r1 by unfold rN; rw [er, nI_clamp (by omega)], hk1, mlaI, if_neg (by decide), vPull, if_neg (by decide)]
      show up2 J 68 (24 * r1 + u) (cutTo 1 (I (5 + 2 * k) u - 1)) = up2 J 68 (24 * r1 + u) (cutTo 1 (I (5 + 2 * k) u + -1))
      rw [Int32.sub_eq_add_neg]]
    exact R2
theorem wv_o {a r : Nat} {weft : Int32} (ha : a < 4) (hP : okP P) {x y : Nat} (h : ¬ (x = 47 ∨ (5 ≤ x ∧ x < 44 ∧ x % 2 = 1))) : ∀ (f u : Nat) (I : TI), (wv P a r weft f u I).2.2 x y = I x y := by
  intro f
  induction f with
  | zero => intro u I; rfl
  | succ f ih =>
    intro u I
    unfold wv
    split
    · rw [ih, wcI_o ha hP h]
    · rfl
theorem mwv_o {a r : Nat} {weft : Int32} {x y : Nat} (h : ¬ (x = 68 ∨ x = 72)) : ∀ (f u : Nat) (I : TI), (mwv a r weft f u I).2.2 x y = I x y := by
  intro f
  induction f with
  | zero => intro u I; rfl
  | succ f ih =>
    intro u I
    unfold mwv
    split
    · rw [ih, mwcI_o h]
    · rfl
theorem sim_wv {a r : Nat} {weft : Int32} (ha : a < 4) : ∀ (f u : Nat) (I J : TI), RAF I U P J V → u + f ≤ 24 → (wv P a r weft f u I).1 = (mwv a r weft f u J).1 ∧ (wv P a r weft f u I).2.1 = (mwv a r weft f u J).2.1 ∧ (wv P a r weft f u I).2.1 ≤ 2 ∧ RAF (wv P a r weft f u I).2.2 U P (mwv a r weft f u J).2.2 V := by
  intro f
  induction f with
  | zero => intro u I J h _; exact ⟨rfl, rfl, Nat.zero_le _, h⟩
  | succ f ih =>
    intro u I J h hu
    have e := wcF_eq (u := u) h.2.2.2.2 ha (by omega)
    by_cases h0 : wcF P a u I = 0
    · rw [wv, mwv, if_pos h0, if_pos (e.symm.trans h0)]
      exact ih (u + 1) _ _ (sim_wc h ha (by omega) h0) (by omega)
    · rw [wv, mwv, if_neg h0, if_neg (fun z => h0 (e.trans z))]
      exact ⟨rfl, e, wcF_le, h⟩
theorem two_weave {f x weft : Int32} (h : RA I U P) : Two l D K A I U P yX10_weave cX10_weave 7 (some .int) 6 [.ref (A 0), .int f, .int x, .int weft] yX11_weave cX11_weave 7 (some .int) 6 [.ref (A 65), .int f, .int x, .int weft] := by
  by_cases hf : inF f
  · obtain ⟨a, ha, rfl⟩ := inF_of hf
    obtain ⟨n, w, c1, c2, c3, c4, c5, c6, c7, c8, c9⟩ := h.1.2.1
    by_cases ht : I 46 2 = 0
    · exact two_tel (by decide) h (c_10_weave1 ha c3 c1 ht) (fun r => c_11_weave1 ha (by rw [tel_1 (by omega), bg_1 (by omega), c7]; exact ht))
    · by_cases hp : inR (I 46 3) x
      · obtain ⟨j, hj, rfl⟩ := inR_of (by omega) (c3 ▸ hp)
        rcases (c8 j hj).2 with hr | ⟨r0, hr0, hr⟩
        · exact two_tel (by decide) h (c_10_weave3 ha c3 c1 ht hp (by rw [nI_clamp (by omega)]; exact hr)) (fun r => c_11_weave3 ha (by rw [tel_1 (by omega), bg_1 (by omega), c7]; exact ht) (by rw [tel_1 (by omega), bg_1 (by omega)]; exact c5) c1 hj (by rw [tel_1 (by omega), bg_1 (by omega), (c8 j hj).1]; exact hr))
        · have mc := c_10_weave (l := l) (D := D) (K := K) (A := A) (U := U) (weft := weft) ha c3 c1 ht hj hr (by omega) c4 c2 (rb_w h).1 (rb_w h).2.1
          have lo : ∀ x y, ¬ (x = 47 ∨ (5 ≤ x ∧ x < 44 ∧ x % 2 = 1)) → (wv P a r0 weft w 0 (bg I)).2.2 x y = bg I x y := fun x y q => wv_o ha (rb_w h).1 q _ _ _
          generalize hI1 : (if (wv P a r0 weft w 0 (bg I)).2.1 = 0 then up2 (wv P a r0 weft w 0 (bg I)).2.2 0 7 ((wv P a r0 weft w 0 (bg I)).2.2 0 7 + 1) else tel (wv P a r0 weft w 0 (bg I)).2.2 (wv P a r0 weft w 0 (bg I)).2.1) = I1 at mc
          have o1 : ∀ x y, 65 ≤ x → I1 x y = I x y := fun x y q => by
            rw [← hI1]
            split
            · rw [up2_ne (by omega), lo _ _ (by omega), bg_1 q]
            · rw [tel_1 q, lo _ _ (by omega), bg_1 q]
          refine two_E (I2 := if (mwv a r0 weft w 0 I1).2.1 = 0 then mbg (up2 (mwv a r0 weft w 0 I1).2.2 65 17 ((mwv a r0 weft w 0 I1).2.2 65 17 + 1)) else mtel (mwv a r0 weft w 0 I1).2.2 (mwv a r0 weft w 0 I1).2.1) (U2 := U) h mc o1 (fun _ _ _ => rfl) (fun x y q => ?_) (fun _ _ _ => rfl) (fun r => ?_)
          · split
            · rw [mbg_1 q, up2_ne (by omega), mwv_o (by omega)]
            · rw [mtel_1 q, mwv_o (by omega)]
          · obtain ⟨q1, q2, q3, q4⟩ := sim_wv (r := r0) (weft := weft) ha w 0 _ _ (RAF_bg r.1) (by omega)
            refine ⟨?_, ?_⟩
            · rw [q1, q2]
              exact c_11_weave ha (by rw [o1 _ _ (by omega)]; exact c5) c1 (by rw [o1 _ _ (by omega), c7]; exact ht) hj (by rw [o1 _ _ (by omega), (c8 j hj).1]; exact hr) (by omega) (by rw [o1 _ _ (by omega)]; exact c6) c2 (rb_w r).2.2.1 (rb_w r).2.2.2.1 (RW_okX (rb_w r))
            · rw [← q2]
              rw [show RB I1 U P = RB (if (wv P a r0 weft w 0 (bg I)).2.1 = 0 then up2 (wv P a r0 weft w 0 (bg I)).2.2 0 7 ((wv P a r0 weft w 0 (bg I)).2.2 0 7 + 1) else tel (wv P a r0 weft w 0 (bg I)).2.2 (wv P a r0 weft w 0 (bg I)).2.1) U P from congrArg (fun z => RB z U P) hI1.symm]
              have b63 : (wv P a r0 weft w 0 (bg I)).2.2 63 1 = 0 := by rw [lo _ _ (by omega), bg, up2_same]
              by_cases z : (wv P a r0 weft w 0 (bg I)).2.1 = 0
              · rw [if_pos z, if_pos z]
                generalize (wv P a r0 weft w 0 (bg I)).2.2 = I3 at q4 b63 ⊢
                generalize (mwv a r0 weft w 0 I1).2.2 = J3 at q4 ⊢
                obtain ⟨rs, rc, rd, ⟨k1, k2, k3, k4⟩, rw0⟩ := q4
                refine ⟨RAF_mbg ⟨RS_same rs (fun x y q => up2_ne (by omega)) (fun x y q => up2_ne (by omega)), RC_same rc (fun x y q => up2_ne (by omega)) (fun x y q => up2_ne (by omega)), RD_same rd (fun x y q => up2_ne (by omega)) (fun x y q => up2_ne (by omega)), ⟨by rw [up2_ne (by omega), up2_ne (a := 0) (by omega)]; exact k1, by rw [up2_ne (by omega), up2_ne (a := 0) (by omega)]; exact k2, by rw [up2_same, up2_same, k3], fun f hf => by rw [up2_ne (by omega), up2_ne (a := 64) (by omega)]; exact k4 f hf⟩, RW_same rw0 (fun x y q => up2_ne (by omega)) (fun _ _ _ => rfl) (fun x y q => up2_ne (by omega)) (fun _ => rfl)⟩, ?_⟩
                rw [up2_ne (a := 63) (by omega), b63, mbg, up2_same]
              · rw [if_neg z, if_neg z, q2]
                exact RAF_tel (by rw [← q2]; omega) q4
      · exact two_tel (by decide) h (c_10_weave2 ha c3 c1 ht hp) (fun r => c_11_weave2 ha (by rw [tel_1 (by omega), bg_1 (by omega), c7]; exact ht) (by rw [tel_1 (by omega), bg_1 (by omega), c5, ← c3]; exact hp))
  · exact two_0 h (c_10_weaveX hf) (c_11_weaveX hf)
theorem mrn_o {co : Nat} : ∀ (f t : Nat) (J : TI) (V : TU) (x y : Nat), x < 65 → (mrn co f t J V).2.1 x y = J x y ∧ (mrn co f t J V).2.2 x y = V x y := by
  intro f
  induction f with
  | zero => intro t J V x y h; exact ⟨rfl, rfl⟩
  | succ f ih =>
    intro t J V x y h
    have e1 : mrnI (t % co) J V x y = J x y := by
      unfold mrnI mrnS
      rw [up2_ne (by omega), dn_o (by omega)]
    have e2 : (mrnS (t % co) J V).2.2 x y = V x y := dnU_o h
    unfold mrn
    split
    · exact ⟨e1, e2⟩
    · obtain ⟨q1, q2⟩ := ih (t + 1) (up2 (mrnI (t % co) J V) 65 14 0) (mrnS (t % co) J V).2.2 x y h
      exact ⟨by rw [q1, up2_ne (by omega), e1], by rw [q2, e2]⟩
theorem sim_rn {co : Nat} (hco : 0 < co) (h12 : co ≤ 12) : ∀ (f t : Nat) (I : TI) (U : TU) (J : TI) (V : TU), RAF I U P J V → J 65 14 = 0 → I 49 1 = nI co → (rn P co f t I U).1 = (mrn co f t J V).1 ∧ RB (rn P co f t I U).2.1 (rn P co f t I U).2.2 P (mrn co f t J V).2.1 (mrn co f t J V).2.2 ∧ ∀ x y, 65 ≤ x → (rn P co f t I U).2.1 x y = I x y ∧ (rn P co f t I U).2.2 x y = U x y := by
  intro f
  induction f with
  | zero =>
    intro t I U J V h hj _
    exact ⟨rfl, ⟨RAF_bg h, by show J 65 14 = bg I 63 1; rw [hj, bg, up2_same]⟩, fun x y q => ⟨bg_1 q, rfl⟩⟩
  | succ f ih =>
    intro t I U J V h hj hc
    have hm : t % co < co := Nat.mod_lt _ hco
    obtain ⟨co2, d1, d2, d3, d4, d5⟩ := h.2.2.1
    obtain rfl : co2 = co := (nI_eq (by omega) (by omega)).mp (d2.symm.trans hc)
    obtain ⟨kd, a, b, hk, ha, hb, e0, e1, e2⟩ := d4 (t % co2) hm
    have eS : rnS P (t % co2) I U = wk kd (P (5 * a + b)) (I (51 + t % co2) 3) (I (51 + t % co2) 4) I U := by
      unfold rnS cdN
      rw [e0, e1, e2, nI_clamp (by omega), nI_clamp (by omega), nI_clamp (by omega)]
    have eM : mrnS (t % co2) J V = dn kd (5 * a + b) b (I (51 + t % co2) 3) (I (51 + t % co2) 4) J V := by
      unfold mrnS mcN
      rw [d5 _ 0 hm (by omega), d5 _ 1 hm (by omega), d5 _ 2 hm (by omega), d5 _ 3 hm (by omega), d5 _ 4 hm (by omega), e0, e1, e2, nI_clamp (by omega), nI_clamp (by omega), nI_clamp (by omega)]
    have S0 : SIM (rnS P (t % co2) I U) (mrnS (t % co2) J V) P := by
      rw [eS, eM]; exact sim_wk h hk ha hb
    have hP20 : ∀ k, P (5 * a + b) = some k → k < 20 := fun k hk => (h.2.2.2.2.1 _ _ (by omega) hk).1
    have oI : ∀ x y, ¬ (x = 44 ∨ x = 63 ∨ x = 64 ∨ (5 ≤ x ∧ x < 44 ∧ x % 2 = 1)) → (rnS P (t % co2) I U).2.1 x y = I x y := fun x y q => by rw [eS]; exact wk_o hP20 q
    have oU : ∀ x y, 65 ≤ x → (rnS P (t % co2) I U).2.2 x y = U x y := fun x y q => by rw [eS]; exact wkU_o hP20 q
    have oJ : ∀ x y, ¬ (x = 68 ∨ x = 70 ∨ x = 74 ∨ x = 65 ∧ (y = 5 ∨ y = 14)) → (mrnS (t % co2) J V).2.1 x y = J x y := fun x y q => by rw [eM]; exact dn_o q
    have S1 : RB (rnI P (t % co2) I U) (rnS P (t % co2) I U).2.2 P (mrnI (t % co2) J V) (mrnS (t % co2) J V).2.2 := by
      obtain ⟨v1, ⟨rs, rc, rd, ⟨k1, k2, k3, k4⟩, rw0⟩, rf0⟩ := S0
      unfold rnI mrnI
      refine ⟨⟨RS_same rs (fun x y q => up2_ne (by omega)) (fun x y q => up2_ne (by omega)), RC_same rc (fun x y q => up2_ne (by omega)) (fun x y q => up2_ne (by omega)), RD_same rd (fun x y q => up2_ne (by omega)) (fun x y q => up2_ne (by omega)), ⟨by rw [up2_ne (by omega), up2_ne (a := 0) (by omega)]; exact k1, by rw [up2_same, up2_same, v1, h.2.2.2.1.2.1], by rw [up2_ne (by omega), up2_ne (a := 0) (by omega)]; exact k3, fun f hf => by rw [up2_ne (by omega), up2_ne (a := 64) (by omega)]; exact k4 f hf⟩, RW_same rw0 (fun x y q => up2_ne (by omega)) (fun _ _ _ => rfl) (fun x y q => up2_ne (by omega)) (fun _ => rfl)⟩, by rw [up2_ne (by omega), up2_ne (a := 63) (by omega)]; exact rf0⟩
    have o1 : ∀ x y, 65 ≤ x → rnI P (t % co2) I U x y = I x y := fun x y q => by
      unfold rnI
      rw [up2_ne (by omega), oI _ _ (by omega)]
    have c49 : rnI P (t % co2) I U 49 1 = nI co2 := by
      unfold rnI
      rw [up2_ne (by omega), oI _ _ (by omega)]; exact d2
    have ee : endsBy (I 0 5) (rnI P (t % co2) I U 63 1) ↔ endsBy (J 65 13) (mrnI (t % co2) J V 65 14) := by rw [h.2.2.2.1.1, S1.2]
    by_cases z : endsBy (I 0 5) (rnI P (t % co2) I U 63 1)
    · rw [rn, mrn, if_pos z, if_pos (ee.mp z)]
      exact ⟨rfl, S1, fun x y q => ⟨o1 x y q, oU x y q⟩⟩
    · rw [rn, mrn, if_neg z, if_neg (fun y => z (ee.mpr y))]
      obtain ⟨q1, q2, q3⟩ := ih (t + 1) (rnI P (t % co2) I U) (rnS P (t % co2) I U).2.2 (up2 (mrnI (t % co2) J V) 65 14 0) (mrnS (t % co2) J V).2.2 (RAF_same S1.1 (fun _ _ _ => rfl) (fun _ _ _ => rfl) (fun x y q => up2_ne (by omega)) (fun _ _ _ => rfl)) up2_same c49
      exact ⟨q1, q2, fun x y q => ⟨((q3 x y q).1).trans (o1 x y q), ((q3 x y q).2).trans (oU x y q)⟩⟩
theorem two_run {x : Int32} (h : RA I U P) : Two l D K A I U P yX10_run cX10_run 4 (some .int) 5 [.ref (A 0), .int x] yX11_run cX11_run 5 (some .int) 6 [.ref (A 65), .int x] := by
  by_cases h1 : x < 1
  · exact two_0 h (c_10_runX1 h1) (c_11_runX1 h1)
  · by_cases h2 : 12 < x
    · exact two_0 h (c_10_runX2 h1 h2) (c_11_runX2 h1 h2)
    · obtain ⟨co, d1, d2, d3, d4, d5⟩ := h.1.2.2.1
      by_cases h0 : co = 0
      · subst h0
        exact two_0 h (c_10_runX3 h1 h2 d2) (c_11_runX3 h1 h2 d3)
      · obtain ⟨n, hn1, hn, rfl⟩ : ∃ n : Nat, 1 ≤ n ∧ n ≤ 12 ∧ x = nI n := by
          obtain ⟨j, hj, e⟩ := inR_of (n := 13) (by decide) (x := x) ⟨fun q => h1 (by
            have := Int32.lt_iff_toInt_lt.mp q
            rw [show (0 : Int32).toInt = 0 from rfl] at this
            exact Int32.lt_iff_toInt_lt.mpr (by rw [show (1 : Int32).toInt = 1 from rfl]; omega)), fun q => h2 (by
            have := Int32.le_iff_toInt_le.mp q
            rw [show (nI 13).toInt = 13 from rfl] at this
            exact Int32.lt_iff_toInt_lt.mpr (by rw [show (12 : Int32).toInt = 12 from rfl]; omega))⟩
          refine ⟨j, ?_, by omega, e⟩
          rcases Nat.eq_zero_or_pos j with q | q
          · subst q; subst e; exact absurd (by decide) h1
          · exact q
        have st : ∀ J V, RAF I U P J V → RAF (up2 I 0 6 0) U P (up2 (up2 J 65 16 0) 65 14 0) V := by
          intro J V r
          obtain ⟨rs, rc, rd, ⟨k1, k2, k3, k4⟩, rw0⟩ := r
          exact ⟨RS_same rs (fun x y q => up2_ne (by omega)) (fun x y q => by rw [up2_ne (by omega), up2_ne (by omega)]), RC_same rc (fun x y q => up2_ne (by omega)) (fun x y q => by rw [up2_ne (by omega), up2_ne (by omega)]), RD_same rd (fun x y q => up2_ne (by omega)) (fun x y q => by rw [up2_ne (by omega), up2_ne (by omega)]), ⟨by rw [up2_ne (by omega), up2_ne (by omega), up2_ne (a := 0) (by omega)]; exact k1, by rw [up2_ne (by omega), up2_same, up2_same], by rw [up2_ne (by omega), up2_ne (by omega), up2_ne (a := 0) (by omega)]; exact k3, fun f hf => by rw [up2_ne (by omega), up2_ne (by omega), up2_ne (a := 64) (by omega)]; exact k4 f hf⟩, RW_same rw0 (fun x y q => up2_ne (by omega)) (fun _ _ _ => rfl) (fun x y q => by rw [up2_ne (by omega), up2_ne (by omega)]) (fun _ => rfl)⟩
        have hc0 : up2 I 0 6 0 49 1 = nI co := by rw [up2_ne (by omega)]; exact d2
        have lo := (sim_rn (by omega) d1 n 0 _ _ _ _ (st _ _ h.1) up2_same hc0).2.2
        have mc := c_10_run (l := l) (D := D) (K := K) (A := A) hn1 hn (by omega) d1 d2 (rb_w h).1 (RAF_ok h.1).1 (rb_w h).2.1 (RAF_ok h.1).2.1
        have sm : ∀ J V, RAF I U P J V → _ := fun J V r => sim_rn (by omega) d1 n 0 _ _ _ _ (st J V r) up2_same hc0
        generalize rn P co n 0 (up2 I 0 6 0) U = W at mc lo sm
        refine two_E (I2 := (mrn co n 0 (up2 (up2 W.2.1 65 16 0) 65 14 0) W.2.2).2.1) (U2 := (mrn co n 0 (up2 (up2 W.2.1 65 16 0) 65 14 0) W.2.2).2.2) h mc (fun x y q => by rw [(lo x y q).1, up2_ne (by omega)]) (fun x y q => (lo x y q).2) (fun x y q => by rw [(mrn_o _ _ _ _ _ _ q).1, up2_ne (by omega), up2_ne (by omega)]) (fun x y q => (mrn_o _ _ _ _ _ _ q).2) (fun r => ?_)
        obtain ⟨q1, q2, -⟩ := sm _ _ r.1
        refine ⟨?_, q2⟩
        rw [q1]
        have c12 : W.2.1 65 12 = nI co := by rw [(lo 65 12 (by omega)).1, up2_ne (by omega)]; exact d3
        exact c_11_run hn1 hn (by omega) d1 c12 (RAF_ok r.1).2.2.1 (rb_w r).2.2.1 (rb_w r).2.2.2.1 (rb_w r).2.2.2.2.1 (RAF_ok r.1).2.2.2
end OPS5
