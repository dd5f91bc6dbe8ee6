/-! cloth, snip, hang, cell, card, unhook, keeper, told side by side -/
section OPS3
variable {l : Launch} {D : va_G} {K : Nat → ClassId} {A : Nat → Nat} {I : TI} {U : TU} {P : TP}
theorem nI_24 {n : Int32} (h : ¬ 24 < n) (hz : ¬ n < 0) : ∃ j : Nat, j ≤ 24 ∧ n = nI j := by
  obtain ⟨j, hj, e⟩ := inR_of (n := 25) (by decide) (x := n) ⟨hz, fun q => by
    have h1 := Int32.le_iff_toInt_le.mp q
    have h2 := Int32.le_iff_toInt_le.mp (Int32.not_lt.mp h)
    rw [show (nI 25).toInt = 25 from rfl] at h1
    rw [show (24 : Int32).toInt = 24 from rfl] at h2
    omega⟩
  exact ⟨j, by omega, e⟩
theorem rnw_o {I : TI} {n w x y : Nat} (h : ¬ (x = 46 ∨ x = 47 ∨ x = 48)) : rnw I n w x y = I x y := by
  unfold rnw
  rw [if_neg (by omega), if_neg (by omega), if_neg (by omega), if_neg (by omega), if_neg (by omega)]
theorem mcl_o {I : TI} {n w x y : Nat} (h : ¬ (x = 71 ∨ x = 72 ∨ x = 65 ∧ (y = 6 ∨ y = 7 ∨ y = 8))) : mcl I n w x y = I x y := by
  unfold mcl mclK
  rw [if_neg (by omega), if_neg (by omega), if_neg (by omega), if_neg (by omega), if_neg (by omega)]
theorem RAF_cloth {I J : TI} {U V : TU} {P : TP} {n w : Nat} (hn : n ≤ 24) (hw : w ≤ 24) (r : RAF I U P J V) : RAF (rnw I n w) U P (mcl J n w) V := by
  obtain ⟨rs, rc, rd, rk, rw0⟩ := r
  refine ⟨RS_same rs (fun x y q => rnw_o (by omega)) (fun x y q => mcl_o (by omega)), ⟨n, w, hn, hw, by simp [rnw], by simp [rnw], by simp [mcl, mclK], by simp [mcl, mclK], by simp [mcl, mclK, rnw], fun p hp => ?_, fun r u hr hu => ?_⟩, RD_same rd (fun x y q => rnw_o (by omega)) (fun x y q => mcl_o (by omega)), RK_same rk (fun x y q => rnw_o (by omega)) (fun x y q => mcl_o (by omega)), RW_same rw0 (fun x y q => rnw_o (by omega)) (fun _ _ _ => rfl) (fun x y q => mcl_o (by omega)) (fun _ => rfl)⟩
  · have e1 : rnw I n w 48 p = nI p := by simp [rnw, hp]
    have e2 : mcl J n w 71 p = nI p := by simp [mcl, mclK, hp]
    rw [e1, e2]
    exact ⟨rfl, Or.inr ⟨p, hp, rfl⟩⟩
  · have e1 : rnw I n w 47 (24 * r + u) = 0 := by
      unfold rnw
      rw [if_neg (by omega), if_neg (by omega), if_neg (by omega), if_neg (by omega), if_pos (by omega)]
    have e2 : mcl J n w 72 (24 * r + u) = 0 := by
      unfold mcl mclK
      rw [if_neg (by omega), if_neg (by omega), if_neg (by omega), if_neg (by omega), if_pos (by omega)]
    rw [e1, e2]
theorem two_cloth {n w : Int32} (h : RA I U P) : Two l D K A I U P yX10_cloth cX10_cloth 3 (some .int) 5 [.ref (A 0), .int n, .int w] yX11_cloth cX11_cloth 4 (some .int) 5 [.ref (A 65), .int n, .int w] := by
  by_cases h1 : 24 < n
  · exact two_0 h (c_10_clothX1 h1) (c_11_clothX1 h1)
  · by_cases h2 : w ≤ 24
    · by_cases h3 : n < 0
      · exact two_tel (by decide) h (c_10_clothZ1 h1 h2 h3) (fun r => c_11_clothZ1 h1 h2 h3)
      · by_cases h4 : 0 ≤ w
        · obtain ⟨n, hn, rfl⟩ := nI_24 h1 h3
          obtain ⟨w, hw, rfl⟩ := nI_24 (Int32.not_lt.mpr h2) (Int32.not_lt.mpr h4)
          refine two_E (I2 := mbg (mcl (rnw (bg I) n w) n w)) (U2 := U) h (c_10_cloth hn hw) (fun x y q => by rw [rnw_o (by omega), bg_1 q]) (fun _ _ _ => rfl) (fun x y q => by rw [mbg_1 q, mcl_o (by omega)]) (fun _ _ _ => rfl) (fun r => ⟨c_11_cloth hn hw, RAF_mbg (RAF_cloth hn hw (RAF_bg r.1)), ?_⟩)
          rw [rnw_o (by omega), bg, mbg, up2_same, up2_same]
        · exact two_tel (by decide) h (c_10_clothZ2 h1 h2 h3 h4) (fun r => c_11_clothZ2 h1 h2 h3 h4)
    · exact two_0 h (c_10_clothX2 h1 h2) (c_11_clothX2 h1 h2)
/-- a row laid at another pick -/
theorem RAF_row {I J : TI} {U V : TU} {P : TP} {j n : Nat} {v : Int32} (hn : I 46 3 = nI n) (h24 : n ≤ 24) (hv : v = -1 ∨ ∃ r : Nat, r < n ∧ v = nI r) (r : RAF I U P J V) : RAF (up2 I 48 j v) U P (up2 J 71 j v) V := by
  obtain ⟨rs, ⟨n', w, c1, c2, c3, c4, c5, c6, c7, c8, c9⟩, rd, rk, rw0⟩ := r
  have : n' = n := (nI_eq (by omega) (by omega)).mp (c3.symm.trans hn)
  subst this
  refine ⟨RS_same rs (fun x y q => up2_ne (by omega)) (fun x y q => up2_ne (by omega)), ⟨n', w, c1, c2, by rw [up2_ne (by omega)]; exact c3, by rw [up2_ne (by omega)]; exact c4, by rw [up2_ne (by omega)]; exact c5, by rw [up2_ne (by omega)]; exact c6, by rw [up2_ne (by omega), up2_ne (by omega)]; exact c7, fun p hp => ?_, fun r u hr hu => by rw [up2_ne (by omega), up2_ne (by omega)]; exact c9 r u hr hu⟩, RD_same rd (fun x y q => up2_ne (by omega)) (fun x y q => up2_ne (by omega)), RK_same rk (fun x y q => up2_ne (by omega)) (fun x y q => up2_ne (by omega)), RW_same rw0 (fun x y q => up2_ne (by omega)) (fun _ _ _ => rfl) (fun x y q => up2_ne (by omega)) (fun _ => rfl)⟩
  by_cases e : p = j
  · subst e
    rw [up2_same, up2_same]
    exact ⟨rfl, hv⟩
  · rw [up2_ne (by omega), up2_ne (by omega)]
    exact c8 p hp
theorem RB_row {I J : TI} {U V : TU} {P : TP} {j n : Nat} {v : Int32} (hn : I 46 3 = nI n) (h24 : n ≤ 24) (hv : v = -1 ∨ ∃ r : Nat, r < n ∧ v = nI r) (r : RAF I U P J V) : RB (up2 (bg I) 48 j v) U P (mbg (up2 J 71 j v)) V :=
  ⟨RAF_mbg (RAF_row (by rw [bg_o (by omega)]; exact hn) h24 hv (RAF_bg r)), by rw [up2_ne (by omega), bg, mbg, up2_same, up2_same]⟩
theorem two_snip {x : Int32} (h : RA I U P) : Two l D K A I U P yX10_snip cX10_snip 4 (some .int) 5 [.ref (A 0), .int x] yX11_snip cX11_snip 4 (some .int) 5 [.ref (A 65), .int x] := by
  obtain ⟨n, w, c1, c2, c3, c4, c5, c6, c7, c8, c9⟩ := h.1.2.1
  by_cases ht : I 46 2 = 0
  · exact two_tel (by decide) h (c_10_snip1 ht) (fun r => c_11_snip1 (by rw [tel_1 (by omega), bg_1 (by omega), c7]; exact ht))
  · by_cases hp : inR (I 46 3) x
    · obtain ⟨j, hj, rfl⟩ := inR_of (by omega) (c3 ▸ hp)
      have m6 : ¬ up2 (bg I) 48 j (-1) 65 6 = 0 := by rw [up2_ne (by omega), bg_1 (by omega), c7]; exact ht
      have m7 : up2 (bg I) 48 j (-1) 65 7 = nI n := by rw [up2_ne (by omega), bg_1 (by omega)]; exact c5
      have m71 : up2 (bg I) 48 j (-1) 71 j = I 48 j := by rw [up2_ne (by omega), bg_1 (by omega)]; exact (c8 j hj).1
      by_cases hr : I 48 j = -1
      · exact two_E (I2 := mbg (up2 (up2 (bg I) 48 j (-1)) 71 j (-1))) (U2 := U) h (c_10_snipN ht c3 c1 hj hr) (fun x y q => by rw [up2_ne (by omega), bg_1 q]) (fun _ _ _ => rfl) (fun x y q => by rw [mbg_1 q, up2_ne (by omega)]) (fun _ _ _ => rfl) (fun r => ⟨c_11_snipN m6 m7 c1 hj (m71.trans hr), RB_row c3 c1 (Or.inl rfl) r.1⟩)
      · exact two_E (I2 := mbg (up2 (up2 (bg I) 48 j (-1)) 71 j (-1))) (U2 := U) h (c_10_snipS ht c3 c1 hj hr) (fun x y q => by rw [up2_ne (by omega), bg_1 q]) (fun _ _ _ => rfl) (fun x y q => by rw [mbg_1 q, up2_ne (by omega)]) (fun _ _ _ => rfl) (fun r => ⟨c_11_snipS m6 m7 c1 hj (fun z => hr (m71.symm.trans z)), RB_row c3 c1 (Or.inl rfl) r.1⟩)
    · exact two_tel (by decide) h (c_10_snip2 ht hp) (fun r => c_11_snip2 (by rw [tel_1 (by omega), bg_1 (by omega), c7]; exact ht) (by rw [tel_1 (by omega), bg_1 (by omega), c5, ← c3]; exact hp))
theorem two_hang {x y : Int32} (h : RA I U P) : Two l D K A I U P yX10_hang cX10_hang 4 (some .int) 5 [.ref (A 0), .int x, .int y] yX11_hang cX11_hang 4 (some .int) 5 [.ref (A 65), .int x, .int y] := by
  obtain ⟨n, w, c1, c2, c3, c4, c5, c6, c7, c8, c9⟩ := h.1.2.1
  by_cases ht : I 46 2 = 0
  · exact two_tel (by decide) h (c_10_hang1 ht) (fun r => c_11_hang1 (by rw [tel_1 (by omega), bg_1 (by omega), c7]; exact ht))
  · by_cases hy : inR (I 46 3) y
    · by_cases hp : inR (I 46 3) x
      · obtain ⟨j, hj, rfl⟩ := inR_of (by omega) (c3 ▸ hp)
        obtain ⟨q0, hq, rfl⟩ := inR_of (by omega) (c3 ▸ hy)
        have m6 : ¬ up2 (bg I) 48 j (I 48 q0) 65 6 = 0 := by rw [up2_ne (by omega), bg_1 (by omega), c7]; exact ht
        have m7 : up2 (bg I) 48 j (I 48 q0) 65 7 = nI n := by rw [up2_ne (by omega), bg_1 (by omega)]; exact c5
        have m8 : up2 (bg I) 48 j (I 48 q0) 65 8 = I 46 4 := by rw [up2_ne (by omega), bg_1 (by omega)]; exact c6.trans c4.symm
        have m71 : up2 (bg I) 48 j (I 48 q0) 71 q0 = I 48 q0 := by rw [up2_ne (by omega), bg_1 (by omega)]; exact (c8 q0 hq).1
        by_cases hr : I 48 q0 = -1
        · refine two_E (I2 := mbg (up2 (up2 (bg I) 48 j (I 48 q0)) 71 j (I 48 q0))) (U2 := U) h (c_10_hangN ht c3 c1 hj hq hr) (fun x y q => by rw [up2_ne (by omega), bg_1 q]) (fun _ _ _ => rfl) (fun x y q => by rw [mbg_1 q, up2_ne (by omega)]) (fun _ _ _ => rfl) (fun r => ⟨?_, RB_row c3 c1 (c8 q0 hq).2 r.1⟩)
          have := c_11_hangN (l := l) (D := D) (K := K) (A := A) (U := U) (P := P) m6 m7 c1 hj hq (m71.trans hr)
          rwa [m71] at this
        · refine two_E (I2 := mbg (up2 (up2 (bg I) 48 j (I 48 q0)) 71 j (I 48 q0))) (U2 := U) h (c_10_hangS ht c3 c1 hj hq hr) (fun x y q => by rw [up2_ne (by omega), bg_1 q]) (fun _ _ _ => rfl) (fun x y q => by rw [mbg_1 q, up2_ne (by omega)]) (fun _ _ _ => rfl) (fun r => ⟨?_, RB_row c3 c1 (c8 q0 hq).2 r.1⟩)
          have := c_11_hangS (l := l) (D := D) (K := K) (A := A) (U := U) (P := P) m6 m7 c1 hj hq (fun z => hr (m71.symm.trans z))
          rwa [m71, m8] at this
      · exact two_tel (by decide) h (c_10_hang3 ht hy hp) (fun r => c_11_hang3 (by rw [tel_1 (by omega), bg_1 (by omega), c7]; exact ht) (by rw [tel_1 (by omega), bg_1 (by omega), c5, ← c3]; exact hy) (by rw [tel_1 (by omega), bg_1 (by omega), c5, ← c3]; exact hp))
    · exact two_tel (by decide) h (c_10_hang2 ht hy) (fun r => c_11_hang2 (by rw [tel_1 (by omega), bg_1 (by omega), c7]; exact ht) (by rw [tel_1 (by omega), bg_1 (by omega), c5, ← c3]; exact hy))
theorem two_cell {x y : Int32} (h : RA I U P) : Two l D K A I U P yX10_cell cX10_cell 4 (some .int) 5 [.ref (A 0), .int x, .int y] yX11_cell cX11_cell 4 (some .int) 5 [.ref (A 65), .int x, .int y] := by
  obtain ⟨n, w, c1, c2, c3, c4, c5, c6, c7, c8, c9⟩ := h.1.2.1
  by_cases ht : I 46 2 = 0
  · exact two_tel (by decide) h (c_10_cell1 c3 c1 ht) (fun r => c_11_cell1 (by rw [tel_1 (by omega), bg_1 (by omega), c7]; exact ht))
  · by_cases hp : inR (I 46 3) x
    · obtain ⟨j, hj, rfl⟩ := inR_of (by omega) (c3 ▸ hp)
      have o : ∀ f : Nat, (∀ x y, 65 ≤ x → tel (bg I) f x y = I x y) := fun f x y q => by rw [tel_1 q, bg_1 q]
      rcases (c8 j hj).2 with hr | ⟨r0, hr0, hr⟩
      · exact two_tel (by decide) h (c_10_cell3 c3 c1 ht hp (by rw [nI_clamp (by omega)]; exact hr)) (fun r => c_11_cell3 (by rw [o _ _ _ (by omega), c7]; exact ht) (by rw [o _ _ _ (by omega)]; exact c5) c1 hj (by rw [o _ _ _ (by omega), (c8 j hj).1]; exact hr))
      · by_cases hc : inR (I 46 4) y
        · obtain ⟨u, hu, rfl⟩ := inR_of (by omega) (c4 ▸ hc)
          refine two_E (I2 := mbg (bg I)) (U2 := U) h (c_10_cell c3 c1 ht hj hr (by omega) c4 c2 hu) (fun x y q => bg_1 q) (fun _ _ _ => rfl) (fun x y q => mbg_1 q) (fun _ _ _ => rfl) (fun r => ⟨?_, RB_bg r.1⟩)
          rw [show I 47 (24 * r0 + u) = bg I 72 (24 * r0 + u) by rw [bg_1 (by omega)]; exact (c9 r0 u hr0 hu).symm]
          exact c_11_cell (by rw [bg_1 (by omega), c7]; exact ht) (by rw [bg_1 (by omega)]; exact c5) c1 hj (by rw [bg_1 (by omega), (c8 j hj).1]; exact hr) (by omega) (by rw [bg_1 (by omega)]; exact c6) c2 hu
        · refine two_tel (by decide) h (c_10_cell4 c3 c1 ht hj hr (by omega) hc) (fun r => ?_)
          by_cases hy : y < 0
          · exact c_11_cell4a (by rw [o _ _ _ (by omega), c7]; exact ht) (by rw [o _ _ _ (by omega)]; exact c5) c1 hj (by rw [o _ _ _ (by omega), (c8 j hj).1]; exact hr) (by omega) hy
          · exact c_11_cell4b (by rw [o _ _ _ (by omega), c7]; exact ht) (by rw [o _ _ _ (by omega)]; exact c5) c1 hj (by rw [o _ _ _ (by omega), (c8 j hj).1]; exact hr) (by omega) hy (by
              rw [o _ _ _ (by omega), c6, ← c4]
              exact fun z => hc ⟨hy, Int32.not_le.mpr z⟩)
    · exact two_tel (by decide) h (c_10_cell2 c3 c1 ht hp) (fun r => c_11_cell2 (by rw [tel_1 (by omega), bg_1 (by omega), c7]; exact ht) (by rw [tel_1 (by omega), bg_1 (by omega), c5, ← c3]; exact hp))
theorem two_card {kd f s0 x v : Int32} (h : RA I U P) : Two l D K A I U P yX10_card cX10_card 6 (some .int) 5 [.ref (A 0), .int kd, .int f, .int s0, .int x, .int v] yX11_card cX11_card 7 (some .int) 5 [.ref (A 65), .int kd, .int f, .int s0, .int x, .int v] := by
  by_cases hk : inK kd
  · by_cases hl : inL f s0
    · obtain ⟨co, h1, h2, h3, h4, h5⟩ := h.1.2.2.1
      by_cases hf : co = 12
      · subst hf
        exact two_0 h (c_10_cardX3 hk hl h2) (c_11_cardX3 hk hl h3)
      · obtain ⟨kd, hkd, rfl⟩ := inK_of hk
        obtain ⟨a, ha, rfl⟩ := inF_of hl.1
        obtain ⟨b, hb, rfl⟩ := inS_of hl.2
        generalize hI1 : up2 (up2 (up2 (up2 (up2 (up2 I (51 + co) 0 (nI kd)) (51 + co) 1 (nI a)) (51 + co) 2 (nI b)) (51 + co) 3 x) (51 + co) 4 v) 49 1 (nI (co + 1)) = I1
        have e : ∀ x y, ¬ x = 51 + co → ¬ (x = 49 ∧ y = 1) → I1 x y = I x y := fun x y q q2 => by rw [← hI1, up2_ne (by omega), up2_ne (by omega), up2_ne (by omega), up2_ne (by omega), up2_ne (by omega), up2_ne (by omega)]
        have f0 : I1 (51 + co) 0 = nI kd := by rw [← hI1, up2_ne (by omega), up2_ne (by omega), up2_ne (by omega), up2_ne (by omega), up2_ne (by omega), up2_same]
        have f1 : I1 (51 + co) 1 = nI a := by rw [← hI1, up2_ne (by omega), up2_ne (by omega), up2_ne (by omega), up2_ne (by omega), up2_same]
        have f2 : I1 (51 + co) 2 = nI b := by rw [← hI1, up2_ne (by omega), up2_ne (by omega), up2_ne (by omega), up2_same]
        have f3 : I1 (51 + co) 3 = x := by rw [← hI1, up2_ne (by omega), up2_ne (by omega), up2_same]
        have f4 : I1 (51 + co) 4 = v := by rw [← hI1, up2_ne (by omega), up2_same]
        have f49 : I1 49 1 = nI (co + 1) := by rw [← hI1, up2_same]
        generalize hI2 : up2 (up2 (up2 (up2 (up2 (up2 I1 73 (5 * co) (nI kd)) 73 (5 * co + 1) (nI a)) 73 (5 * co + 2) (nI b)) 73 (5 * co + 3) x) 73 (5 * co + 4) v) 65 12 (nI (co + 1)) = I2
        have e2 : ∀ x y, ¬ x = 73 → ¬ (x = 65 ∧ y = 12) → I2 x y = I1 x y := fun x y q q2 => by rw [← hI2, up2_ne (by omega), up2_ne (by omega), up2_ne (by omega), up2_ne (by omega), up2_ne (by omega), up2_ne (by omega)]
        have e3 : ∀ y, y < 5 * co → I2 73 y = I1 73 y := fun y q => by rw [← hI2, up2_ne (by omega), up2_ne (by omega), up2_ne (by omega), up2_ne (by omega), up2_ne (by omega), up2_ne (by omega)]
        have g0 : I2 73 (5 * co + 0) = nI kd := by rw [← hI2, up2_ne (by omega), up2_ne (by omega), up2_ne (by omega), up2_ne (by omega), up2_ne (by omega)]; exact up2_same
        have g1 : I2 73 (5 * co + 1) = nI a := by rw [← hI2, up2_ne (by omega), up2_ne (by omega), up2_ne (by omega), up2_ne (by omega), up2_same]
        have g2 : I2 73 (5 * co + 2) = nI b := by rw [← hI2, up2_ne (by omega), up2_ne (by omega), up2_ne (by omega), up2_same]
        have g3 : I2 73 (5 * co + 3) = x := by rw [← hI2, up2_ne (by omega), up2_ne (by omega), up2_same]
        have g4 : I2 73 (5 * co + 4) = v := by rw [← hI2, up2_ne (by omega), up2_same]
        have g12 : I2 65 12 = nI (co + 1) := by rw [← hI2, up2_same]
        refine two_E (I1 := I1) (U1 := U) (P1 := P) (I2 := I2) (U2 := U) h (by rw [← hI1]; exact c_10_card hk hl h2 (by omega)) (fun x y q => e x y (by omega) (by omega)) (fun _ _ _ => rfl) (fun x y q => e2 x y (by omega) (by omega)) (fun _ _ _ => rfl) (fun r => ⟨by rw [← hI2]; exact c_11_card hk hl (by rw [e _ _ (by omega) (by omega)]; exact h3) (by omega), ?_⟩)
        obtain ⟨⟨rs, rc, rd, rk, rw0⟩, rf0⟩ := r
        refine ⟨⟨RS_same rs (fun x y q => e x y (by omega) (by omega)) (fun x y q => e2 x y (by omega) (by omega)), RC_same rc (fun x y q => e x y (by omega) (by omega)) (fun x y q => e2 x y (by omega) (by omega)), ⟨co + 1, by omega, f49, g12, fun j hj => ?_, fun j t hj ht => ?_⟩, RK_same rk (fun x y q => e x y (by omega) (by omega)) (fun x y q => e2 x y (by omega) (by omega)), RW_same rw0 (fun x y q => e x y (by omega) (by omega)) (fun _ _ _ => rfl) (fun x y q => e2 x y (by omega) (by omega)) (fun _ => rfl)⟩, by rw [e2 _ _ (by omega) (by omega), e 63 1 (by omega) (by omega)]; exact rf0⟩
        · by_cases q : j = co
          · subst q
            exact ⟨kd, a, b, hkd, ha, hb, f0, f1, f2⟩
          · rw [e _ _ (by omega) (by omega), e _ _ (by omega) (by omega), e _ _ (by omega) (by omega)]
            exact h4 j (by omega)
        · by_cases q : j = co
          · subst q
            rcases (show t = 0 ∨ t = 1 ∨ t = 2 ∨ t = 3 ∨ t = 4 by omega) with rfl | rfl | rfl | rfl | rfl
            · rw [g0, f0]
            · rw [g1, f1]
            · rw [g2, f2]
            · rw [g3, f3]
            · rw [g4, f4]
          · rw [e3 _ (by omega), e _ _ (by omega) (by omega), e _ _ (by omega) (by omega)]
            exact h5 j t (by omega) ht
    · exact two_0 h (c_10_cardX2 hk hl) (c_11_cardX2 hk hl)
  · by_cases h0 : kd < 0
    · exact two_0 h (c_10_cardX1 hk) (c_11_cardX1a h0)
    · exact two_0 h (c_10_cardX1 hk) (c_11_cardX1b h0 (Classical.not_not.mp (fun z => hk ⟨h0, z⟩)))
theorem two_unhook (h : RA I U P) : Two l D K A I U P yX10_unhook cX10_unhook 2 (some .int) 5 [.ref (A 0)] yX11_unhook cX11_unhook 2 (some .int) 5 [.ref (A 65)] := by
  obtain ⟨co, h1, h2, h3, h4, h5⟩ := h.1.2.2.1
  refine two_E (I2 := up2 (up2 I 49 1 0) 65 12 0) (U2 := U) h c_10_unhook (fun x y q => up2_ne (by omega)) (fun _ _ _ => rfl) (fun x y q => up2_ne (by omega)) (fun _ _ _ => rfl) (fun r => ⟨?_, ?_⟩)
  · have : I 49 1 = up2 I 49 1 0 65 12 := by rw [up2_ne (by omega), h2, h3]
    rw [this]
    exact c_11_unhook
  · obtain ⟨⟨rs, rc, rd, rk, rw0⟩, rf0⟩ := r
    exact ⟨⟨RS_same rs (fun x y q => up2_ne (by omega)) (fun x y q => up2_ne (by omega)), RC_same rc (fun x y q => up2_ne (by omega)) (fun x y q => up2_ne (by omega)), ⟨0, by omega, up2_same, up2_same, fun j hj => absurd hj (by omega), fun j t hj => absurd hj (by omega)⟩, RK_same rk (fun x y q => up2_ne (by omega)) (fun x y q => up2_ne (by omega)), RW_same rw0 (fun x y q => up2_ne (by omega)) (fun _ _ _ => rfl) (fun x y q => up2_ne (by omega)) (fun _ => rfl)⟩, by rw [up2_ne (by omega), up2_ne (a := 63) (by omega)]; exact rf0⟩
theorem two_keeper {v : Int32} (h : RA I U P) : Two l D K A I U P yX10_keeper cX10_keeper 2 (some .boolean) 5 [.ref (A 0), .int v] yX11_keeper cX11_keeper 2 (some .boolean) 5 [.ref (A 65), .int v] := by
  by_cases hv : v &&& (-63) = 0
  · refine two_E (I2 := up2 (up2 I 0 5 v) 65 13 v) (U2 := U) h (c_10_keeper hv) (fun x y q => up2_ne (by omega)) (fun _ _ _ => rfl) (fun x y q => up2_ne (by omega)) (fun _ _ _ => rfl) (fun r => ⟨c_11_keeper hv, ?_⟩)
    obtain ⟨⟨rs, rc, rd, ⟨k1, k2, k3, k4⟩, rw0⟩, rf0⟩ := r
    exact ⟨⟨RS_same rs (fun x y q => up2_ne (by omega)) (fun x y q => up2_ne (by omega)), RC_same rc (fun x y q => up2_ne (by omega)) (fun x y q => up2_ne (by omega)), RD_same rd (fun x y q => up2_ne (by omega)) (fun x y q => up2_ne (by omega)), ⟨by rw [up2_same, up2_same], by rw [up2_ne (by omega), up2_ne (a := 0) (by omega)]; exact k2, by rw [up2_ne (by omega), up2_ne (a := 0) (by omega)]; exact k3, fun f hf => by rw [up2_ne (by omega), up2_ne (a := 64) (by omega)]; exact k4 f hf⟩, RW_same rw0 (fun x y q => up2_ne (by omega)) (fun _ _ _ => rfl) (fun x y q => up2_ne (by omega)) (fun _ => rfl)⟩, by rw [up2_ne (by omega), up2_ne (a := 63) (by omega)]; exact rf0⟩
  · exact two_0 h (c_10_keeperX hv) (c_11_keeperX hv)
theorem two_told {v : Int32} (h : RA I U P) : Two l D K A I U P yX10_told cX10_told 2 (some .int) 5 [.ref (A 0), .int v] yX11_told cX11_told 2 (some .int) 5 [.ref (A 65), .int v] := by
  have hh := h
  obtain ⟨⟨⟨fi, co, s1, s2, s3, s4, s5, s6⟩, rc, ⟨c2, d1, d2, d3, -⟩, ⟨k1, k2, k3, k4⟩, rw0⟩, rf0⟩ := hh
  have ex : ∀ n : Nat, n ≤ 9 → v.toInt = n → v = nI n := fun n hn hv => Int32.toInt_inj.mp (by rw [hv]; rcases (show n = 0 ∨ n = 1 ∨ n = 2 ∨ n = 3 ∨ n = 4 ∨ n = 5 ∨ n = 6 ∨ n = 7 ∨ n = 8 ∨ n = 9 by omega) with rfl | rfl | rfl | rfl | rfl | rfl | rfl | rfl | rfl | rfl <;> rfl)
  have ne : ∀ n : Nat, n ≤ 9 → v.toInt < 0 ∨ 9 < v.toInt → ¬ v = nI n := fun n hn hv q => by
    have : v.toInt = n := by rw [q]; rcases (show n = 0 ∨ n = 1 ∨ n = 2 ∨ n = 3 ∨ n = 4 ∨ n = 5 ∨ n = 6 ∨ n = 7 ∨ n = 8 ∨ n = 9 by omega) with rfl | rfl | rfl | rfl | rfl | rfl | rfl | rfl | rfl | rfl <;> rfl
    omega
  by_cases hL : v.toInt < 0
  · exact two_0 h (c_10_toldL (Int32.lt_iff_toInt_lt.mpr (by rw [show (1 : Int32).toInt = 1 from rfl]; omega)) hL) (c_11_toldL (ne 0 (by decide) (Or.inl hL)) (Int32.le_iff_toInt_le.mpr (by rw [show (0 : Int32).toInt = 0 from rfl]; omega)) (ne 6 (by decide) (Or.inl hL)) (ne 7 (by decide) (Or.inl hL)) (ne 8 (by decide) (Or.inl hL)) (ne 9 (by decide) (Or.inl hL)))
  · by_cases hH : 9 < v.toInt
    · exact two_0 h (c_10_toldH (fun q => by have := Int32.lt_iff_toInt_lt.mp q; rw [show (1 : Int32).toInt = 1 from rfl] at this; omega) (Int32.lt_iff_toInt_lt.mpr (by rw [show (5 : Int32).toInt = 5 from rfl]; omega)) hH) (c_11_toldH (ne 0 (by decide) (Or.inr hH)) (fun q => by have := Int32.le_iff_toInt_le.mp q; rw [show (0 : Int32).toInt = 0 from rfl] at this; omega) (Int32.le_iff_toInt_le.mpr (by rw [show (6 : Int32).toInt = 6 from rfl]; omega)) (ne 6 (by decide) (Or.inr hH)) (ne 7 (by decide) (Or.inr hH)) (ne 8 (by decide) (Or.inr hH)) (ne 9 (by decide) (Or.inr hH)))
    · obtain ⟨n, hn, rfl⟩ : ∃ n : Nat, n ≤ 9 ∧ v = nI n := ⟨v.toInt.toNat, by omega, ex _ (by omega) (by omega)⟩
      by_cases h0 : n = 0
      · subst h0
        exact two_0 h c_10_told0 (rf0 ▸ c_11_told0)
      · by_cases h5 : n ≤ 5
        · exact two_0 h (c_10_toldF (by omega) h5) (k4 n (by omega) ▸ c_11_toldF (by omega) h5)
        · rcases (show n = 6 ∨ n = 7 ∨ n = 8 ∨ n = 9 by omega) with rfl | rfl | rfl | rfl
          · exact two_0 h c_10_told6 ((s5.trans s2.symm) ▸ c_11_told6)
          · exact two_0 h c_10_told7 ((d3.trans d2.symm) ▸ c_11_told7)
          · exact two_0 h c_10_told8 (k2 ▸ c_11_told8)
          · exact two_0 h c_10_told9 (k3 ▸ c_11_told9)
end OPS3
