/-! the simple operations, side by side -/
section WRP
variable {I J : TI} {U V : TU} {P : TP}
theorem RW_at (h : RW I U P J V) {pl : Nat} (hpl : pl < 20) (hn : ¬ P pl = none) : ∃ k r : Nat, k < 20 ∧ k % 5 = pl % 5 ∧ P pl = some k ∧ J 66 pl = nI r ∧ r < 20 ∧ LQ I U J V k r ∧ ∀ q, q < 20 → (P q = some k ↔ J 66 q = nI r) := by
  rcases h.2.2.2.2.2 pl hpl with ⟨a, b⟩ | ⟨k, r, a, b, c, d, e⟩
  · exact absurd a hn
  · exact ⟨k, r, (h.1 _ _ hpl a).1, (h.1 _ _ hpl a).2, a, b, c, d, e⟩
theorem RW_none (h : RW I U P J V) {pl : Nat} (hpl : pl < 20) (hn : P pl = none) : J 66 pl = -1 := by
  rcases h.2.2.2.2.2 pl hpl with ⟨a, b⟩ | ⟨k, r, a, b, c, d, e⟩
  · exact b
  · rw [hn] at a; cases a
theorem upn {α : Type} {f : Nat → α} {i j : Nat} {v : α} (h : ¬ j = i) : va_up f i v j = f j := by simp [va_up, h]
theorem va_up_at {α : Type} {f : Nat → α} {i : Nat} {v : α} : va_up f i v i = v := by simp [va_up]
theorem RW_tie (h : RW I U P J V) {pl c : Nat} (hpl : pl < 20) (hc : c < 20) (h5 : c % 5 = pl % 5) : RW I U (va_up P pl (P c)) (up2 J 66 pl (J 66 c)) V := by
  have hat := h.2.2.2.2.2
  obtain ⟨h1, h2, h3, h4, h6, -⟩ := h
  have key : ∀ q, q < 20 → va_up P pl (P c) q = P (if q = pl then c else q) ∧ up2 J 66 pl (J 66 c) 66 q = J 66 (if q = pl then c else q) ∧ (if q = pl then c else q) < 20 ∧ (if q = pl then c else q) % 5 = q % 5 := by
    intro q hq
    by_cases e : q = pl
    · subst e
      rw [va_up_at, up2_same, if_pos rfl]
      exact ⟨rfl, rfl, hc, h5⟩
    · rw [upn e, up2_ne (by omega), if_neg e]
      exact ⟨rfl, rfl, hq, rfl⟩
  refine ⟨fun j k hj hk => ?_, h2, fun q hq => ?_, fun r hr => by rw [up2_ne (by omega)]; exact h4 r hr, h6, fun q hq => ?_⟩
  · obtain ⟨e1, e2, e3, e4⟩ := key j hj
    rw [e1] at hk
    have := h1 _ _ e3 hk
    exact ⟨this.1, this.2.trans e4⟩
  · obtain ⟨e1, e2, e3, e4⟩ := key q hq
    rw [e2]; exact h3 _ e3
  · obtain ⟨e1, e2, e3, e4⟩ := key q hq
    rw [e1, e2]
    rcases hat _ e3 with ⟨a, b⟩ | ⟨k, r, a, b, c', d, e⟩
    · exact Or.inl ⟨a, b⟩
    · refine Or.inr ⟨k, r, a, b, c', LQ_same d rfl (up2_ne (by omega)) (fun n _ _ => ⟨fun _ => ⟨rfl, rfl⟩, fun _ => ⟨up2_ne (by omega), rfl⟩⟩), fun z hz => ?_⟩
      obtain ⟨f1, f2, f3, f4⟩ := key z hz
      rw [f1, f2]; exact e _ f3
theorem RW_cut (h : RW I U P J V) {pl : Nat} (hpl : pl < 20) : RW I U (va_up P pl none) (up2 J 66 pl (-1)) V := by
  have hat := h.2.2.2.2.2
  obtain ⟨h1, h2, h3, h4, h6, -⟩ := h
  refine ⟨fun j k hj hk => ?_, h2, fun q hq => ?_, fun r hr => by rw [up2_ne (by omega)]; exact h4 r hr, h6, fun q hq => ?_⟩
  · by_cases e : j = pl
    · subst e; rw [va_up_at] at hk; cases hk
    · rw [upn e] at hk; exact h1 _ _ hj hk
  · by_cases e : q = pl
    · subst e; rw [up2_same]; exact Or.inl rfl
    · rw [up2_ne (by omega)]; exact h3 q hq
  · by_cases e : q = pl
    · subst e; rw [va_up_at, up2_same]; exact Or.inl ⟨rfl, rfl⟩
    · rw [upn e, up2_ne (by omega)]
      rcases hat q hq with ⟨a, b⟩ | ⟨k, r, a, b, c', d, e'⟩
      · exact Or.inl ⟨a, b⟩
      · refine Or.inr ⟨k, r, a, b, c', LQ_same d rfl (up2_ne (by omega)) (fun n _ _ => ⟨fun _ => ⟨rfl, rfl⟩, fun _ => ⟨up2_ne (by omega), rfl⟩⟩), fun z hz => ?_⟩
        by_cases ez : z = pl
        · subst ez
          rw [va_up_at, up2_same]
          exact ⟨fun q => by (cases q), fun q => absurd q.symm (nI_m1 (by omega))⟩
        · rw [upn ez, up2_ne (by omega)]; exact e' z hz
/-- a new lane and its new row -/
theorem RW_new (h : RW I U P J V) {pl k r n : Nat} (hpl : pl < 20) (hk : k < 20) (hk5 : k % 5 = pl % 5) (hr : r < 20) (hn : n ≤ 24) (hP : P pl = none) (hfk : ∀ q, q < 20 → ¬ P q = some k) (hfr : ∀ q, q < 20 → ¬ J 66 q = nI r) : RW (rsJ k n n I) (rsV k n U) (va_up P pl (some k)) (mth J pl r n 24) (mthU V r 24) := by
  have hat := h.2.2.2.2.2
  obtain ⟨h1, h2, h3, h4, h6, -⟩ := h
  have e66 : ∀ q, ¬ q = pl → mth J pl r n 24 66 q = J 66 q := fun q hq => by simp [mth, hq]
  have e66p : mth J pl r n 24 66 pl = nI r := by simp [mth]
  refine ⟨fun j k' hj hk' => ?_, fun k' hk' => ?_, fun q hq => ?_, fun r' hr' => ?_, fun x hx => ?_, fun q hq => ?_⟩
  · by_cases e : j = pl
    · subst e; rw [va_up_at] at hk'; cases hk'; exact ⟨hk, hk5⟩
    · rw [upn e] at hk'; exact h1 _ _ hj hk'
  · obtain ⟨a, c, hc, hcc, ok⟩ := h2 k' hk'
    by_cases e : k' = k
    · subst e
      refine ⟨a, n, hn, by simp [rsJ], fun i hi => ⟨fun h3 => ?_, fun h2 => ?_⟩⟩
      · by_cases hin : i < n
        · refine Or.inl ?_
          unfold rsJ
          rw [if_neg (by omega), if_pos ⟨by omega, rfl, hin⟩]
        · unfold rsJ
          rw [if_neg (by omega), if_neg (by omega)]
          exact (ok i hi).1 h3
      · by_cases hin : i < n
        · unfold rsV
          rw [if_pos ⟨h2, rfl, hin⟩]
          exact hd_0
        · unfold rsV
          rw [if_neg (by omega)]
          exact (ok i hi).2 h2
    · refine ⟨a, c, hc, ?_, fun i hi => okE_at (ok i hi) (fun _ => ?_) (fun _ => ?_)⟩
      · unfold rsJ
        rw [if_neg (by omega), if_neg (by omega)]; exact hcc
      · unfold rsJ
        rw [if_neg (by omega), if_neg (by omega)]
      · unfold rsV
        rw [if_neg (by omega)]
  · by_cases e : q = pl
    · subst e; rw [e66p]; exact Or.inr ⟨r, hr, rfl⟩
    · rw [e66 q e]; exact h3 q hq
  · by_cases e : r' = r
    · subst e; exact ⟨n, hn, by simp [mth]⟩
    · obtain ⟨c, hc, hcc⟩ := h4 r' hr'
      exact ⟨c, hc, by unfold mth; rw [if_neg (by omega), if_neg (by omega), if_neg (by omega)]; exact hcc⟩
  · unfold mthU
    split
    · exact hd_0
    · exact h6 x hx
  · by_cases e : q = pl
    · subst e
      refine Or.inr ⟨k, r, va_up_at, e66p, hr, ⟨by simp [mth, rsJ], fun i hi hin => ?_⟩, fun z hz => ?_⟩
      · have hcn : rsJ k n n I (4 + 2 * k) 0 = nI n := by simp [rsJ]
        rw [hcn] at hin
        obtain ⟨j, hj, hij⟩ := inR_of (by omega) hin
        have : i = j := (nI_eq (by omega) (by omega)).mp hij
        subst this
        refine ⟨fun h2 => ?_, fun h2 => ?_⟩
        · unfold mthU rsV
          rw [if_pos ⟨rfl, by omega, by omega⟩, if_pos ⟨h2, rfl, hj⟩]
        · unfold mth rsJ
          rw [if_neg (by omega), if_neg (by omega), if_pos ⟨rfl, by omega, by omega⟩, if_neg (by omega), if_pos ⟨h2, rfl, hj⟩]
      · by_cases ez : z = q
        · subst ez; rw [va_up_at, e66p]; simp
        · rw [upn ez, e66 z ez]
          exact ⟨fun y => absurd y (hfk z hz), fun y => absurd y (hfr z hz)⟩
    · rw [upn e, e66 q e]
      rcases hat q hq with ⟨a, b⟩ | ⟨k', r', a, b, c', d, e'⟩
      · exact Or.inl ⟨a, b⟩
      · have hk' := (h1 _ _ hq a).1
        have nk : ¬ k' = k := fun z => hfk q hq (z ▸ a)
        have nr : ¬ r' = r := fun z => hfr q hq (z ▸ b)
        refine Or.inr ⟨k', r', a, b, c', LQ_same d ?_ ?_ (fun i hi _ => ⟨fun _ => ⟨?_, ?_⟩, fun _ => ⟨?_, ?_⟩⟩), fun z hz => ?_⟩
        · unfold rsJ
          rw [if_neg (by omega), if_neg (by omega)]
        · unfold mth
          rw [if_neg (by omega), if_neg (by omega), if_neg (by omega)]
        · unfold mthU
          rw [if_neg (by omega)]
        · unfold rsV
          rw [if_neg (by omega)]
        · unfold mth
          rw [if_neg (by omega), if_neg (by omega), if_neg (by omega)]
        · unfold rsJ
          rw [if_neg (by omega), if_neg (by omega)]
        · by_cases ez : z = pl
          · subst ez
            rw [va_up_at, e66p]
            refine ⟨fun y => absurd (Option.some.inj y).symm nk, fun y => absurd ((nI_eq (by omega) (by omega)).mp y).symm nr⟩
          · rw [upn ez, e66 z ez]; exact e' z hz
end WRP
section OPS
variable {l : Launch} {D : va_G} {K : Nat → ClassId} {A : Nat → Nat} {I : TI} {U : TU} {P : TP}
theorem rb_w {I J : TI} {U V : TU} {P : TP} (h : RB I U P J V) : RW I U P J V := h.1.2.2.2.2
theorem RAF_w {I J J' : TI} {U V : TU} {P P' : TP} (h : RAF I U P J V) (hj : ∀ x y, ¬ x = 66 → J' x y = J x y) (hw : RW I U P' J' V) : RAF I U P' J' V :=
  ⟨RS_same h.1 (fun _ _ _ => rfl) (fun x y q => hj x y (by omega)), RC_same h.2.1 (fun _ _ _ => rfl) (fun x y q => hj x y (by omega)), RD_same h.2.2.1 (fun _ _ _ => rfl) (fun x y q => hj x y (by omega)), RK_same h.2.2.2.1 (fun _ _ _ => rfl) (fun x y q => hj x y (by omega)), hw⟩
/-- the relation with another RW -/
theorem RB_w {I J J' : TI} {U V : TU} {P P' : TP} (h : RB I U P J V) (hj : ∀ x y, ¬ x = 66 → J' x y = J x y) (hw : RW I U P' J' V) : RB I U P' J' V :=
  ⟨RAF_w h.1 hj hw, by rw [hj _ _ (by omega)]; exact h.2⟩
theorem two_cut {f s0 : Int32} (h : RA I U P) : Two l D K A I U P yX10_cut cX10_cut 4 (some .int) 5 [.ref (A 0), .int f, .int s0] yX11_cut cX11_cut 5 (some .int) 5 [.ref (A 65), .int f, .int s0] := by
  by_cases hx : inL f s0
  · obtain ⟨a, ha, rfl⟩ := inF_of hx.1
    obtain ⟨b, hb, rfl⟩ := inS_of hx.2
    have hpl : 5 * a + b < 20 := by omega
    cases hP : P (5 * a + b) with
    | none => exact two_E h (c_10_cutN ha hb hP) (fun _ _ _ => rfl) (fun _ _ _ => rfl) (fun x y q => up2_ne (by omega)) (fun _ _ _ => rfl) (fun r => ⟨c_11_cutN ha hb (RW_none (rb_w r) hpl hP), RB_w r (fun x y q => up2_ne (by omega)) (RW_cut (rb_w r) hpl)⟩)
    | some k =>
      exact two_E h (c_10_cutS ha hb hP) (fun _ _ _ => rfl) (fun _ _ _ => rfl) (fun x y q => up2_ne (by omega)) (fun _ _ _ => rfl) (fun r => ⟨c_11_cutS ha hb (by
        obtain ⟨k, r', -, -, -, e, hr, -⟩ := RW_at (rb_w r) hpl (by rw [hP]; exact fun q => by cases q)
        rw [e]; exact nI_m1 (by omega)), RB_w r (fun x y q => up2_ne (by omega)) (RW_cut (rb_w r) hpl)⟩)
  · exact two_0 h (c_10_cutX hx) (c_11_cutX hx)
theorem two_tie {f s0 n : Int32} (h : RA I U P) : Two l D K A I U P yX10_tie cX10_tie 5 (some .int) 5 [.ref (A 0), .int f, .int s0, .int n] yX11_tie cX11_tie 5 (some .int) 5 [.ref (A 65), .int f, .int s0, .int n] := by
  by_cases hx : inL f s0
  · obtain ⟨a, ha, rfl⟩ := inF_of hx.1
    obtain ⟨b, hb, rfl⟩ := inS_of hx.2
    by_cases hn : inF n
    · obtain ⟨o2, hc, rfl⟩ := inF_of hn
      have hpl : 5 * a + b < 20 := by omega
      have hpc : 5 * o2 + b < 20 := by omega
      have fin : RB I U P (bg I) U → RB (bg I) U (va_up P (5 * a + b) (P (5 * o2 + b))) (mbg (up2 (bg I) 66 (5 * a + b) (bg I 66 (5 * o2 + b)))) U := fun r =>
        ⟨RAF_mbg (RAF_w (RAF_bg r.1) (fun x y q => up2_ne (by omega)) (RW_tie (RAF_bg r.1).2.2.2.2 hpl hpc (by omega))), by unfold mbg bg; rw [up2_same, up2_same]⟩
      cases hP : P (5 * o2 + b) with
      | none =>
        rw [hP] at fin
        refine two_E h (hP ▸ c_10_tieN ha hb hc (rb_w h).1 hP) (fun x y q => bg_1 q) (fun _ _ _ => rfl) (fun x y q => by rw [mbg_1 q, up2_ne (by omega)]) (fun _ _ _ => rfl) (fun r => ⟨c_11_tieN ha hb hc (RW_none (rb_w r) hpc hP), fin r⟩)
      | some k =>
        rw [hP] at fin
        obtain ⟨k', r', hk, -, hP', -⟩ := RW_at (rb_w h) hpc (by rw [hP]; exact fun q => by cases q)
        rw [hP] at hP'
        cases hP'
        refine two_E h (hP ▸ c_10_tieS ha hb hc (rb_w h).1 hk hP) (fun x y q => bg_1 q) (fun _ _ _ => rfl) (fun x y q => by rw [mbg_1 q, up2_ne (by omega)]) (fun _ _ _ => rfl) (fun r => ⟨?_, fin r⟩)
        obtain ⟨k2, r2, -, -, e1, e2, e3, e4, -⟩ := RW_at (rb_w r) hpc (by rw [hP]; exact fun q => by cases q)
        rw [hP] at e1
        cases e1
        rw [← e4.1]
        exact c_11_tieS ha hb hc e2 e3
    · exact two_0 h (c_10_tieX2 ha hb hn) (c_11_tieX2 ha hb hn)
  · exact two_0 h (c_10_tieX1 hx) (c_11_tieX1 hx)
theorem two_ends {f s0 : Int32} (h : RA I U P) : Two l D K A I U P yX10_ends cX10_ends 4 (some .int) 5 [.ref (A 0), .int f, .int s0] yX11_ends cX11_ends 4 (some .int) 5 [.ref (A 65), .int f, .int s0] := by
  by_cases hx : inL f s0
  · obtain ⟨a, ha, rfl⟩ := inF_of hx.1
    obtain ⟨b, hb, rfl⟩ := inS_of hx.2
    have hpl : 5 * a + b < 20 := by omega
    cases hP : P (5 * a + b) with
    | none => exact two_tel (by decide) h (c_10_endsN ha hb hP) (fun r => c_11_endsN ha hb (RW_none (rb_w r) hpl hP))
    | some k =>
      obtain ⟨k', r', hk, -, hP', -⟩ := RW_at (rb_w h) hpl (by rw [hP]; exact fun q => by cases q)
      rw [hP] at hP'
      cases hP'
      refine two_E h (c_10_endsS ha hb hk hP) (fun x y q => bg_1 q) (fun _ _ _ => rfl) (fun x y q => mbg_1 q) (fun _ _ _ => rfl) (fun r => ⟨?_, RB_bg r.1⟩)
      obtain ⟨k2, r2, -, -, e1, e2, e3, e4, -⟩ := RW_at (rb_w r) hpl (by rw [hP]; exact fun q => by cases q)
      rw [hP] at e1
      cases e1
      rw [← e4.1]
      exact c_11_endsS ha hb e2 e3
  · exact two_0 h (c_10_endsX hx) (c_11_endsX hx)
end OPS
