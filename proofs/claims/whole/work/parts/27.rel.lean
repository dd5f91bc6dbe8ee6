/-! the relation between the component's part of the heap (I, U, P) and the reference's (J, V) -/
theorem MM.mono {l : Launch} {y : MethodName} {cc : ByteArray} {nL : Nat} {ret : Option FieldType} {d : Nat} {D : va_G} {K : Nat → ClassId} {A : Nat → Nat} {I : TI} {U : TU} {P : TP} {av : List Value} {post post' : TQ} (h : MM l y cc nL ret d D K A I U P av post) (hp : ∀ v I1 U1 P1, post v I1 U1 P1 → post' v I1 U1 P1) : MM l y cc nL ret d D K A I U P av post' := by
  intro sz
  refine MetFree.mono (h sz) (fun _ _ h => h) (fun _ _ _ _ _ h => h) ?_
  rintro a s o t - ⟨⟨⟨v, I1, U1, P1, e, hq, hP⟩, hF⟩, hL⟩
  exact ⟨⟨⟨v, I1, U1, P1, e, hp _ _ _ _ hq, hP⟩, hF⟩, hL⟩
def RS (I J : TI) : Prop := ∃ fi co : Nat, I 44 1 = nI fi ∧ I 44 2 = nI co ∧ fi < 16 ∧ co ≤ 16 ∧ J 65 5 = nI co ∧ ∀ j, j < co → J 70 j = I 45 ((fi + j) % 16)
def RC (I J : TI) : Prop := ∃ n w : Nat, n ≤ 24 ∧ w ≤ 24 ∧ I 46 3 = nI n ∧ I 46 4 = nI w ∧ J 65 7 = nI n ∧ J 65 8 = nI w ∧ J 65 6 = I 46 2 ∧ (∀ p, p < n → J 71 p = I 48 p ∧ (I 48 p = -1 ∨ ∃ r : Nat, r < n ∧ I 48 p = nI r)) ∧ ∀ r u, r < n → u < w → J 72 (24 * r + u) = I 47 (24 * r + u)
def RD (I J : TI) : Prop := ∃ co : Nat, co ≤ 12 ∧ I 49 1 = nI co ∧ J 65 12 = nI co ∧ (∀ j, j < co → ∃ kd a b : Nat, kd < 5 ∧ a < 4 ∧ b < 5 ∧ I (51 + j) 0 = nI kd ∧ I (51 + j) 1 = nI a ∧ I (51 + j) 2 = nI b) ∧ ∀ j t, j < co → t < 5 → J 73 (5 * j + t) = I (51 + j) t
def RK (I J : TI) : Prop := J 65 13 = I 0 5 ∧ J 65 16 = I 0 6 ∧ J 65 17 = I 0 7 ∧ ∀ f, f < 6 → J 74 f = I 64 f
/-- a lane and its row have the same ends -/
def LQ (I : TI) (U : TU) (J : TI) (V : TU) (k r : Nat) : Prop := J 67 r = I (4 + 2 * k) 0 ∧ ∀ n, n < 24 → inR (I (4 + 2 * k) 0) (nI n) → (k % 5 = 2 → V 69 (24 * r + n) = U (5 + 2 * k) n) ∧ (¬ k % 5 = 2 → J 68 (24 * r + n) = I (5 + 2 * k) n)
def RW (I : TI) (U : TU) (P : TP) (J : TI) (V : TU) : Prop := okP P ∧ okLs I U ∧ okR J ∧ mokN J ∧ mokU V ∧ ∀ pl, pl < 20 → (P pl = none ∧ J 66 pl = -1) ∨ ∃ k r : Nat, P pl = some k ∧ J 66 pl = nI r ∧ r < 20 ∧ LQ I U J V k r ∧ ∀ q, q < 20 → (P q = some k ↔ J 66 q = nI r)
/-- all but the latest fault -/
def RAF (I : TI) (U : TU) (P : TP) (J : TI) (V : TU) : Prop := RS I J ∧ RC I J ∧ RD I J ∧ RK I J ∧ RW I U P J V
/-- all -/
def RB (I : TI) (U : TU) (P : TP) (J : TI) (V : TU) : Prop := RAF I U P J V ∧ J 65 14 = I 63 1
def RA (I : TI) (U : TU) (P : TP) : Prop := RB I U P I U
section SAME
variable {I I' J J' : TI} {U U' V V' : TU} {P : TP}
theorem RS_same (h : RS I J) (hi : ∀ x y, (x = 44 ∨ x = 45) → I' x y = I x y) (hj : ∀ x y, (x = 70 ∨ x = 65 ∧ y = 5) → J' x y = J x y) : RS I' J' := by
  obtain ⟨fi, co, h1, h2, h3, h4, h5, h6⟩ := h
  exact ⟨fi, co, (hi _ _ (by omega)).trans h1, (hi _ _ (by omega)).trans h2, h3, h4, (hj _ _ (by omega)).trans h5, fun j q => by rw [hj _ _ (by omega), hi _ _ (by omega)]; exact h6 j q⟩
theorem RC_same (h : RC I J) (hi : ∀ x y, (x = 46 ∨ x = 47 ∨ x = 48) → I' x y = I x y) (hj : ∀ x y, (x = 71 ∨ x = 72 ∨ x = 65 ∧ (y = 6 ∨ y = 7 ∨ y = 8)) → J' x y = J x y) : RC I' J' := by
  obtain ⟨n, w, h1, h2, h3, h4, h5, h6, h7, h8, h9⟩ := h
  refine ⟨n, w, h1, h2, (hi _ _ (by omega)).trans h3, (hi _ _ (by omega)).trans h4, (hj _ _ (by omega)).trans h5, (hj _ _ (by omega)).trans h6, ?_, fun p hp => ?_, fun r u hr hu => ?_⟩
  · rw [hj _ _ (by omega), hi _ _ (by omega)]; exact h7
  · rw [hj _ _ (by omega), hi _ _ (by omega)]; exact h8 p hp
  · rw [hj _ _ (by omega), hi _ _ (by omega)]; exact h9 r u hr hu
theorem RD_same (h : RD I J) (hi : ∀ x y, (49 ≤ x ∧ x < 63) → I' x y = I x y) (hj : ∀ x y, (x = 73 ∨ x = 65 ∧ y = 12) → J' x y = J x y) : RD I' J' := by
  obtain ⟨co, h1, h2, h3, h4, h5⟩ := h
  refine ⟨co, h1, (hi _ _ (by omega)).trans h2, (hj _ _ (by omega)).trans h3, fun j q => ?_, fun j t hj' ht => ?_⟩
  · rw [hi _ _ (by omega), hi _ _ (by omega), hi _ _ (by omega)]; exact h4 j q
  · rw [hj _ _ (by omega), hi _ _ (by omega)]; exact h5 j t hj' ht
theorem RK_same (h : RK I J) (hi : ∀ x y, (x = 0 ∨ x = 64) → I' x y = I x y) (hj : ∀ x y, (x = 74 ∨ x = 65 ∧ (y = 13 ∨ y = 16 ∨ y = 17)) → J' x y = J x y) : RK I' J' := by
  obtain ⟨h1, h2, h3, h4⟩ := h
  refine ⟨?_, ?_, ?_, fun f hf => ?_⟩
  · rw [hj _ _ (by omega), hi _ _ (by omega)]; exact h1
  · rw [hj _ _ (by omega), hi _ _ (by omega)]; exact h2
  · rw [hj _ _ (by omega), hi _ _ (by omega)]; exact h3
  · rw [hj _ _ (by omega), hi _ _ (by omega)]; exact h4 f hf
theorem LQ_same {k r : Nat} (h : LQ I U J V k r) (h0 : I' (4 + 2 * k) 0 = I (4 + 2 * k) 0) (h1 : J' 67 r = J 67 r) (hn : ∀ n, n < 24 → inR (I (4 + 2 * k) 0) (nI n) → (k % 5 = 2 → V' 69 (24 * r + n) = V 69 (24 * r + n) ∧ U' (5 + 2 * k) n = U (5 + 2 * k) n) ∧ (¬ k % 5 = 2 → J' 68 (24 * r + n) = J 68 (24 * r + n) ∧ I' (5 + 2 * k) n = I (5 + 2 * k) n)) : LQ I' U' J' V' k r := by
  refine ⟨by rw [h1, h0]; exact h.1, fun n h24 hin => ?_⟩
  rw [h0] at hin
  obtain ⟨q1, q2⟩ := hn n h24 hin
  exact ⟨fun h2 => by rw [(q1 h2).1, (q1 h2).2]; exact (h.2 n h24 hin).1 h2, fun h2 => by rw [(q2 h2).1, (q2 h2).2]; exact (h.2 n h24 hin).2 h2⟩
theorem okLs_same2 (h : okLs I U) (hi : ∀ x y, (4 ≤ x ∧ x < 44) → I' x y = I x y) (hu : ∀ x y, (4 ≤ x ∧ x < 44) → U' x y = U x y) : okLs I' U' := by
  intro k hk
  obtain ⟨a, c, hc, hcc, ok⟩ := h k hk
  exact ⟨a, c, hc, (hi _ _ (by omega)).trans hcc, fun n hn => okE_at (ok n hn) (fun _ => hi _ _ (by omega)) (fun _ => hu _ _ (by omega))⟩
theorem RW_same (h : RW I U P J V) (hi : ∀ x y, (4 ≤ x ∧ x < 44) → I' x y = I x y) (hu : ∀ x y, (4 ≤ x ∧ x < 44) → U' x y = U x y) (hj : ∀ x y, (x = 66 ∨ x = 67 ∨ x = 68) → J' x y = J x y) (hv : ∀ y, V' 69 y = V 69 y) : RW I' U' P J' V' := by
  obtain ⟨h1, h2, h3, h4, h5, h6⟩ := h
  refine ⟨h1, okLs_same2 h2 hi hu, okR_same h3 (fun y => hj _ _ (by omega)), fun r hr => by rw [hj _ _ (by omega)]; exact h4 r hr, fun x hx => by rw [hv]; exact h5 x hx, fun pl hpl => ?_⟩
  rcases h6 pl hpl with ⟨a, b⟩ | ⟨k, r, a, b, c, d, e⟩
  · exact Or.inl ⟨a, (hj _ _ (by omega)).trans b⟩
  · have hk := (h1 _ _ hpl a).1
    exact Or.inr ⟨k, r, a, (hj _ _ (by omega)).trans b, c, LQ_same d (hi _ _ (by omega)) (hj _ _ (by omega)) (fun n _ _ => ⟨fun _ => ⟨hv _, hu _ _ (by omega)⟩, fun _ => ⟨hj _ _ (by omega), hi _ _ (by omega)⟩⟩), fun q hq => by rw [hj _ _ (by omega)]; exact e q hq⟩
theorem RAF_same (h : RAF I U P J V) (hi : ∀ x y, (x < 65 ∧ ¬ x = 63) → I' x y = I x y) (hu : ∀ x y, x < 65 → U' x y = U x y) (hj : ∀ x y, (65 ≤ x ∧ ¬ (x = 65 ∧ y = 14)) → J' x y = J x y) (hv : ∀ x y, 65 ≤ x → V' x y = V x y) : RAF I' U' P J' V' :=
  ⟨RS_same h.1 (fun x y q => hi x y (by omega)) (fun x y q => hj x y (by omega)), RC_same h.2.1 (fun x y q => hi x y (by omega)) (fun x y q => hj x y (by omega)), RD_same h.2.2.1 (fun x y q => hi x y (by omega)) (fun x y q => hj x y (by omega)), RK_same h.2.2.2.1 (fun x y q => hi x y (by omega)) (fun x y q => hj x y (by omega)), RW_same h.2.2.2.2 (fun x y q => hi x y (by omega)) (fun x y q => hu x y (by omega)) (fun x y q => hj x y (by omega)) (fun y => hv _ y (by omega))⟩
theorem RB_same (h : RB I U P J V) (hi : ∀ x y, x < 65 → I' x y = I x y) (hu : ∀ x y, x < 65 → U' x y = U x y) (hj : ∀ x y, 65 ≤ x → J' x y = J x y) (hv : ∀ x y, 65 ≤ x → V' x y = V x y) : RB I' U' P J' V' :=
  ⟨RAF_same h.1 (fun x y q => hi x y q.1) hu (fun x y q => hj x y q.1) hv, by rw [hj _ _ (by omega), hi _ _ (by omega)]; exact h.2⟩
theorem RAF_ok (h : RAF I U P J V) : okS I ∧ okD I ∧ mokS J ∧ mokD J := by
  obtain ⟨⟨fi, co, h1, h2, h3, h4, h5, h6⟩, -, ⟨c2, g1, g2, g3, g4, g5⟩, -, -⟩ := h
  refine ⟨⟨fi, co, h1, h2, h3, h4⟩, ⟨c2, g1, g2, g4⟩, ⟨co, h5, h4⟩, ⟨c2, g1, g3, fun j hj => ?_⟩⟩
  obtain ⟨kd, a, b, q1, q2, q3, q4, q5, q6⟩ := g4 j hj
  exact ⟨kd, a, b, q1, q2, q3, by rw [show 5 * j = 5 * j + 0 from rfl, g5 j 0 hj (by omega)]; exact q4, by rw [g5 j 1 hj (by omega)]; exact q5, by rw [g5 j 2 hj (by omega)]; exact q6⟩
theorem RW_okX (h : RW I U P J V) : okX J := by
  intro p q hp hq hpq
  obtain ⟨h1, -, -, -, -, h6⟩ := h
  rcases h6 p hp with ⟨a, b⟩ | ⟨k, r, a, b, c, d, e⟩
  · exact Or.inl b
  · refine Or.inr (fun z => ?_)
    have h2 := (e q hq).mpr (z ▸ b)
    have x1 := (h1 _ _ hp a).2
    have x2 := (h1 _ _ hq h2).2
    omega
end SAME
/-- two calls, one of the component and one of the reference: the same int, and the relation again -/
def Two (l : Launch) (D : va_G) (K : Nat → ClassId) (A : Nat → Nat) (I : TI) (U : TU) (P : TP) (yc : MethodName) (cc : ByteArray) (nc : Nat) (rc : Option FieldType) (dc : Nat) (avc : List Value) (ym : MethodName) (cm : ByteArray) (nm : Nat) (rm : Option FieldType) (dm : Nat) (avm : List Value) : Prop :=
  ∃ q : Value → TI → TU → TP → Prop, MM l yc cc nc rc dc D K A I U P avc (XV q) ∧ ∀ w I1 U1 P1, q w I1 U1 P1 → (∃ v, w = .int v) ∧ MM l ym cm nm rm dm D K A I1 U1 P1 avm (XV (fun w' I2 U2 P2 => w' = w ∧ RA I2 U2 P2))
theorem two_E {l : Launch} {D : va_G} {K : Nat → ClassId} {A : Nat → Nat} {I I1 I2 : TI} {U U1 U2 : TU} {P P1 : TP} {yc : MethodName} {cc : ByteArray} {nc : Nat} {rc : Option FieldType} {dc : Nat} {avc : List Value} {ym : MethodName} {cm : ByteArray} {nm : Nat} {rm : Option FieldType} {dm : Nat} {avm : List Value} {v : Int32} (h : RA I U P)
    (mc : MM l yc cc nc rc dc D K A I U P avc (XE (some (.int v)) I1 U1 P1)) (hc : ∀ x y, 65 ≤ x → I1 x y = I x y) (hcU : ∀ x y, 65 ≤ x → U1 x y = U x y) (hm : ∀ x y, x < 65 → I2 x y = I1 x y) (hmU : ∀ x y, x < 65 → U2 x y = U1 x y)
    (mm : RB I U P I1 U1 → MM l ym cm nm rm dm D K A I1 U1 P1 avm (XE (some (.int v)) I2 U2 P1) ∧ RB I1 U1 P1 I2 U2) : Two l D K A I U P yc cc nc rc dc avc ym cm nm rm dm avm := by
  obtain ⟨m2, r2⟩ := mm (RB_same h (fun _ _ _ => rfl) (fun _ _ _ => rfl) hc hcU)
  refine ⟨fun w I' U' P' => w = .int v ∧ I' = I1 ∧ U' = U1 ∧ P' = P1, mc.mono (fun w I' U' P' q => ⟨.int v, q.1, rfl, q.2⟩), ?_⟩
  rintro w I' U' P' ⟨rfl, rfl, rfl, rfl⟩
  refine ⟨⟨v, rfl⟩, m2.mono (fun w I' U' P' q => ⟨.int v, q.1, rfl, ?_⟩)⟩
  obtain ⟨-, rfl, rfl, rfl⟩ := q
  exact RB_same r2 hm hmU (fun _ _ _ => rfl) (fun _ _ _ => rfl)
/-- nothing was done -/
theorem two_0 {l : Launch} {D : va_G} {K : Nat → ClassId} {A : Nat → Nat} {I : TI} {U : TU} {P : TP} {yc : MethodName} {cc : ByteArray} {nc : Nat} {rc : Option FieldType} {dc : Nat} {avc : List Value} {ym : MethodName} {cm : ByteArray} {nm : Nat} {rm : Option FieldType} {dm : Nat} {avm : List Value} {v : Int32} (h : RA I U P)
    (mc : MM l yc cc nc rc dc D K A I U P avc (XE (some (.int v)) I U P)) (mm : MM l ym cm nm rm dm D K A I U P avm (XE (some (.int v)) I U P)) : Two l D K A I U P yc cc nc rc dc avc ym cm nm rm dm avm :=
  two_E h mc (fun _ _ _ => rfl) (fun _ _ _ => rfl) (fun _ _ _ => rfl) (fun _ _ _ => rfl) (fun r => ⟨mm, r⟩)
theorem RAF_tel {I J : TI} {U V : TU} {P : TP} {f : Nat} (hf : f < 6) (h : RAF I U P J V) : RB (tel I f) U P (mtel J f) V := by
  refine ⟨⟨RS_same h.1 (fun x y q => tel_o (by omega)) (fun x y q => mtel_o (by omega)), RC_same h.2.1 (fun x y q => tel_o (by omega)) (fun x y q => mtel_o (by omega)), RD_same h.2.2.1 (fun x y q => tel_o (by omega)) (fun x y q => mtel_o (by omega)), ?_, RW_same h.2.2.2.2 (fun x y q => tel_o (by omega)) (fun _ _ _ => rfl) (fun x y q => mtel_o (by omega)) (fun _ => rfl)⟩, ?_⟩
  · obtain ⟨h1, h2, h3, h4⟩ := h.2.2.2.1
    refine ⟨by rw [mtel_o (by omega), tel_o (by omega)]; exact h1, by rw [mtel_o (by omega), tel_o (by omega)]; exact h2, by rw [mtel_o (by omega), tel_o (by omega)]; exact h3, fun g hg => ?_⟩
    unfold tel mtel
    by_cases q : g = f
    · subst q
      rw [up2_same, up2_same, h4 g hg]
    · rw [up2_ne (by omega), up2_ne (by omega), up2_ne (by omega), up2_ne (by omega)]
      exact h4 g hg
  · unfold tel mtel
    rw [up2_ne (by omega), up2_same, up2_ne (by omega), up2_same]
theorem RAF_bg {I J : TI} {U V : TU} {P : TP} (h : RAF I U P J V) : RAF (bg I) U P J V := RAF_same h (fun x y q => bg_o (by omega)) (fun _ _ _ => rfl) (fun _ _ _ => rfl) (fun _ _ _ => rfl)
theorem RAF_mbg {I J : TI} {U V : TU} {P : TP} (h : RAF I U P J V) : RAF I U P (mbg J) V := RAF_same h (fun _ _ _ => rfl) (fun _ _ _ => rfl) (fun x y q => mbg_o (by omega)) (fun _ _ _ => rfl)
theorem RB_bg {I J : TI} {U V : TU} {P : TP} (h : RAF I U P J V) : RB (bg I) U P (mbg J) V := ⟨RAF_mbg (RAF_bg h), by unfold bg mbg; rw [up2_same, up2_same]⟩
theorem tel_1 {I : TI} {f x y : Nat} (h : 65 ≤ x) : tel I f x y = I x y := tel_o (by omega)
theorem bg_1 {I : TI} {x y : Nat} (h : 65 ≤ x) : bg I x y = I x y := bg_o (by omega)
theorem mtel_1 {I : TI} {f x y : Nat} (h : x < 65) : mtel I f x y = I x y := mtel_o (by omega)
theorem mbg_1 {I : TI} {x y : Nat} (h : x < 65) : mbg I x y = I x y := mbg_o (by omega)
/-- a fault of both -/
theorem two_tel {l : Launch} {D : va_G} {K : Nat → ClassId} {A : Nat → Nat} {I : TI} {U : TU} {P : TP} {yc : MethodName} {cc : ByteArray} {nc : Nat} {rc : Option FieldType} {dc : Nat} {avc : List Value} {ym : MethodName} {cm : ByteArray} {nm : Nat} {rm : Option FieldType} {dm : Nat} {avm : List Value} {v : Int32} {f : Nat} (hf : f < 6) (h : RA I U P)
    (mc : MM l yc cc nc rc dc D K A I U P avc (XE (some (.int v)) (tel (bg I) f) U P)) (mm : RB I U P (tel (bg I) f) U → MM l ym cm nm rm dm D K A (tel (bg I) f) U P avm (XE (some (.int v)) (mtel (tel (bg I) f) f) U P)) : Two l D K A I U P yc cc nc rc dc avc ym cm nm rm dm avm :=
  two_E h mc (fun x y q => by rw [tel_1 q, bg_1 q]) (fun _ _ _ => rfl) (fun x y q => mtel_1 q) (fun _ _ _ => rfl) (fun r => ⟨mm r, RAF_tel hf (RAF_bg r.1)⟩)
