/-! the warp, the deck, the loom: made -/
def fk (A : Nat → Nat) (a d k : Nat) : Nat → Option Nat := fun j => if j < k then some (A (a + d * j)) else none
theorem fk_s {A : Nat → Nat} {a d k : Nat} : va_up (fk A a d k) k (some (A (a + d * k))) = fk A a d (k + 1) := by
  funext j
  by_cases h : j = k
  · subst h; rw [va_up_at, fk, if_pos (by omega)]
  · rw [upn h]
    unfold fk
    by_cases h2 : j < k
    · rw [if_pos h2, if_pos (by omega)]
    · rw [if_neg h2, if_neg (by omega)]
theorem fk_A {A A' : Nat → Nat} {a d k : Nat} (h : ∀ j, j < k → A' (a + d * j) = A (a + d * j)) : fk A' a d k = fk A a d k := by
  funext j
  unfold fk
  by_cases h2 : j < k
  · rw [if_pos h2, if_pos h2, h j h2]
  · rw [if_neg h2, if_neg h2]
theorem fk_1 {A : Nat → Nat} {a k : Nat} : fk A a 1 k = fun j => if j < k then some (A (a + j)) else none := by
  funext j
  unfold fk
  rw [Nat.one_mul]
theorem fk_0 {A : Nat → Nat} {a d : Nat} : fk A a d 0 = fun _ => none := by
  funext j
  unfold fk
  rw [if_neg (by omega)]
theorem g0_g {K : Nat → ClassId} {A : Nat → Nat} {i : Nat} (h1 : ¬ i = 2) (h2 : ¬ i = 50) : g0 K A i = gg A K I0 U0 P0 i := by
  unfold g0
  rw [if_neg h1, if_neg h2]
theorem g0_l {K : Nat → ClassId} {A A' : Nat → Nat} {i : Nat} (h1 : 4 ≤ i) (h2 : i < 44) (h : i % 2 = 0 → A' (i + 1) = A (i + 1)) : g0 K A' i = g0 K A i := by
  rw [g0_g (by omega) (by omega), g0_g (by omega) (by omega)]
  unfold gg
  have hh : 4 ≤ i ∧ i < 44 := ⟨h1, h2⟩
  rw [if_pos hh, if_pos hh]
  by_cases q : i % 2 = 0
  · rw [if_pos q, if_pos q]
    unfold g_lane
    rw [h q]
  · rw [if_neg q, if_neg q]
/-- a part's cells speak of that part's cells alone -/
theorem g0_st {K : Nat → ClassId} {A A' : Nat → Nat} {i M : Nat} (h1 : 1 ≤ i) (h2 : i < M) (hM : M = 44 ∨ M = 46 ∨ M = 49 ∨ M = 63 ∨ M = 65) (h : ∀ j, j < M → A' j = A j) : g0 K A' i = g0 K A i := by
  by_cases q : 4 ≤ i ∧ i < 44
  · exact g0_l q.1 q.2 (fun _ => h _ (by omega))
  · by_cases q2 : 51 ≤ i ∧ i < 63
    · rw [g0_g (by omega) (by omega), g0_g (by omega) (by omega)]
      unfold gg
      rw [if_neg q, if_pos q2, if_neg q, if_pos q2]
    · rcases (show i = 1 ∨ i = 2 ∨ i = 3 ∨ i = 44 ∨ i = 45 ∨ i = 46 ∨ i = 47 ∨ i = 48 ∨ i = 49 ∨ i = 50 ∨ i = 63 ∨ i = 64 by omega) with rfl | rfl | rfl | rfl | rfl | rfl | rfl | rfl | rfl | rfl | rfl | rfl
      · show (.inr (7, [.ref (A' 2), .ref (A' 3)]) : va_E) = .inr (7, [.ref (A 2), .ref (A 3)])
        rw [h 2 (by omega), h 3 (by omega)]
      · show (.inl (K 3, 20, rq (fk A' 4 2 20)) : va_E) = .inl (K 3, 20, rq (fk A 4 2 20))
        rw [fk_A (A := A) (fun j hj => h _ (by omega))]
      · rfl
      · show (.inr (5, [.ref (A' 45), .int 0, .int 0]) : va_E) = .inr (5, [.ref (A 45), .int 0, .int 0])
        rw [h 45 (by omega)]
      · rfl
      · show (.inr (1, [.ref (A' 47), .ref (A' 48), .int 0, .int 0, .int 0]) : va_E) = .inr (1, [.ref (A 47), .ref (A 48), .int 0, .int 0, .int 0])
        rw [h 47 (by omega), h 48 (by omega)]
      · rfl
      · rfl
      · show (.inr (2, [.ref (A' 50), .int 0]) : va_E) = .inr (2, [.ref (A 50), .int 0])
        rw [h 50 (by omega)]
      · show (.inl (K 4, 12, rq (fun j => if j < 12 then some (A' (51 + j)) else none)) : va_E) = .inl (K 4, 12, rq (fun j => if j < 12 then some (A (51 + j)) else none))
        rw [← fk_1, ← fk_1, fk_A (A := A) (fun j hj => h _ (by omega))]
      · show (.inr (3, [.ref (A' 64), .int 0]) : va_E) = .inr (3, [.ref (A 64), .int 0])
        rw [h 64 (by omega)]
      · rfl
theorem LN_r {so q : Nat} : ∃ (ci : Nat) (fs : List Value) (r : vw_C), LN so q = .inr (ci, fs) ∧ vwCl[ci]? = some r ∧ Cond.castable r.1 "HandLoom$Lane" ∈ nw_l := by
  unfold LN
  split
  · exact ⟨_, _, _, rfl, rfl, by decide +kernel⟩
  · split
    · exact ⟨_, _, _, rfl, rfl, by decide +kernel⟩
    · exact ⟨_, _, _, rfl, rfl, by decide +kernel⟩
set_option maxRecDepth 100000 in
set_option maxHeartbeats 4000000 in
theorem lp_8_init {p : Program} {l : Launch} {e : Env} {s : State} {m : MethodId} {args : Array Value} {below : List Frame} {meth : Method} {c : Code} {D : va_G} {K : Nat → ClassId} {A0 : Nat → Nat} {gI : Nat → va_E} (C : CX p s m args meth c RX8 cX8_init 2 none D K (AX 2 A0 s.heap.size)) : ∀ (f k : Nat), k + f = 20 → ∀ (A : Nat → Nat) (g : Nat → va_E), (∀ i, i < 2 → A i = A0 i) → g 0 = gI 0 → g 1 = .inr (7, [.ref (A 2), .ref (A 3)]) → g 2 = .inl (K 3, 20, rq (fk A 4 2 k)) → g 3 = .inl (K 3, 20, rq (fun _ => none)) → (∀ i, 4 ≤ i → i < 4 + 2 * k → g i = g0 K A i) →
    GJ p l e (rmi 4 42 580) s m args below meth c 2 D (AX 2 A0 s.heap.size) (MQG below D 2 A0 44 args s 42 580 (fun v A' g' => v = none ∧ (∀ i, i < 1 → g' i = gI i) ∧ ∀ i, 1 ≤ i → i < 44 → g' i = g0 K A' i)) (4 + 2 * k) A g (2 + 2 * k) (40 + 27 * k) 24 [some (.ref (A 1)), some (.int (nI k))] [] := by
  intro f
  induction f with
  | zero =>
    intro k hk A g hA e0 e1 e2 e3 e4
    obtain rfl : k = 20 := by omega
    refine jx_iload_n C dX8_init_24 rfl ?_
    refine jx_aload_n C dX8_init_25 rfl ?_
    refine jx_get C fl_8_11_7 dX8_init_26 (by omega) e1 rfl ?_
    refine jx_alen (t0 := 3) (v := 20) C dX8_init_29 (by omega) e2 rfl rfl ?_
    refine jx_ic_geT (tgt := 51) C dX8_init_30 (by decide) (by decide) ?_
    refine jx_vretG C dX8_init_51 (by omega) hA ⟨rfl, fun i hi => ?_, fun i h1 h2 => ?_⟩
    · obtain rfl : i = 0 := by omega
      exact e0
    · by_cases q : 4 ≤ i
      · exact e4 i q h2
      · rcases (show i = 1 ∨ i = 2 ∨ i = 3 by omega) with rfl | rfl | rfl
        · rw [e1]; rfl
        · rw [e2]; rfl
        · rw [e3]; rfl
  | succ f ih =>
    intro k hk A g hA e0 e1 e2 e3 e4
    refine jx_iload_n C dX8_init_24 rfl ?_
    refine jx_aload_n C dX8_init_25 rfl ?_
    refine jx_get C fl_8_11_7 dX8_init_26 (by omega) e1 rfl ?_
    refine jx_alen (t0 := 3) (v := 20) C dX8_init_29 (by omega) e2 rfl rfl ?_
    refine jx_ic_geF (tgt := 51) C dX8_init_30 (by
      rw [show (20 : Int32) = nI 20 from rfl]
      exact nI_ge (by omega) (by omega)) (by decide) ?_
    refine jx_aload_n C dX8_init_33 rfl ?_
    refine jx_get C fl_8_11_7 dX8_init_34 (by omega) e1 rfl ?_
    refine jx_iload_n C dX8_init_37 rfl ?_
    refine jx_iload_n C dX8_init_38 rfl ?_
    refine jx_iconst (v := 5) C dX8_init_39 (by decide) ?_
    refine jx_irem C dX8_init_40 (by decide) ?_
    rw [show nI k - nI k / 5 * 5 = nI (k % 5) from rem_co (co := 5) (by decide) (by decide) (by omega)]
    refine jx_staG (As := [.int (nI (k % 5))]) C (nl_ (by omega)) sw_8_20 (by omega) rfl ⟨(Nat.le_of_ble_eq_true rfl), (Nat.le_of_ble_eq_true rfl)⟩ ⟨by show 2 + 2 * k + 2 ≤ 42; omega, by show 40 + 27 * k + 27 ≤ 580; omega⟩ dX8_init_41 rfl (Nat.le_of_ble_eq_true rfl) ?_
    rintro v A1 g1 h1 ⟨rfl, f1, f2, f3⟩
    rw [← h1 1 (by omega), ← h1 2 (by omega)]
    have e2' : g1 2 = .inl (K 3, 20, rq (fk A1 4 2 k)) := by rw [f1 2 (by omega), e2, fk_A (A := A) (fun j hj => h1 _ (by omega))]
    obtain ⟨ci, fs, r, hL, hc, hcw⟩ := LN_r (so := k % 5) (q := A1 (4 + 2 * k + 1))
    refine jx_aast k C dX8_init_44 (i := 2) (q := 4 + 2 * k) (by omega) e2' (by omega) (f2.trans hL) hc hcw rfl (by omega) (by decide) rfl ?_
    rw [fk_s]
    refine jx_iinc (lv1 := [_, _]) C dX8_init_45 rfl (nI_1 k) rfl ?_
    refine jx_goto (tgt := 24) C dX8_init_48 (by decide) ?_
    exact ih (k + 1) (by omega) A1 _ (fun i hi => by rw [h1 i (by omega), hA i hi]) (by rw [upn (by omega), f1 0 (by omega)]; exact e0) (by rw [upn (by omega), f1 1 (by omega), e1, h1 2 (by omega), h1 3 (by omega)]) va_up_at (by rw [upn (by omega), f1 3 (by omega)]; exact e3) (fun i a b => by
      rw [upn (by omega)]
      by_cases q : i < 4 + 2 * k
      · rw [f1 i q, e4 i a q]
        exact (g0_l a (by omega) (fun _ => h1 _ (by omega))).symm
      · rcases (show i = 4 + 2 * k ∨ i = 4 + 2 * k + 1 by omega) with rfl | rfl
        · rw [f2, (g0_ln (by omega)).1, show 4 + 2 * k + 1 = 5 + 2 * k by omega]
        · rw [f3, show 4 + 2 * k + 1 = 5 + 2 * k by omega, (g0_ln (by omega)).2])
set_option maxRecDepth 100000 in
set_option maxHeartbeats 4000000 in
theorem i_8 {l : Launch} {D : va_G} {K : Nat → ClassId} {A : Nat → Nat} {g : Nat → va_E} (hg0 : g 1 = .inr (7, [.null, .null])) : MI l yX8_init cX8_init 2 none 4 42 580 D K (2) A g [.ref (A 1)] (44) (fun v A' g' => v = none ∧ (∀ i, i < 1 → g' i = g i) ∧ ∀ i, 1 ≤ i → i < 44 → g' i = g0 K A' i) := by
  refine MI.go (own := RX8) (lv0 := [some (.ref (A 1)), none]) rfl (by decide) rfl (Nat.le_of_ble_eq_true rfl) rfl ?_
  intro p e s m args below meth c C hm
  refine jx_aload_n C dX8_init_0 rfl ?_
  refine jx_oinit C dX8_init_1 qw_26 qw_19 qw_20 ⟨(Nat.le_of_ble_eq_true rfl), (Nat.le_of_ble_eq_true rfl)⟩ (Nat.le_of_ble_eq_true rfl) ?_
  refine jx_aload_n C dX8_init_4 rfl ?_
  refine jx_bipush (v := 20) C dX8_init_5 (by decide) ?_
  refine jx_newq (t0 := 3) (n0 := 20) C dX8_init_7 qw_27 (by decide +kernel) rfl rfl (by decide) (Nat.le_of_ble_eq_true rfl) (Nat.le_of_ble_eq_true rfl) ?_
  intro A1 h1
  rw [← h1 (1) (by omega)]
  refine jx_putF C hm fpf_8_11_7 dX8_init_10 (fs := [.null, .null]) (g1 := (va_up (va_up g (2) (.inl (K 3, 20, rq (fun _ => none)))) (1) (.inr (7, [.ref (A1 (2)), .null])))) (by omega) (by simp [va_up, hg0]) rfl rfl (Nat.le_of_ble_eq_true rfl) rfl ?_
  refine jx_aload_n C dX8_init_13 rfl ?_
  refine jx_bipush (v := 20) C dX8_init_14 (by decide) ?_
  refine jx_newq (t0 := 3) (n0 := 20) C dX8_init_16 qw_27 (by decide +kernel) rfl rfl (by decide) (Nat.le_of_ble_eq_true rfl) (Nat.le_of_ble_eq_true rfl) ?_
  intro A2 h2
  rw [← h2 (1) (by omega)]
  rw [← h2 (2) (by omega)]
  refine jx_putF C hm fpf_8_17_7 dX8_init_19 (fs := [.ref (A2 (2)), .null]) (g1 := (va_up (va_up (va_up (va_up g (2) (.inl (K 3, 20, rq (fun _ => none)))) (1) (.inr (7, [.ref (A2 (2)), .null]))) (3) (.inl (K 3, 20, rq (fun _ => none)))) (1) (.inr (7, [.ref (A2 (2)), .ref (A2 (3))])))) (by omega) (by simp [va_up, hg0]) rfl rfl (Nat.le_of_ble_eq_true rfl) rfl ?_
  refine jx_iconst (v := 0) C dX8_init_22 (by decide) ?_
  refine jx_istore_n (lv1 := [_, _]) C dX8_init_23 (by decide) rfl ?_
  exact lp_8_init C 20 0 rfl A2 _ (fun i hi => by rw [h2 i (by omega), h1 i (by omega)]) rfl rfl (by
    rw [fk_0]
    rfl) rfl (fun i a b => by omega)
set_option maxRecDepth 100000 in
set_option maxHeartbeats 4000000 in
theorem lp_2_init {p : Program} {l : Launch} {e : Env} {s : State} {m : MethodId} {args : Array Value} {below : List Frame} {meth : Method} {c : Code} {D : va_G} {K : Nat → ClassId} {A0 : Nat → Nat} {gI : Nat → va_E} (C : CX p s m args meth c RX2 cX2_init 2 none D K (AX 50 A0 s.heap.size)) : ∀ (f k : Nat), k + f = 12 → ∀ (A : Nat → Nat) (g : Nat → va_E), (∀ i, i < 50 → A i = A0 i) → (∀ i, i < 49 → g i = gI i) → g 49 = .inr (2, [.ref (A 50), .int 0]) → g 50 = .inl (K 4, 12, rq (fk A 51 1 k)) → (∀ i, 51 ≤ i → i < 51 + k → g i = .inr (0, [.int 0, .int 0, .int 0, .int 0, .int 0])) →
    GJ p l e (rmi 2 13 72) s m args below meth c 2 D (AX 50 A0 s.heap.size) (MQG below D 50 A0 63 args s 13 72 (fun v A' g' => v = none ∧ (∀ i, i < 49 → g' i = gI i) ∧ ∀ i, 49 ≤ i → i < 63 → g' i = g0 K A' i)) (51 + k) A g (1 + k) (12 + 5 * k) 20 [some (.ref (A 49)), some (.int (nI k))] [] := by
  intro f
  induction f with
  | zero =>
    intro k hk A g hA e0 e1 e2 e4
    obtain rfl : k = 12 := by omega
    refine jx_iload_n C dX2_init_20 rfl ?_
    refine jx_aload_n C dX2_init_21 rfl ?_
    refine jx_get C fl_2_11_2 dX2_init_22 (by omega) e1 rfl ?_
    refine jx_alen (t0 := 4) (v := 12) C dX2_init_25 (by omega) e2 rfl rfl ?_
    refine jx_ic_geT (tgt := 48) C dX2_init_26 (by decide) (by decide) ?_
    refine jx_vretG C dX2_init_48 (by omega) hA ⟨rfl, e0, fun i h1 h2 => ?_⟩
    by_cases q : 51 ≤ i
    · rw [e4 i q h2]
      unfold g0 gg
      rw [if_neg (by omega), if_neg (by omega), if_neg (by omega), if_pos ⟨q, h2⟩, I0_r (by omega)]
    · rcases (show i = 49 ∨ i = 50 by omega) with rfl | rfl
      · rw [e1]; rfl
      · rw [e2, fk_1]; rfl
  | succ f ih =>
    intro k hk A g hA e0 e1 e2 e4
    refine jx_iload_n C dX2_init_20 rfl ?_
    refine jx_aload_n C dX2_init_21 rfl ?_
    refine jx_get C fl_2_11_2 dX2_init_22 (by omega) e1 rfl ?_
    refine jx_alen (t0 := 4) (v := 12) C dX2_init_25 (by omega) e2 rfl rfl ?_
    refine jx_ic_geF (tgt := 48) C dX2_init_26 (by
      rw [show (12 : Int32) = nI 12 from rfl]
      exact nI_ge (by omega) (by omega)) (by decide) ?_
    refine jx_aload_n C dX2_init_29 rfl ?_
    refine jx_get C fl_2_11_2 dX2_init_30 (by omega) e1 rfl ?_
    refine jx_iload_n C dX2_init_33 rfl ?_
    refine jx_new C nwd_2_9 dX2_init_34 (by show 1 + k + 1 ≤ 13; omega) (by show 12 + 5 * k + 5 ≤ 72; omega) ?_
    intro A1 h1
    rw [← h1 49 (by omega), ← h1 50 (by omega)]
    refine jx_dup C dX2_init_37 rfl ?_
    refine jx_ini (As := []) C (i_0 (n0 := 51 + k) va_up_at) iw_2_21 (Nat.le_refl _) rfl ⟨(Nat.le_of_ble_eq_true rfl), (Nat.le_of_ble_eq_true rfl)⟩ ⟨by show 1 + k + 1 + 0 ≤ 13; omega, by show 12 + 5 * k + 5 + 0 ≤ 72; omega⟩ dX2_init_38 rfl (Nat.le_of_ble_eq_true rfl) ?_
    rintro v A2 g2 h2 ⟨rfl, f1, f2⟩
    rw [← h2 49 (by omega), ← h2 50 (by omega), ← h2 (51 + k) (by omega)]
    have e50 : g2 50 = .inl (K 4, 12, rq (fk A2 51 1 k)) := by rw [f1 50 (by omega), upn (by omega), e2, fk_A (A := A) (A' := A2) (fun j hj => by rw [h2 _ (by omega), h1 _ (by omega)])]
    refine jx_aastC k C dX2_init_41 (i := 50) (q := 51 + k) (by omega) e50 (by omega) f2 rfl (by omega) (by decide) rfl ?_
    rw [show va_up (fk A2 51 1 k) k (some (A2 (51 + k))) = fk A2 51 1 (k + 1) from by rw [← fk_s, Nat.one_mul]]
    refine jx_iinc (lv1 := [_, _]) C dX2_init_42 rfl (nI_1 k) rfl ?_
    refine jx_goto (tgt := 20) C dX2_init_45 (by decide) ?_
    rw [show 1 + k + 1 + 0 = 1 + (k + 1) by omega, show 12 + 5 * k + 5 + 0 = 12 + 5 * (k + 1) by omega]
    exact ih (k + 1) (by omega) A2 _ (fun i hi => by rw [h2 i (by omega), h1 i (by omega), hA i hi]) (fun i hi => by rw [upn (by omega), f1 i (by omega), upn (by omega)]; exact e0 i hi) (by rw [upn (by omega), f1 49 (by omega), upn (by omega), e1, h2 50 (by omega), h1 50 (by omega)]) va_up_at (fun i a b => by
      rw [upn (by omega)]
      by_cases q : i < 51 + k
      · rw [f1 i q, upn (by omega)]; exact e4 i a q
      · obtain rfl : i = 51 + k := by omega
        exact f2)
set_option maxRecDepth 100000 in
set_option maxHeartbeats 4000000 in
theorem i_2 {l : Launch} {D : va_G} {K : Nat → ClassId} {A : Nat → Nat} {g : Nat → va_E} (hg0 : g 49 = .inr (2, [.null, .int 0])) : MI l yX2_init cX2_init 2 none 2 13 72 D K (50) A g [.ref (A 49)] (63) (fun v A' g' => v = none ∧ (∀ i, i < 49 → g' i = g i) ∧ ∀ i, 49 ≤ i → i < 63 → g' i = g0 K A' i) := by
  refine MI.go (own := RX2) (lv0 := [some (.ref (A 49)), none]) rfl (by decide) rfl (Nat.le_of_ble_eq_true rfl) rfl ?_
  intro p e s m args below meth c C hm
  refine jx_aload_n C dX2_init_0 rfl ?_
  refine jx_oinit C dX2_init_1 qw_126 qw_19 qw_20 ⟨(Nat.le_of_ble_eq_true rfl), (Nat.le_of_ble_eq_true rfl)⟩ (Nat.le_of_ble_eq_true rfl) ?_
  refine jx_aload_n C dX2_init_4 rfl ?_
  refine jx_bipush (v := 12) C dX2_init_5 (by decide) ?_
  refine jx_newq (t0 := 4) (n0 := 12) C dX2_init_7 qw_127 (by decide +kernel) rfl rfl (by decide) (Nat.le_of_ble_eq_true rfl) (Nat.le_of_ble_eq_true rfl) ?_
  intro A1 h1
  rw [← h1 (49) (by omega)]
  refine jx_putF C hm fpf_2_11_2 dX2_init_10 (fs := [.null, .int 0]) (g1 := (va_up (va_up g (50) (.inl (K 4, 12, rq (fun _ => none)))) (49) (.inr (2, [.ref (A1 (50)), .int 0])))) (by omega) (by simp [va_up, hg0]) rfl rfl (Nat.le_of_ble_eq_true rfl) rfl ?_
  refine jx_aload_n C dX2_init_13 rfl ?_
  refine jx_iconst (v := 0) C dX2_init_14 (by decide) ?_
  refine jx_putG C fp_2_17_2 dX2_init_15 (fs := [.ref (A1 (50)), .int 0]) (g1 := (va_up (va_up (va_up g (50) (.inl (K 4, 12, rq (fun _ => none)))) (49) (.inr (2, [.ref (A1 (50)), .int 0]))) (49) (.inr (2, [.ref (A1 (50)), .int 0])))) (by omega) (by simp [va_up, hg0]) rfl rfl (Nat.le_of_ble_eq_true rfl) rfl ?_
  refine jx_iconst (v := 0) C dX2_init_18 (by decide) ?_
  refine jx_istore_n (lv1 := [_, _]) C dX2_init_19 (by decide) rfl ?_
  exact lp_2_init C 12 0 rfl A1 _ (fun i hi => by rw [h1 i (by omega)]) (fun i hi => by simp only [va_up]; rw [if_neg (by omega), if_neg (by omega), if_neg (by omega)]) rfl (by
    rw [fk_0]
    rfl) (fun i a b => by omega)
set_option maxRecDepth 100000 in
set_option maxHeartbeats 4000000 in
theorem i_10 {l : Launch} {D : va_G} {K : Nat → ClassId} {A : Nat → Nat} {g : Nat → va_E} (hg0 : g 0 = .inr (9, [.null, .null, .null, .null, .null, .int 0, .int 0, .int 0])) : MI l yX10_init cX10_init 1 none 5 64 1288 D K (1) A g [.ref (A 0)] (65) (fun v A' g' => v = none ∧ (∀ i, i < 0 → g' i = g i) ∧ ∀ i, 0 ≤ i → i < 65 → g' i = g0 K A' i) := by
  refine MI.go (own := RX10) (lv0 := [some (.ref (A 0))]) rfl (by decide) rfl (Nat.le_of_ble_eq_true rfl) rfl ?_
  intro p e s m args below meth c C hm
  refine jx_aload_n C dX10_init_0 rfl ?_
  refine jx_oinit C dX10_init_1 qw_18 qw_19 qw_20 ⟨(Nat.le_of_ble_eq_true rfl), (Nat.le_of_ble_eq_true rfl)⟩ (Nat.le_of_ble_eq_true rfl) ?_
  refine jx_aload_n C dX10_init_4 rfl ?_
  refine jx_new C nwd_10_7 dX10_init_5 (Nat.le_of_ble_eq_true rfl) (Nat.le_of_ble_eq_true rfl) ?_
  intro A1 h1
  rw [← h1 0 (by omega)]
  refine jx_dup C dX10_init_8 rfl ?_
  refine jx_ini (As := []) C (i_8 (by simp [va_up])) iw_10_9 (by omega) rfl ⟨(Nat.le_of_ble_eq_true rfl), (Nat.le_of_ble_eq_true rfl)⟩ ⟨(Nat.le_of_ble_eq_true rfl), (Nat.le_of_ble_eq_true rfl)⟩ dX10_init_9 rfl (Nat.le_of_ble_eq_true rfl) ?_
  rintro v A2 g1 h2 ⟨rfl, p0, b0⟩
  rw [← h2 0 (by omega), ← h2 1 (by omega)]
  have z0 : g1 0 = .inr (9, [.null, .null, .null, .null, .null, .int 0, .int 0, .int 0]) := by rw [p0 0 (by omega), upn (by omega), hg0]
  refine jx_putF C hm fpf_10_10_9 dX10_init_12 (fs := [.null, .null, .null, .null, .null, .int 0, .int 0, .int 0]) (g1 := va_up g1 0 (.inr (9, [.ref (A2 1), .null, .null, .null, .null, .int 0, .int 0, .int 0]))) (by omega) z0 rfl rfl (Nat.le_of_ble_eq_true rfl) rfl ?_
  have y0 : va_up g1 0 (.inr (9, [.ref (A2 1), .null, .null, .null, .null, .int 0, .int 0, .int 0])) 0 = .inr (9, [.ref (A2 1), .null, .null, .null, .null, .int 0, .int 0, .int 0]) := va_up_at
  have w0_0 : ∀ i, 1 ≤ i → i < 44 → va_up g1 0 (.inr (9, [.ref (A2 1), .null, .null, .null, .null, .int 0, .int 0, .int 0])) i = g0 K A2 i := fun i u v => by rw [upn (by omega)]; exact b0 i u v
  generalize va_up g1 0 (.inr (9, [.ref (A2 1), .null, .null, .null, .null, .int 0, .int 0, .int 0])) = k0 at y0 w0_0 ⊢
  refine jx_aload_n C dX10_init_15 rfl ?_
  refine jx_new C nwd_10_16 dX10_init_16 (Nat.le_of_ble_eq_true rfl) (Nat.le_of_ble_eq_true rfl) ?_
  intro A3 h3
  rw [← h3 0 (by omega)]
  refine jx_dup C dX10_init_19 rfl ?_
  refine jx_ini (As := []) C (i_6 (by simp [va_up])) iw_10_18 (by omega) rfl ⟨(Nat.le_of_ble_eq_true rfl), (Nat.le_of_ble_eq_true rfl)⟩ ⟨(Nat.le_of_ble_eq_true rfl), (Nat.le_of_ble_eq_true rfl)⟩ dX10_init_20 rfl (Nat.le_of_ble_eq_true rfl) ?_
  rintro v A4 g2 h4 ⟨rfl, p1, b1⟩
  rw [← h4 0 (by omega), ← h4 44 (by omega)]
  have z1 : g2 0 = .inr (9, [.ref (A4 1), .null, .null, .null, .null, .int 0, .int 0, .int 0]) := by rw [p1 0 (by omega), upn (by omega), y0, h4 1 (by omega), h3 1 (by omega)]
  refine jx_putF C hm fpf_10_19_9 dX10_init_23 (fs := [.ref (A4 1), .null, .null, .null, .null, .int 0, .int 0, .int 0]) (g1 := va_up g2 0 (.inr (9, [.ref (A4 1), .ref (A4 44), .null, .null, .null, .int 0, .int 0, .int 0]))) (by omega) z1 rfl rfl (Nat.le_of_ble_eq_true rfl) rfl ?_
  have y1 : va_up g2 0 (.inr (9, [.ref (A4 1), .ref (A4 44), .null, .null, .null, .int 0, .int 0, .int 0])) 0 = .inr (9, [.ref (A4 1), .ref (A4 44), .null, .null, .null, .int 0, .int 0, .int 0]) := va_up_at
  have w0_1 : ∀ i, 1 ≤ i → i < 44 → va_up g2 0 (.inr (9, [.ref (A4 1), .ref (A4 44), .null, .null, .null, .int 0, .int 0, .int 0])) i = g0 K A4 i := fun i u v => by rw [upn (by omega), p1 i (by omega), upn (by omega), w0_0 i u v]; exact (g0_st (M := 44) (by omega) v (by omega) (fun j hj => by rw [h4 j (by omega), h3 j (by omega)])).symm
  have w1_1 : ∀ i, 44 ≤ i → i < 46 → va_up g2 0 (.inr (9, [.ref (A4 1), .ref (A4 44), .null, .null, .null, .int 0, .int 0, .int 0])) i = g0 K A4 i := fun i u v => by rw [upn (by omega)]; exact b1 i u v
  generalize va_up g2 0 (.inr (9, [.ref (A4 1), .ref (A4 44), .null, .null, .null, .int 0, .int 0, .int 0])) = k1 at y1 w0_1 w1_1 ⊢
  refine jx_aload_n C dX10_init_26 rfl ?_
  refine jx_new C nwd_10_23 dX10_init_27 (Nat.le_of_ble_eq_true rfl) (Nat.le_of_ble_eq_true rfl) ?_
  intro A5 h5
  rw [← h5 0 (by omega)]
  refine jx_dup C dX10_init_30 rfl ?_
  refine jx_ini (As := []) C (i_1 (by simp [va_up])) iw_10_25 (by omega) rfl ⟨(Nat.le_of_ble_eq_true rfl), (Nat.le_of_ble_eq_true rfl)⟩ ⟨(Nat.le_of_ble_eq_true rfl), (Nat.le_of_ble_eq_true rfl)⟩ dX10_init_31 rfl (Nat.le_of_ble_eq_true rfl) ?_
  rintro v A6 g3 h6 ⟨rfl, p2, b2⟩
  rw [← h6 0 (by omega), ← h6 46 (by omega)]
  have z2 : g3 0 = .inr (9, [.ref (A6 1), .ref (A6 44), .null, .null, .null, .int 0, .int 0, .int 0]) := by rw [p2 0 (by omega), upn (by omega), y1, h6 1 (by omega), h5 1 (by omega), h6 44 (by omega), h5 44 (by omega)]
  refine jx_putF C hm fpf_10_26_9 dX10_init_34 (fs := [.ref (A6 1), .ref (A6 44), .null, .null, .null, .int 0, .int 0, .int 0]) (g1 := va_up g3 0 (.inr (9, [.ref (A6 1), .ref (A6 44), .ref (A6 46), .null, .null, .int 0, .int 0, .int 0]))) (by omega) z2 rfl rfl (Nat.le_of_ble_eq_true rfl) rfl ?_
  have y2 : va_up g3 0 (.inr (9, [.ref (A6 1), .ref (A6 44), .ref (A6 46), .null, .null, .int 0, .int 0, .int 0])) 0 = .inr (9, [.ref (A6 1), .ref (A6 44), .ref (A6 46), .null, .null, .int 0, .int 0, .int 0]) := va_up_at
  have w0_2 : ∀ i, 1 ≤ i → i < 44 → va_up g3 0 (.inr (9, [.ref (A6 1), .ref (A6 44), .ref (A6 46), .null, .null, .int 0, .int 0, .int 0])) i = g0 K A6 i := fun i u v => by rw [upn (by omega), p2 i (by omega), upn (by omega), w0_1 i u v]; exact (g0_st (M := 44) (by omega) v (by omega) (fun j hj => by rw [h6 j (by omega), h5 j (by omega)])).symm
  have w1_2 : ∀ i, 44 ≤ i → i < 46 → va_up g3 0 (.inr (9, [.ref (A6 1), .ref (A6 44), .ref (A6 46), .null, .null, .int 0, .int 0, .int 0])) i = g0 K A6 i := fun i u v => by rw [upn (by omega), p2 i (by omega), upn (by omega), w1_1 i u v]; exact (g0_st (M := 46) (by omega) v (by omega) (fun j hj => by rw [h6 j (by omega), h5 j (by omega)])).symm
  have w2_2 : ∀ i, 46 ≤ i → i < 49 → va_up g3 0 (.inr (9, [.ref (A6 1), .ref (A6 44), .ref (A6 46), .null, .null, .int 0, .int 0, .int 0])) i = g0 K A6 i := fun i u v => by rw [upn (by omega)]; exact b2 i u v
  generalize va_up g3 0 (.inr (9, [.ref (A6 1), .ref (A6 44), .ref (A6 46), .null, .null, .int 0, .int 0, .int 0])) = k2 at y2 w0_2 w1_2 w2_2 ⊢
  refine jx_aload_n C dX10_init_37 rfl ?_
  refine jx_new C nwd_10_30 dX10_init_38 (Nat.le_of_ble_eq_true rfl) (Nat.le_of_ble_eq_true rfl) ?_
  intro A7 h7
  rw [← h7 0 (by omega)]
  refine jx_dup C dX10_init_41 rfl ?_
  refine jx_ini (As := []) C (i_2 (by simp [va_up])) iw_10_32 (by omega) rfl ⟨(Nat.le_of_ble_eq_true rfl), (Nat.le_of_ble_eq_true rfl)⟩ ⟨(Nat.le_of_ble_eq_true rfl), (Nat.le_of_ble_eq_true rfl)⟩ dX10_init_42 rfl (Nat.le_of_ble_eq_true rfl) ?_
  rintro v A8 g4 h8 ⟨rfl, p3, b3⟩
  rw [← h8 0 (by omega), ← h8 49 (by omega)]
  have z3 : g4 0 = .inr (9, [.ref (A8 1), .ref (A8 44), .ref (A8 46), .null, .null, .int 0, .int 0, .int 0]) := by rw [p3 0 (by omega), upn (by omega), y2, h8 1 (by omega), h7 1 (by omega), h8 44 (by omega), h7 44 (by omega), h8 46 (by omega), h7 46 (by omega)]
  refine jx_putF C hm fpf_10_33_9 dX10_init_45 (fs := [.ref (A8 1), .ref (A8 44), .ref (A8 46), .null, .null, .int 0, .int 0, .int 0]) (g1 := va_up g4 0 (.inr (9, [.ref (A8 1), .ref (A8 44), .ref (A8 46), .ref (A8 49), .null, .int 0, .int 0, .int 0]))) (by omega) z3 rfl rfl (Nat.le_of_ble_eq_true rfl) rfl ?_
  have y3 : va_up g4 0 (.inr (9, [.ref (A8 1), .ref (A8 44), .ref (A8 46), .ref (A8 49), .null, .int 0, .int 0, .int 0])) 0 = .inr (9, [.ref (A8 1), .ref (A8 44), .ref (A8 46), .ref (A8 49), .null, .int 0, .int 0, .int 0]) := va_up_at
  have w0_3 : ∀ i, 1 ≤ i → i < 44 → va_up g4 0 (.inr (9, [.ref (A8 1), .ref (A8 44), .ref (A8 46), .ref (A8 49), .null, .int 0, .int 0, .int 0])) i = g0 K A8 i := fun i u v => by rw [upn (by omega), p3 i (by omega), upn (by omega), w0_2 i u v]; exact (g0_st (M := 44) (by omega) v (by omega) (fun j hj => by rw [h8 j (by omega), h7 j (by omega)])).symm
  have w1_3 : ∀ i, 44 ≤ i → i < 46 → va_up g4 0 (.inr (9, [.ref (A8 1), .ref (A8 44), .ref (A8 46), .ref (A8 49), .null, .int 0, .int 0, .int 0])) i = g0 K A8 i := fun i u v => by rw [upn (by omega), p3 i (by omega), upn (by omega), w1_2 i u v]; exact (g0_st (M := 46) (by omega) v (by omega) (fun j hj => by rw [h8 j (by omega), h7 j (by omega)])).symm
  have w2_3 : ∀ i, 46 ≤ i → i < 49 → va_up g4 0 (.inr (9, [.ref (A8 1), .ref (A8 44), .ref (A8 46), .ref (A8 49), .null, .int 0, .int 0, .int 0])) i = g0 K A8 i := fun i u v => by rw [upn (by omega), p3 i (by omega), upn (by omega), w2_2 i u v]; exact (g0_st (M := 49) (by omega) v (by omega) (fun j hj => by rw [h8 j (by omega), h7 j (by omega)])).symm
  have w3_3 : ∀ i, 49 ≤ i → i < 63 → va_up g4 0 (.inr (9, [.ref (A8 1), .ref (A8 44), .ref (A8 46), .ref (A8 49), .null, .int 0, .int 0, .int 0])) i = g0 K A8 i := fun i u v => by rw [upn (by omega)]; exact b3 i u v
  generalize va_up g4 0 (.inr (9, [.ref (A8 1), .ref (A8 44), .ref (A8 46), .ref (A8 49), .null, .int 0, .int 0, .int 0])) = k3 at y3 w0_3 w1_3 w2_3 w3_3 ⊢
  refine jx_aload_n C dX10_init_48 rfl ?_
  refine jx_new C nwd_10_37 dX10_init_49 (Nat.le_of_ble_eq_true rfl) (Nat.le_of_ble_eq_true rfl) ?_
  intro A9 h9
  rw [← h9 0 (by omega)]
  refine jx_dup C dX10_init_52 rfl ?_
  refine jx_ini (As := []) C (i_4 (by simp [va_up])) iw_10_39 (by omega) rfl ⟨(Nat.le_of_ble_eq_true rfl), (Nat.le_of_ble_eq_true rfl)⟩ ⟨(Nat.le_of_ble_eq_true rfl), (Nat.le_of_ble_eq_true rfl)⟩ dX10_init_53 rfl (Nat.le_of_ble_eq_true rfl) ?_
  rintro v A10 g5 h10 ⟨rfl, p4, b4⟩
  rw [← h10 0 (by omega), ← h10 63 (by omega)]
  have z4 : g5 0 = .inr (9, [.ref (A10 1), .ref (A10 44), .ref (A10 46), .ref (A10 49), .null, .int 0, .int 0, .int 0]) := by rw [p4 0 (by omega), upn (by omega), y3, h10 1 (by omega), h9 1 (by omega), h10 44 (by omega), h9 44 (by omega), h10 46 (by omega), h9 46 (by omega), h10 49 (by omega), h9 49 (by omega)]
  refine jx_putF C hm fpf_10_40_9 dX10_init_56 (fs := [.ref (A10 1), .ref (A10 44), .ref (A10 46), .ref (A10 49), .null, .int 0, .int 0, .int 0]) (g1 := va_up g5 0 (.inr (9, [.ref (A10 1), .ref (A10 44), .ref (A10 46), .ref (A10 49), .ref (A10 63), .int 0, .int 0, .int 0]))) (by omega) z4 rfl rfl (Nat.le_of_ble_eq_true rfl) rfl ?_
  have y4 : va_up g5 0 (.inr (9, [.ref (A10 1), .ref (A10 44), .ref (A10 46), .ref (A10 49), .ref (A10 63), .int 0, .int 0, .int 0])) 0 = .inr (9, [.ref (A10 1), .ref (A10 44), .ref (A10 46), .ref (A10 49), .ref (A10 63), .int 0, .int 0, .int 0]) := va_up_at
  have w0_4 : ∀ i, 1 ≤ i → i < 44 → va_up g5 0 (.inr (9, [.ref (A10 1), .ref (A10 44), .ref (A10 46), .ref (A10 49), .ref (A10 63), .int 0, .int 0, .int 0])) i = g0 K A10 i := fun i u v => by rw [upn (by omega), p4 i (by omega), upn (by omega), w0_3 i u v]; exact (g0_st (M := 44) (by omega) v (by omega) (fun j hj => by rw [h10 j (by omega), h9 j (by omega)])).symm
  have w1_4 : ∀ i, 44 ≤ i → i < 46 → va_up g5 0 (.inr (9, [.ref (A10 1), .ref (A10 44), .ref (A10 46), .ref (A10 49), .ref (A10 63), .int 0, .int 0, .int 0])) i = g0 K A10 i := fun i u v => by rw [upn (by omega), p4 i (by omega), upn (by omega), w1_3 i u v]; exact (g0_st (M := 46) (by omega) v (by omega) (fun j hj => by rw [h10 j (by omega), h9 j (by omega)])).symm
  have w2_4 : ∀ i, 46 ≤ i → i < 49 → va_up g5 0 (.inr (9, [.ref (A10 1), .ref (A10 44), .ref (A10 46), .ref (A10 49), .ref (A10 63), .int 0, .int 0, .int 0])) i = g0 K A10 i := fun i u v => by rw [upn (by omega), p4 i (by omega), upn (by omega), w2_3 i u v]; exact (g0_st (M := 49) (by omega) v (by omega) (fun j hj => by rw [h10 j (by omega), h9 j (by omega)])).symm
  have w3_4 : ∀ i, 49 ≤ i → i < 63 → va_up g5 0 (.inr (9, [.ref (A10 1), .ref (A10 44), .ref (A10 46), .ref (A10 49), .ref (A10 63), .int 0, .int 0, .int 0])) i = g0 K A10 i := fun i u v => by rw [upn (by omega), p4 i (by omega), upn (by omega), w3_3 i u v]; exact (g0_st (M := 63) (by omega) v (by omega) (fun j hj => by rw [h10 j (by omega), h9 j (by omega)])).symm
  have w4_4 : ∀ i, 63 ≤ i → i < 65 → va_up g5 0 (.inr (9, [.ref (A10 1), .ref (A10 44), .ref (A10 46), .ref (A10 49), .ref (A10 63), .int 0, .int 0, .int 0])) i = g0 K A10 i := fun i u v => by rw [upn (by omega)]; exact b4 i u v
  generalize va_up g5 0 (.inr (9, [.ref (A10 1), .ref (A10 44), .ref (A10 46), .ref (A10 49), .ref (A10 63), .int 0, .int 0, .int 0])) = k4 at y4 w0_4 w1_4 w2_4 w3_4 w4_4 ⊢
  refine jx_aload_n C dX10_init_59 rfl ?_
  refine jx_iconst (v := 0) C dX10_init_60 (by decide) ?_
  refine jx_putG C fp_10_44_9 dX10_init_61 (fs := [.ref (A10 1), .ref (A10 44), .ref (A10 46), .ref (A10 49), .ref (A10 63), .int 0, .int 0, .int 0]) (g1 := (va_up k4 0 (.inr (9, [.ref (A10 1), .ref (A10 44), .ref (A10 46), .ref (A10 49), .ref (A10 63), .int 0, .int 0, .int 0])))) (by omega) y4 rfl rfl (Nat.le_of_ble_eq_true rfl) rfl ?_
  refine jx_aload_n C dX10_init_64 rfl ?_
  refine jx_iconst (v := 0) C dX10_init_65 (by decide) ?_
  refine jx_putG C fp_10_48_9 dX10_init_66 (fs := [.ref (A10 1), .ref (A10 44), .ref (A10 46), .ref (A10 49), .ref (A10 63), .int 0, .int 0, .int 0]) (g1 := (va_up (va_up k4 0 (.inr (9, [.ref (A10 1), .ref (A10 44), .ref (A10 46), .ref (A10 49), .ref (A10 63), .int 0, .int 0, .int 0]))) 0 (.inr (9, [.ref (A10 1), .ref (A10 44), .ref (A10 46), .ref (A10 49), .ref (A10 63), .int 0, .int 0, .int 0])))) (by omega) va_up_at rfl rfl (Nat.le_of_ble_eq_true rfl) rfl ?_
  refine jx_aload_n C dX10_init_69 rfl ?_
  refine jx_iconst (v := 0) C dX10_init_70 (by decide) ?_
  refine jx_putG C fp_10_51_9 dX10_init_71 (fs := [.ref (A10 1), .ref (A10 44), .ref (A10 46), .ref (A10 49), .ref (A10 63), .int 0, .int 0, .int 0]) (g1 := (va_up (va_up (va_up k4 0 (.inr (9, [.ref (A10 1), .ref (A10 44), .ref (A10 46), .ref (A10 49), .ref (A10 63), .int 0, .int 0, .int 0]))) 0 (.inr (9, [.ref (A10 1), .ref (A10 44), .ref (A10 46), .ref (A10 49), .ref (A10 63), .int 0, .int 0, .int 0]))) 0 (.inr (9, [.ref (A10 1), .ref (A10 44), .ref (A10 46), .ref (A10 49), .ref (A10 63), .int 0, .int 0, .int 0])))) (by omega) va_up_at rfl rfl (Nat.le_of_ble_eq_true rfl) rfl ?_
  refine jx_vretG C dX10_init_74 (by omega) (fun i hi => by rw [h10 i (by omega), h9 i (by omega), h8 i (by omega), h7 i (by omega), h6 i (by omega), h5 i (by omega), h4 i (by omega), h3 i (by omega), h2 i (by omega), h1 i (by omega)]) ⟨rfl, fun i hi => by omega, fun i u v => ?_⟩
  by_cases q : i = 0
  · subst q
    rw [va_up_at]
    rfl
  · rw [upn q, upn q, upn q]
    by_cases q1 : i < 44
    · exact w0_4 i (by omega) q1
    · by_cases q2 : i < 46
      · exact w1_4 i (by omega) q2
      · by_cases q3 : i < 49
        · exact w2_4 i (by omega) q3
        · by_cases q4 : i < 63
          · exact w3_4 i (by omega) q4
          · exact w4_4 i (by omega) v
