/-! the other constructors; the first heap -/
def I0 : TI := fun x y => if x = 66 ∧ y < 20 then -1 else 0
def U0 : TU := fun _ _ => 0
def P0 : TP := fun _ => none
/-- the cells as they are made -/
def g0 (K : Nat → ClassId) (A : Nat → Nat) (i : Nat) : va_E := if i = 2 then .inl (K 3, 20, rq (fun j => if j < 20 then some (A (4 + 2 * j)) else none)) else if i = 50 then .inl (K 4, 12, rq (fun j => if j < 12 then some (A (51 + j)) else none)) else gg A K I0 U0 P0 i
theorem I0_o {x y : Nat} (h : ¬ x = 66) : I0 x y = 0 := by
  unfold I0
  rw [if_neg (by omega)]
theorem I0_r {x : Nat} (h : ¬ x = 66) : I0 x = fun _ => 0 := by
  funext y
  exact I0_o h
def LN (so q : Nat) : va_E := if so = 2 then .inr (6, [.int 0, .ref q]) else if so = 3 then .inr (4, [.int 0, .ref q]) else .inr (8, [.int 0, .int (nI so), .ref q])
def AN (K : Nat → ClassId) (so : Nat) : va_E := if so = 2 then .inl (K 2, 24, rf (fun _ => 0)) else if so = 3 then .inl (K 1, 24, ri (fun _ => 0)) else .inl (K 0, 24, ri (fun _ => 0))
theorem g0_ln {K : Nat → ClassId} {A : Nat → Nat} {k : Nat} (hk : k < 20) : g0 K A (4 + 2 * k) = LN (k % 5) (A (5 + 2 * k)) ∧ g0 K A (5 + 2 * k) = AN K (k % 5) := by
  unfold g0 gg
  rw [if_neg (by omega), if_neg (by omega), if_pos (by omega), if_pos (by omega), if_neg (by omega), if_neg (by omega), if_pos (by omega), if_neg (by omega)]
  unfold g_lane g_arr LN AN
  rw [show (4 + 2 * k - 4) / 2 = k by omega, show (5 + 2 * k - 5) / 2 = k by omega, I0_o (by omega), I0_r (by omega), show 4 + 2 * k + 1 = 5 + 2 * k by omega]
  exact ⟨rfl, rfl⟩

set_option maxRecDepth 100000 in
set_option maxHeartbeats 4000000 in
theorem nl_7 {l : Launch} {D : va_G} {K : Nat → ClassId} {A : Nat → Nat} {g : Nat → va_E} {N so : Nat} (h : so = 2) : MI l yX8_newLane cX8_newLane 1 (some (.object "HandLoom$Lane")) 3 2 27 D K (N) A g [.int (nI so)] (N + 2) (fun v A' g' => v = some (.ref (A' N)) ∧ (∀ i, i < N → g' i = g i) ∧ g' N = LN so (A' (N + 1)) ∧ g' (N + 1) = AN K so) := by
  refine MI.go (own := RX8) (lv0 := [some (.int (nI so))]) rfl (by decide) rfl (Nat.le_of_ble_eq_true rfl) rfl ?_
  intro p e s m args below meth c C hm
  refine jx_iload_n C dX8_newLane_0 rfl ?_
  subst h
  refine jx_lookup (off := 27) (tgt := 28) C dX8_newLane_1 (by decide) (by decide +kernel) (by decide) ?_
  refine jx_new C nwd_8_24 dX8_newLane_28 (Nat.le_of_ble_eq_true rfl) (Nat.le_of_ble_eq_true rfl) ?_
  intro A1 h1
  refine jx_dup C dX8_newLane_31 rfl ?_
  refine jx_ini (As := []) C (i_7 (n0 := N) (by simp [va_up])) iw_8_26 (by omega) rfl ⟨(Nat.le_of_ble_eq_true rfl), (Nat.le_of_ble_eq_true rfl)⟩ ⟨(Nat.le_of_ble_eq_true rfl), (Nat.le_of_ble_eq_true rfl)⟩ dX8_newLane_32 rfl (Nat.le_of_ble_eq_true rfl) ?_
  rintro v A2 g2 h2 ⟨rfl, f1, f2, f3⟩
  rw [← h2 N (by omega)]
  refine jx_widen (cs' := 2) (sl' := 27) (Nat.le_of_ble_eq_true rfl) (Nat.le_of_ble_eq_true rfl) ?_
  exact jx_aretG C dX8_newLane_35 (Or.inr ⟨_, rfl⟩) (by omega) (fun i hi => by rw [h2 i (by omega), h1 i hi]) ⟨rfl, fun i hi => by rw [f1 i hi, upn (by omega)], f2, f3⟩
set_option maxRecDepth 100000 in
set_option maxHeartbeats 4000000 in
theorem nl_5 {l : Launch} {D : va_G} {K : Nat → ClassId} {A : Nat → Nat} {g : Nat → va_E} {N so : Nat} (h : so = 3) : MI l yX8_newLane cX8_newLane 1 (some (.object "HandLoom$Lane")) 3 2 27 D K (N) A g [.int (nI so)] (N + 2) (fun v A' g' => v = some (.ref (A' N)) ∧ (∀ i, i < N → g' i = g i) ∧ g' N = LN so (A' (N + 1)) ∧ g' (N + 1) = AN K so) := by
  refine MI.go (own := RX8) (lv0 := [some (.int (nI so))]) rfl (by decide) rfl (Nat.le_of_ble_eq_true rfl) rfl ?_
  intro p e s m args below meth c C hm
  refine jx_iload_n C dX8_newLane_0 rfl ?_
  subst h
  refine jx_lookup (off := 35) (tgt := 36) C dX8_newLane_1 (by decide) (by decide +kernel) (by decide) ?_
  refine jx_new C nwd_8_27 dX8_newLane_36 (Nat.le_of_ble_eq_true rfl) (Nat.le_of_ble_eq_true rfl) ?_
  intro A1 h1
  refine jx_dup C dX8_newLane_39 rfl ?_
  refine jx_ini (As := []) C (i_5 (n0 := N) (by simp [va_up])) iw_8_29 (by omega) rfl ⟨(Nat.le_of_ble_eq_true rfl), (Nat.le_of_ble_eq_true rfl)⟩ ⟨(Nat.le_of_ble_eq_true rfl), (Nat.le_of_ble_eq_true rfl)⟩ dX8_newLane_40 rfl (Nat.le_of_ble_eq_true rfl) ?_
  rintro v A2 g2 h2 ⟨rfl, f1, f2, f3⟩
  rw [← h2 N (by omega)]
  refine jx_widen (cs' := 2) (sl' := 27) (Nat.le_of_ble_eq_true rfl) (Nat.le_of_ble_eq_true rfl) ?_
  exact jx_aretG C dX8_newLane_43 (Or.inr ⟨_, rfl⟩) (by omega) (fun i hi => by rw [h2 i (by omega), h1 i hi]) ⟨rfl, fun i hi => by rw [f1 i hi, upn (by omega)], f2, f3⟩
set_option maxRecDepth 100000 in
set_option maxHeartbeats 4000000 in
theorem nl_9 {l : Launch} {D : va_G} {K : Nat → ClassId} {A : Nat → Nat} {g : Nat → va_E} {N so : Nat} (hs : so < 5) (h2 : ¬ so = 2) (h3 : ¬ so = 3) : MI l yX8_newLane cX8_newLane 1 (some (.object "HandLoom$Lane")) 3 2 27 D K (N) A g [.int (nI so)] (N + 2) (fun v A' g' => v = some (.ref (A' N)) ∧ (∀ i, i < N → g' i = g i) ∧ g' N = LN so (A' (N + 1)) ∧ g' (N + 1) = AN K so) := by
  refine MI.go (own := RX8) (lv0 := [some (.int (nI so))]) rfl (by decide) rfl (Nat.le_of_ble_eq_true rfl) rfl ?_
  intro p e s m args below meth c C hm
  refine jx_iload_n C dX8_newLane_0 rfl ?_
  refine jx_lookup (off := 43) (tgt := 44) C dX8_newLane_1 (by decide) (by
    have e2 : ¬ nI so = 2 := by rw [show (2 : Int32) = nI 2 from rfl, nI_eq (by omega) (by decide)]; exact h2
    have e3 : ¬ nI so = 3 := by rw [show (3 : Int32) = nI 3 from rfl, nI_eq (by omega) (by decide)]; exact h3
    show Op.lookupswitch.offset [(2, 27), (3, 35)] 43 (nI so).toInt = 43
    rw [lv_osw (k := 2) (a := 2) e2 (by decide), lv_osw (k := 3) (a := 3) e3 (by decide)]
    rfl) (by decide) ?_
  refine jx_new C nwd_8_30 dX8_newLane_44 (Nat.le_of_ble_eq_true rfl) (Nat.le_of_ble_eq_true rfl) ?_
  intro A1 h1
  refine jx_dup C dX8_newLane_47 rfl ?_
  refine jx_iload_n C dX8_newLane_48 rfl ?_
  refine jx_ini (As := [.int (nI so)]) C (i_9 (n0 := N) (by simp [va_up])) iw_8_32 (by omega) rfl ⟨(Nat.le_of_ble_eq_true rfl), (Nat.le_of_ble_eq_true rfl)⟩ ⟨(Nat.le_of_ble_eq_true rfl), (Nat.le_of_ble_eq_true rfl)⟩ dX8_newLane_49 rfl (Nat.le_of_ble_eq_true rfl) ?_
  rintro v A2 g2 h2 ⟨rfl, f1, f2, f3⟩
  rw [← h2 N (by omega)]
  exact jx_aretG C dX8_newLane_52 (Or.inr ⟨_, rfl⟩) (by omega) (fun i hi => by rw [h2 i (by omega), h1 i hi]) ⟨rfl, fun i hi => by rw [f1 i hi, upn (by omega)], by rw [f2, LN, if_neg ‹¬ so = 2›, if_neg ‹¬ so = 3›], by rw [f3, AN, if_neg ‹¬ so = 2›, if_neg ‹¬ so = 3›]⟩
set_option maxRecDepth 100000 in
set_option maxHeartbeats 4000000 in
theorem nl_ {l : Launch} {D : va_G} {K : Nat → ClassId} {A : Nat → Nat} {g : Nat → va_E} {N so : Nat} (hs : so < 5) : MI l yX8_newLane cX8_newLane 1 (some (.object "HandLoom$Lane")) 3 2 27 D K (N) A g [.int (nI so)] (N + 2) (fun v A' g' => v = some (.ref (A' N)) ∧ (∀ i, i < N → g' i = g i) ∧ g' N = LN so (A' (N + 1)) ∧ g' (N + 1) = AN K so) := by
  by_cases h2 : so = 2
  · exact nl_7 h2
  · by_cases h3 : so = 3
    · exact nl_5 h3
    · exact nl_9 hs h2 h3
set_option maxRecDepth 100000 in
set_option maxHeartbeats 4000000 in
theorem i_6 {l : Launch} {D : va_G} {K : Nat → ClassId} {A : Nat → Nat} {g : Nat → va_E} (hg0 : g 44 = .inr (5, [.null, .int 0, .int 0])) : MI l yX6_init cX6_init 1 none 1 1 16 D K (45) A g [.ref (A 44)] (46) (fun v A' g' => v = none ∧ (∀ i, i < 44 → g' i = g i) ∧ ∀ i, 44 ≤ i → i < 46 → g' i = g0 K A' i) := by
  refine MI.go (own := RX6) (lv0 := [some (.ref (A 44))]) rfl (by decide) rfl (Nat.le_of_ble_eq_true rfl) rfl ?_
  intro p e s m args below meth c C hm
  refine jx_aload_n C dX6_init_0 rfl ?_
  refine jx_oinit C dX6_init_1 qw_88 qw_19 qw_20 ⟨(Nat.le_of_ble_eq_true rfl), (Nat.le_of_ble_eq_true rfl)⟩ (Nat.le_of_ble_eq_true rfl) ?_
  refine jx_aload_n C dX6_init_4 rfl ?_
  refine jx_bipush (v := 16) C dX6_init_5 (by decide) ?_
  refine jx_newa (t0 := 0) (n0 := 16) (a0 := (16, ri (fun _ => 0))) C dX6_init_7 rfl qw_75 rfl (fun _ => rfl) rfl (by decide) (by decide) (Nat.le_of_ble_eq_true rfl) (Nat.le_of_ble_eq_true rfl) ?_
  intro A1 h1
  rw [← h1 (44) (by omega)]
  refine jx_putF C hm fpf_6_9_5 dX6_init_9 (fs := [.null, .int 0, .int 0]) (g1 := (va_up (va_up g (45) (.inl (K 0, 16, ri (fun _ => 0)))) (44) (.inr (5, [.ref (A1 (45)), .int 0, .int 0])))) (by omega) (by simp [va_up, hg0]) rfl rfl (Nat.le_of_ble_eq_true rfl) rfl ?_
  refine jx_aload_n C dX6_init_12 rfl ?_
  refine jx_iconst (v := 0) C dX6_init_13 (by decide) ?_
  refine jx_putG C fp_6_15_5 dX6_init_14 (fs := [.ref (A1 (45)), .int 0, .int 0]) (g1 := (va_up (va_up (va_up g (45) (.inl (K 0, 16, ri (fun _ => 0)))) (44) (.inr (5, [.ref (A1 (45)), .int 0, .int 0]))) (44) (.inr (5, [.ref (A1 (45)), .int 0, .int 0])))) (by omega) (by simp [va_up, hg0]) rfl rfl (Nat.le_of_ble_eq_true rfl) rfl ?_
  refine jx_aload_n C dX6_init_17 rfl ?_
  refine jx_iconst (v := 0) C dX6_init_18 (by decide) ?_
  refine jx_putG C fp_6_19_5 dX6_init_19 (fs := [.ref (A1 (45)), .int 0, .int 0]) (g1 := (va_up (va_up (va_up (va_up g (45) (.inl (K 0, 16, ri (fun _ => 0)))) (44) (.inr (5, [.ref (A1 (45)), .int 0, .int 0]))) (44) (.inr (5, [.ref (A1 (45)), .int 0, .int 0]))) (44) (.inr (5, [.ref (A1 (45)), .int 0, .int 0])))) (by omega) (by simp [va_up, hg0]) rfl rfl (Nat.le_of_ble_eq_true rfl) rfl ?_
  refine jx_vretG C dX6_init_22 (by omega) (fun i hi => by rw [h1 i (by omega)]) ⟨rfl, fun i hi => ?_, fun i h1 h2 => ?_⟩
  · simp only [va_up]; rw [if_neg (by omega), if_neg (by omega), if_neg (by omega), if_neg (by omega)]
  · rcases (show i = 44 ∨ i = 45 by omega) with rfl | rfl <;> rfl
set_option maxRecDepth 100000 in
set_option maxHeartbeats 4000000 in
theorem i_1 {l : Launch} {D : va_G} {K : Nat → ClassId} {A : Nat → Nat} {g : Nat → va_E} (hg0 : g 46 = .inr (1, [.null, .null, .int 0, .int 0, .int 0])) : MI l yX1_init cX1_init 1 none 1 2 600 D K (47) A g [.ref (A 46)] (49) (fun v A' g' => v = none ∧ (∀ i, i < 46 → g' i = g i) ∧ ∀ i, 46 ≤ i → i < 49 → g' i = g0 K A' i) := by
  refine MI.go (own := RX1) (lv0 := [some (.ref (A 46))]) rfl (by decide) rfl (Nat.le_of_ble_eq_true rfl) rfl ?_
  intro p e s m args below meth c C hm
  refine jx_aload_n C dX1_init_0 rfl ?_
  refine jx_oinit C dX1_init_1 qw_104 qw_19 qw_20 ⟨(Nat.le_of_ble_eq_true rfl), (Nat.le_of_ble_eq_true rfl)⟩ (Nat.le_of_ble_eq_true rfl) ?_
  refine jx_aload_n C dX1_init_4 rfl ?_
  refine jx_sipush (v := 576) C dX1_init_5 (by decide) ?_
  refine jx_newa (t0 := 0) (n0 := 576) (a0 := (576, ri (fun _ => 0))) C dX1_init_8 rfl qw_75 rfl (fun _ => rfl) rfl (by decide) (by decide) (Nat.le_of_ble_eq_true rfl) (Nat.le_of_ble_eq_true rfl) ?_
  intro A1 h1
  rw [← h1 (46) (by omega)]
  refine jx_putF C hm fpf_1_9_1 dX1_init_10 (fs := [.null, .null, .int 0, .int 0, .int 0]) (g1 := (va_up (va_up g (47) (.inl (K 0, 576, ri (fun _ => 0)))) (46) (.inr (1, [.ref (A1 (47)), .null, .int 0, .int 0, .int 0])))) (by omega) (by simp [va_up, hg0]) rfl rfl (Nat.le_of_ble_eq_true rfl) rfl ?_
  refine jx_aload_n C dX1_init_13 rfl ?_
  refine jx_bipush (v := 24) C dX1_init_14 (by decide) ?_
  refine jx_newa (t0 := 0) (n0 := 24) (a0 := (24, ri (fun _ => 0))) C dX1_init_16 rfl qw_75 rfl (fun _ => rfl) rfl (by decide) (by decide) (Nat.le_of_ble_eq_true rfl) (Nat.le_of_ble_eq_true rfl) ?_
  intro A2 h2
  rw [← h2 (46) (by omega)]
  rw [← h2 (47) (by omega)]
  refine jx_putF C hm fpf_1_15_1 dX1_init_18 (fs := [.ref (A2 (47)), .null, .int 0, .int 0, .int 0]) (g1 := (va_up (va_up (va_up (va_up g (47) (.inl (K 0, 576, ri (fun _ => 0)))) (46) (.inr (1, [.ref (A2 (47)), .null, .int 0, .int 0, .int 0]))) (48) (.inl (K 0, 24, ri (fun _ => 0)))) (46) (.inr (1, [.ref (A2 (47)), .ref (A2 (48)), .int 0, .int 0, .int 0])))) (by omega) (by simp [va_up, hg0]) rfl rfl (Nat.le_of_ble_eq_true rfl) rfl ?_
  refine jx_aload_n C dX1_init_21 rfl ?_
  refine jx_iconst (v := 0) C dX1_init_22 (by decide) ?_
  refine jx_putG C fp_1_18_1 dX1_init_23 (fs := [.ref (A2 (47)), .ref (A2 (48)), .int 0, .int 0, .int 0]) (g1 := (va_up (va_up (va_up (va_up (va_up g (47) (.inl (K 0, 576, ri (fun _ => 0)))) (46) (.inr (1, [.ref (A2 (47)), .null, .int 0, .int 0, .int 0]))) (48) (.inl (K 0, 24, ri (fun _ => 0)))) (46) (.inr (1, [.ref (A2 (47)), .ref (A2 (48)), .int 0, .int 0, .int 0]))) (46) (.inr (1, [.ref (A2 (47)), .ref (A2 (48)), .int 0, .int 0, .int 0])))) (by omega) (by simp [va_up, hg0]) rfl rfl (Nat.le_of_ble_eq_true rfl) rfl ?_
  refine jx_aload_n C dX1_init_26 rfl ?_
  refine jx_iconst (v := 0) C dX1_init_27 (by decide) ?_
  refine jx_putG C fp_1_22_1 dX1_init_28 (fs := [.ref (A2 (47)), .ref (A2 (48)), .int 0, .int 0, .int 0]) (g1 := (va_up (va_up (va_up (va_up (va_up (va_up g (47) (.inl (K 0, 576, ri (fun _ => 0)))) (46) (.inr (1, [.ref (A2 (47)), .null, .int 0, .int 0, .int 0]))) (48) (.inl (K 0, 24, ri (fun _ => 0)))) (46) (.inr (1, [.ref (A2 (47)), .ref (A2 (48)), .int 0, .int 0, .int 0]))) (46) (.inr (1, [.ref (A2 (47)), .ref (A2 (48)), .int 0, .int 0, .int 0]))) (46) (.inr (1, [.ref (A2 (47)), .ref (A2 (48)), .int 0, .int 0, .int 0])))) (by omega) (by simp [va_up, hg0]) rfl rfl (Nat.le_of_ble_eq_true rfl) rfl ?_
  refine jx_aload_n C dX1_init_31 rfl ?_
  refine jx_iconst (v := 0) C dX1_init_32 (by decide) ?_
  refine jx_putG C fp_1_26_1 dX1_init_33 (fs := [.ref (A2 (47)), .ref (A2 (48)), .int 0, .int 0, .int 0]) (g1 := (va_up (va_up (va_up (va_up (va_up (va_up (va_up g (47) (.inl (K 0, 576, ri (fun _ => 0)))) (46) (.inr (1, [.ref (A2 (47)), .null, .int 0, .int 0, .int 0]))) (48) (.inl (K 0, 24, ri (fun _ => 0)))) (46) (.inr (1, [.ref (A2 (47)), .ref (A2 (48)), .int 0, .int 0, .int 0]))) (46) (.inr (1, [.ref (A2 (47)), .ref (A2 (48)), .int 0, .int 0, .int 0]))) (46) (.inr (1, [.ref (A2 (47)), .ref (A2 (48)), .int 0, .int 0, .int 0]))) (46) (.inr (1, [.ref (A2 (47)), .ref (A2 (48)), .int 0, .int 0, .int 0])))) (by omega) (by simp [va_up, hg0]) rfl rfl (Nat.le_of_ble_eq_true rfl) rfl ?_
  refine jx_vretG C dX1_init_36 (by omega) (fun i hi => by rw [h2 i (by omega), h1 i (by omega)]) ⟨rfl, fun i hi => ?_, fun i h1 h2 => ?_⟩
  · simp only [va_up]; rw [if_neg (by omega), if_neg (by omega), if_neg (by omega), if_neg (by omega), if_neg (by omega), if_neg (by omega), if_neg (by omega)]
  · rcases (show i = 46 ∨ i = 47 ∨ i = 48 by omega) with rfl | rfl | rfl <;> rfl
set_option maxRecDepth 100000 in
set_option maxHeartbeats 4000000 in
theorem i_4 {l : Launch} {D : va_G} {K : Nat → ClassId} {A : Nat → Nat} {g : Nat → va_E} (hg0 : g 63 = .inr (3, [.null, .int 0])) : MI l yX4_init cX4_init 1 none 1 1 6 D K (64) A g [.ref (A 63)] (65) (fun v A' g' => v = none ∧ (∀ i, i < 63 → g' i = g i) ∧ ∀ i, 63 ≤ i → i < 65 → g' i = g0 K A' i) := by
  refine MI.go (own := RX4) (lv0 := [some (.ref (A 63))]) rfl (by decide) rfl (Nat.le_of_ble_eq_true rfl) rfl ?_
  intro p e s m args below meth c C hm
  refine jx_aload_n C dX4_init_0 rfl ?_
  refine jx_oinit C dX4_init_1 qw_172 qw_19 qw_20 ⟨(Nat.le_of_ble_eq_true rfl), (Nat.le_of_ble_eq_true rfl)⟩ (Nat.le_of_ble_eq_true rfl) ?_
  refine jx_aload_n C dX4_init_4 rfl ?_
  refine jx_bipush (v := 6) C dX4_init_5 (by decide) ?_
  refine jx_newa (t0 := 0) (n0 := 6) (a0 := (6, ri (fun _ => 0))) C dX4_init_7 rfl qw_75 rfl (fun _ => rfl) rfl (by decide) (by decide) (Nat.le_of_ble_eq_true rfl) (Nat.le_of_ble_eq_true rfl) ?_
  intro A1 h1
  rw [← h1 (63) (by omega)]
  refine jx_putF C hm fpf_4_9_3 dX4_init_9 (fs := [.null, .int 0]) (g1 := (va_up (va_up g (64) (.inl (K 0, 6, ri (fun _ => 0)))) (63) (.inr (3, [.ref (A1 (64)), .int 0])))) (by omega) (by simp [va_up, hg0]) rfl rfl (Nat.le_of_ble_eq_true rfl) rfl ?_
  refine jx_aload_n C dX4_init_12 rfl ?_
  refine jx_iconst (v := 0) C dX4_init_13 (by decide) ?_
  refine jx_putG C fp_4_15_3 dX4_init_14 (fs := [.ref (A1 (64)), .int 0]) (g1 := (va_up (va_up (va_up g (64) (.inl (K 0, 6, ri (fun _ => 0)))) (63) (.inr (3, [.ref (A1 (64)), .int 0]))) (63) (.inr (3, [.ref (A1 (64)), .int 0])))) (by omega) (by simp [va_up, hg0]) rfl rfl (Nat.le_of_ble_eq_true rfl) rfl ?_
  refine jx_vretG C dX4_init_17 (by omega) (fun i hi => by rw [h1 i (by omega)]) ⟨rfl, fun i hi => ?_, fun i h1 h2 => ?_⟩
  · simp only [va_up]; rw [if_neg (by omega), if_neg (by omega), if_neg (by omega)]
  · rcases (show i = 63 ∨ i = 64 by omega) with rfl | rfl <;> rfl
set_option maxRecDepth 100000 in
set_option maxHeartbeats 4000000 in
theorem i_0 {l : Launch} {D : va_G} {K : Nat → ClassId} {A : Nat → Nat} {g : Nat → va_E} {n0 : Nat} (hg0 : g n0 = .inr (0, [.int 0, .int 0, .int 0, .int 0, .int 0])) : MI l yX0_init cX0_init 1 none 1 0 0 D K (n0 + 1) A g [.ref (A n0)] (n0 + 1) (fun v A' g' => v = none ∧ (∀ i, i < n0 → g' i = g i) ∧ g' n0 = .inr (0, [.int 0, .int 0, .int 0, .int 0, .int 0])) := by
  refine MI.go (own := RX0) (lv0 := [some (.ref (A n0))]) rfl (by decide) rfl (Nat.le_of_ble_eq_true rfl) rfl ?_
  intro p e s m args below meth c C hm
  refine jx_aload_n C dX0_init_0 rfl ?_
  refine jx_oinit C dX0_init_1 qw_133 qw_19 qw_20 ⟨(Nat.le_of_ble_eq_true rfl), (Nat.le_of_ble_eq_true rfl)⟩ (Nat.le_of_ble_eq_true rfl) ?_
  refine jx_aload_n C dX0_init_4 rfl ?_
  refine jx_iconst (v := 0) C dX0_init_5 (by decide) ?_
  refine jx_putG C fp_0_9_0 dX0_init_6 (fs := [.int 0, .int 0, .int 0, .int 0, .int 0]) (g1 := (va_up g (n0) (.inr (0, [.int 0, .int 0, .int 0, .int 0, .int 0])))) (by omega) (by simp [va_up, hg0]) rfl rfl (Nat.le_of_ble_eq_true rfl) rfl ?_
  refine jx_aload_n C dX0_init_9 rfl ?_
  refine jx_iconst (v := 0) C dX0_init_10 (by decide) ?_
  refine jx_putG C fp_0_15_0 dX0_init_11 (fs := [.int 0, .int 0, .int 0, .int 0, .int 0]) (g1 := (va_up (va_up g (n0) (.inr (0, [.int 0, .int 0, .int 0, .int 0, .int 0]))) (n0) (.inr (0, [.int 0, .int 0, .int 0, .int 0, .int 0])))) (by omega) (by simp [va_up, hg0]) rfl rfl (Nat.le_of_ble_eq_true rfl) rfl ?_
  refine jx_aload_n C dX0_init_14 rfl ?_
  refine jx_iconst (v := 0) C dX0_init_15 (by decide) ?_
  refine jx_putG C fp_0_18_0 dX0_init_16 (fs := [.int 0, .int 0, .int 0, .int 0, .int 0]) (g1 := (va_up (va_up (va_up g (n0) (.inr (0, [.int 0, .int 0, .int 0, .int 0, .int 0]))) (n0) (.inr (0, [.int 0, .int 0, .int 0, .int 0, .int 0]))) (n0) (.inr (0, [.int 0, .int 0, .int 0, .int 0, .int 0])))) (by omega) (by simp [va_up, hg0]) rfl rfl (Nat.le_of_ble_eq_true rfl) rfl ?_
  refine jx_aload_n C dX0_init_19 rfl ?_
  refine jx_iconst (v := 0) C dX0_init_20 (by decide) ?_
  refine jx_putG C fp_0_21_0 dX0_init_21 (fs := [.int 0, .int 0, .int 0, .int 0, .int 0]) (g1 := (va_up (va_up (va_up (va_up g (n0) (.inr (0, [.int 0, .int 0, .int 0, .int 0, .int 0]))) (n0) (.inr (0, [.int 0, .int 0, .int 0, .int 0, .int 0]))) (n0) (.inr (0, [.int 0, .int 0, .int 0, .int 0, .int 0]))) (n0) (.inr (0, [.int 0, .int 0, .int 0, .int 0, .int 0])))) (by omega) (by simp [va_up, hg0]) rfl rfl (Nat.le_of_ble_eq_true rfl) rfl ?_
  refine jx_aload_n C dX0_init_24 rfl ?_
  refine jx_iconst (v := 0) C dX0_init_25 (by decide) ?_
  refine jx_putG C fp_0_24_0 dX0_init_26 (fs := [.int 0, .int 0, .int 0, .int 0, .int 0]) (g1 := (va_up (va_up (va_up (va_up (va_up g (n0) (.inr (0, [.int 0, .int 0, .int 0, .int 0, .int 0]))) (n0) (.inr (0, [.int 0, .int 0, .int 0, .int 0, .int 0]))) (n0) (.inr (0, [.int 0, .int 0, .int 0, .int 0, .int 0]))) (n0) (.inr (0, [.int 0, .int 0, .int 0, .int 0, .int 0]))) (n0) (.inr (0, [.int 0, .int 0, .int 0, .int 0, .int 0])))) (by omega) (by simp [va_up, hg0]) rfl rfl (Nat.le_of_ble_eq_true rfl) rfl ?_
  exact jx_vretG C dX0_init_29 (Nat.le_refl _) (fun _ _ => rfl) ⟨rfl, fun i hi => by simp [va_up, Nat.ne_of_lt hi], by simp [va_up]⟩
