/-! the reference made -/
def mf (k : Nat) : Nat → Int32 := fun j => if j < k then -1 else 0
theorem mf_s {k : Nat} : upd (mf k) k (-1) = mf (k + 1) := by
  rw [upd_row]
  funext j
  unfold mf
  by_cases h : j = k
  · rw [if_pos h, if_pos (by omega)]
  · rw [if_neg h]
    by_cases h2 : j < k
    · rw [if_pos h2, if_pos (by omega)]
    · rw [if_neg h2, if_neg (by omega)]
set_option maxRecDepth 100000 in
set_option maxHeartbeats 4000000 in
theorem lp_11_init {p : Program} {l : Launch} {e : Env} {s : State} {m : MethodId} {args : Array Value} {below : List Frame} {meth : Method} {c : Code} {D : va_G} {K : Nat → ClassId} {A0 : Nat → Nat} {gI : Nat → va_E} {A : Nat → Nat} (C : CX p s m args meth c RX11 cX11_init 2 none D K (AX 66 A0 s.heap.size)) (hA : ∀ i, i < 66 → A i = A0 i) : ∀ (f k : Nat), k + f = 20 → ∀ (g : Nat → va_E), (∀ i, i < 65 → g i = gI i) → g 65 = .inr (10, [.ref (A 66), .ref (A 67), .ref (A 68), .ref (A 69), .ref (A 70), .int 0, .int 0, .int 0, .int 0, .ref (A 71), .ref (A 72), .ref (A 73), .int 0, .int 0, .int 0, .ref (A 74), .int 0, .int 0]) → g 66 = .inl (K 0, 20, ri (mf k)) → (∀ i, 67 ≤ i → i < 75 → g i = g0 K A i) →
    GJ p l e (rmi 1 9 1682) s m args below meth c 2 D (AX 66 A0 s.heap.size) (MQG below D 66 A0 75 args s 9 1682 (fun v A' g' => v = none ∧ (∀ i, i < 65 → g' i = gI i) ∧ ∀ i, 65 ≤ i → i < 75 → g' i = g0 K A' i)) 75 A g 9 1682 81 [some (.ref (A 65)), some (.int (nI k))] [] := by
  intro f
  induction f with
  | zero =>
    intro k hk g e0 e1 e2 e3
    obtain rfl : k = 20 := by omega
    refine jx_iload_n C dX11_init_81 rfl ?_
    refine jx_bipush (v := 20) C dX11_init_82 (by decide) ?_
    refine jx_ic_geT (tgt := 100) C dX11_init_84 (by decide) (by decide) ?_
    refine jx_vretG C dX11_init_100 (by omega) hA ⟨rfl, e0, fun i h1 h2 => ?_⟩
    by_cases q : 67 ≤ i
    · exact e3 i q h2
    · rcases (show i = 65 ∨ i = 66 by omega) with rfl | rfl
      · rw [e1]; rfl
      · rw [e2, show mf 20 = I0 66 from by funext j; unfold mf I0; simp only [true_and]]; rfl
  | succ f ih =>
    intro k hk g e0 e1 e2 e3
    refine jx_iload_n C dX11_init_81 rfl ?_
    refine jx_bipush (v := 20) C dX11_init_82 (by decide) ?_
    refine jx_ic_geF (tgt := 100) C dX11_init_84 (by
      rw [show (20 : Int32) = nI 20 from rfl]
      exact nI_ge (by omega) (by omega)) (by decide) ?_
    refine jx_aload_n C dX11_init_87 rfl ?_
    refine jx_get C fl_11_7_10 dX11_init_88 (by omega) e1 rfl ?_
    refine jx_iload_n C dX11_init_91 rfl ?_
    refine jx_iconst (v := -1) C dX11_init_92 (by decide) ?_
    refine jx_iast k C dX11_init_93 (i := 66) (by omega) e2 rfl (by omega) (by decide) rfl ?_
    rw [mf_s]
    refine jx_iinc (lv1 := [_, _]) C dX11_init_94 rfl (nI_1 k) rfl ?_
    refine jx_goto (tgt := 81) C dX11_init_97 (by decide) ?_
    exact ih (k + 1) (by omega) _ (fun i hi => by rw [upn (by omega)]; exact e0 i hi) (by rw [upn (by omega)]; exact e1) va_up_at (fun i a b => by rw [upn (by omega)]; exact e3 i a b)
set_option maxRecDepth 100000 in
set_option maxHeartbeats 4000000 in
theorem i_11 {l : Launch} {D : va_G} {K : Nat → ClassId} {A : Nat → Nat} {g : Nat → va_E} (hg0 : g 65 = .inr (10, [.null, .null, .null, .null, .null, .int 0, .int 0, .int 0, .int 0, .null, .null, .null, .int 0, .int 0, .int 0, .null, .int 0, .int 0])) : MI l yX11_init cX11_init 2 none 1 9 1682 D K (66) A g [.ref (A 65)] (75) (fun v A' g' => v = none ∧ (∀ i, i < 65 → g' i = g i) ∧ ∀ i, 65 ≤ i → i < 75 → g' i = g0 K A' i) := by
  refine MI.go (own := RX11) (lv0 := [some (.ref (A 65)), none]) rfl (by decide) rfl (Nat.le_of_ble_eq_true rfl) rfl ?_
  intro p e s m args below meth c C hm
  refine jx_aload_n C dX11_init_0 rfl ?_
  refine jx_oinit C dX11_init_1 qw_567 qw_19 qw_20 ⟨(Nat.le_of_ble_eq_true rfl), (Nat.le_of_ble_eq_true rfl)⟩ (Nat.le_of_ble_eq_true rfl) ?_
  refine jx_aload_n C dX11_init_4 rfl ?_
  refine jx_bipush (v := 20) C dX11_init_5 (by decide) ?_
  refine jx_newa (t0 := 0) (n0 := 20) (a0 := (20, ri (fun _ => 0))) C dX11_init_7 rfl qw_75 rfl (fun _ => rfl) rfl (by decide) (by decide) (Nat.le_of_ble_eq_true rfl) (Nat.le_of_ble_eq_true rfl) ?_
  intro A1 h1
  rw [← h1 (65) (by omega)]
  refine jx_putF C hm fpf_11_7_10 dX11_init_9 (fs := [.null, .null, .null, .null, .null, .int 0, .int 0, .int 0, .int 0, .null, .null, .null, .int 0, .int 0, .int 0, .null, .int 0, .int 0]) (g1 := (va_up (va_up g (66) (.inl (K 0, 20, ri (fun _ => 0)))) (65) (.inr (10, [.ref (A1 (66)), .null, .null, .null, .null, .int 0, .int 0, .int 0, .int 0, .null, .null, .null, .int 0, .int 0, .int 0, .null, .int 0, .int 0])))) (by omega) (by simp [va_up, hg0]) rfl rfl (Nat.le_of_ble_eq_true rfl) rfl ?_
  refine jx_aload_n C dX11_init_12 rfl ?_
  refine jx_bipush (v := 20) C dX11_init_13 (by decide) ?_
  refine jx_newa (t0 := 0) (n0 := 20) (a0 := (20, ri (fun _ => 0))) C dX11_init_15 rfl qw_75 rfl (fun _ => rfl) rfl (by decide) (by decide) (Nat.le_of_ble_eq_true rfl) (Nat.le_of_ble_eq_true rfl) ?_
  intro A2 h2
  rw [← h2 (65) (by omega)]
  rw [← h2 (66) (by omega)]
  refine jx_putF C hm fpf_11_13_10 dX11_init_17 (fs := [.ref (A2 (66)), .null, .null, .null, .null, .int 0, .int 0, .int 0, .int 0, .null, .null, .null, .int 0, .int 0, .int 0, .null, .int 0, .int 0]) (g1 := (va_up (va_up (va_up (va_up g (66) (.inl (K 0, 20, ri (fun _ => 0)))) (65) (.inr (10, [.ref (A2 (66)), .null, .null, .null, .null, .int 0, .int 0, .int 0, .int 0, .null, .null, .null, .int 0, .int 0, .int 0, .null, .int 0, .int 0]))) (67) (.inl (K 0, 20, ri (fun _ => 0)))) (65) (.inr (10, [.ref (A2 (66)), .ref (A2 (67)), .null, .null, .null, .int 0, .int 0, .int 0, .int 0, .null, .null, .null, .int 0, .int 0, .int 0, .null, .int 0, .int 0])))) (by omega) (by simp [va_up, hg0]) rfl rfl (Nat.le_of_ble_eq_true rfl) rfl ?_
  refine jx_aload_n C dX11_init_20 rfl ?_
  refine jx_sipush (v := 480) C dX11_init_21 (by decide) ?_
  refine jx_newa (t0 := 0) (n0 := 480) (a0 := (480, ri (fun _ => 0))) C dX11_init_24 rfl qw_75 rfl (fun _ => rfl) rfl (by decide) (by decide) (Nat.le_of_ble_eq_true rfl) (Nat.le_of_ble_eq_true rfl) ?_
  intro A3 h3
  rw [← h3 (65) (by omega)]
  rw [← h3 (66) (by omega)]
  rw [← h3 (67) (by omega)]
  refine jx_putF C hm fpf_11_16_10 dX11_init_26 (fs := [.ref (A3 (66)), .ref (A3 (67)), .null, .null, .null, .int 0, .int 0, .int 0, .int 0, .null, .null, .null, .int 0, .int 0, .int 0, .null, .int 0, .int 0]) (g1 := (va_up (va_up (va_up (va_up (va_up (va_up g (66) (.inl (K 0, 20, ri (fun _ => 0)))) (65) (.inr (10, [.ref (A3 (66)), .null, .null, .null, .null, .int 0, .int 0, .int 0, .int 0, .null, .null, .null, .int 0, .int 0, .int 0, .null, .int 0, .int 0]))) (67) (.inl (K 0, 20, ri (fun _ => 0)))) (65) (.inr (10, [.ref (A3 (66)), .ref (A3 (67)), .null, .null, .null, .int 0, .int 0, .int 0, .int 0, .null, .null, .null, .int 0, .int 0, .int 0, .null, .int 0, .int 0]))) (68) (.inl (K 0, 480, ri (fun _ => 0)))) (65) (.inr (10, [.ref (A3 (66)), .ref (A3 (67)), .ref (A3 (68)), .null, .null, .int 0, .int 0, .int 0, .int 0, .null, .null, .null, .int 0, .int 0, .int 0, .null, .int 0, .int 0])))) (by omega) (by simp [va_up, hg0]) rfl rfl (Nat.le_of_ble_eq_true rfl) rfl ?_
  refine jx_aload_n C dX11_init_29 rfl ?_
  refine jx_sipush (v := 480) C dX11_init_30 (by decide) ?_
  refine jx_newa (t0 := 2) (n0 := 480) (a0 := (480, rf (fun _ => 0))) C dX11_init_33 rfl qw_48 rfl (fun _ => rfl) rfl (by decide) (by decide) (Nat.le_of_ble_eq_true rfl) (Nat.le_of_ble_eq_true rfl) ?_
  intro A4 h4
  rw [← h4 (65) (by omega)]
  rw [← h4 (66) (by omega)]
  rw [← h4 (67) (by omega)]
  rw [← h4 (68) (by omega)]
  refine jx_putF C hm fpf_11_19_10 dX11_init_35 (fs := [.ref (A4 (66)), .ref (A4 (67)), .ref (A4 (68)), .null, .null, .int 0, .int 0, .int 0, .int 0, .null, .null, .null, .int 0, .int 0, .int 0, .null, .int 0, .int 0]) (g1 := (va_up (va_up (va_up (va_up (va_up (va_up (va_up (va_up g (66) (.inl (K 0, 20, ri (fun _ => 0)))) (65) (.inr (10, [.ref (A4 (66)), .null, .null, .null, .null, .int 0, .int 0, .int 0, .int 0, .null, .null, .null, .int 0, .int 0, .int 0, .null, .int 0, .int 0]))) (67) (.inl (K 0, 20, ri (fun _ => 0)))) (65) (.inr (10, [.ref (A4 (66)), .ref (A4 (67)), .null, .null, .null, .int 0, .int 0, .int 0, .int 0, .null, .null, .null, .int 0, .int 0, .int 0, .null, .int 0, .int 0]))) (68) (.inl (K 0, 480, ri (fun _ => 0)))) (65) (.inr (10, [.ref (A4 (66)), .ref (A4 (67)), .ref (A4 (68)), .null, .null, .int 0, .int 0, .int 0, .int 0, .null, .null, .null, .int 0, .int 0, .int 0, .null, .int 0, .int 0]))) (69) (.inl (K 2, 480, rf (fun _ => 0)))) (65) (.inr (10, [.ref (A4 (66)), .ref (A4 (67)), .ref (A4 (68)), .ref (A4 (69)), .null, .int 0, .int 0, .int 0, .int 0, .null, .null, .null, .int 0, .int 0, .int 0, .null, .int 0, .int 0])))) (by omega) (by simp [va_up, hg0]) rfl rfl (Nat.le_of_ble_eq_true rfl) rfl ?_
  refine jx_aload_n C dX11_init_38 rfl ?_
  refine jx_bipush (v := 16) C dX11_init_39 (by decide) ?_
  refine jx_newa (t0 := 0) (n0 := 16) (a0 := (16, ri (fun _ => 0))) C dX11_init_41 rfl qw_75 rfl (fun _ => rfl) rfl (by decide) (by decide) (Nat.le_of_ble_eq_true rfl) (Nat.le_of_ble_eq_true rfl) ?_
  intro A5 h5
  rw [← h5 (65) (by omega)]
  rw [← h5 (66) (by omega)]
  rw [← h5 (67) (by omega)]
  rw [← h5 (68) (by omega)]
  rw [← h5 (69) (by omega)]
  refine jx_putF C hm fpf_11_23_10 dX11_init_43 (fs := [.ref (A5 (66)), .ref (A5 (67)), .ref (A5 (68)), .ref (A5 (69)), .null, .int 0, .int 0, .int 0, .int 0, .null, .null, .null, .int 0, .int 0, .int 0, .null, .int 0, .int 0]) (g1 := (va_up (va_up (va_up (va_up (va_up (va_up (va_up (va_up (va_up (va_up g (66) (.inl (K 0, 20, ri (fun _ => 0)))) (65) (.inr (10, [.ref (A5 (66)), .null, .null, .null, .null, .int 0, .int 0, .int 0, .int 0, .null, .null, .null, .int 0, .int 0, .int 0, .null, .int 0, .int 0]))) (67) (.inl (K 0, 20, ri (fun _ => 0)))) (65) (.inr (10, [.ref (A5 (66)), .ref (A5 (67)), .null, .null, .null, .int 0, .int 0, .int 0, .int 0, .null, .null, .null, .int 0, .int 0, .int 0, .null, .int 0, .int 0]))) (68) (.inl (K 0, 480, ri (fun _ => 0)))) (65) (.inr (10, [.ref (A5 (66)), .ref (A5 (67)), .ref (A5 (68)), .null, .null, .int 0, .int 0, .int 0, .int 0, .null, .null, .null, .int 0, .int 0, .int 0, .null, .int 0, .int 0]))) (69) (.inl (K 2, 480, rf (fun _ => 0)))) (65) (.inr (10, [.ref (A5 (66)), .ref (A5 (67)), .ref (A5 (68)), .ref (A5 (69)), .null, .int 0, .int 0, .int 0, .int 0, .null, .null, .null, .int 0, .int 0, .int 0, .null, .int 0, .int 0]))) (70) (.inl (K 0, 16, ri (fun _ => 0)))) (65) (.inr (10, [.ref (A5 (66)), .ref (A5 (67)), .ref (A5 (68)), .ref (A5 (69)), .ref (A5 (70)), .int 0, .int 0, .int 0, .int 0, .null, .null, .null, .int 0, .int 0, .int 0, .null, .int 0, .int 0])))) (by omega) (by simp [va_up, hg0]) rfl rfl (Nat.le_of_ble_eq_true rfl) rfl ?_
  refine jx_aload_n C dX11_init_46 rfl ?_
  refine jx_bipush (v := 24) C dX11_init_47 (by decide) ?_
  refine jx_newa (t0 := 0) (n0 := 24) (a0 := (24, ri (fun _ => 0))) C dX11_init_49 rfl qw_75 rfl (fun _ => rfl) rfl (by decide) (by decide) (Nat.le_of_ble_eq_true rfl) (Nat.le_of_ble_eq_true rfl) ?_
  intro A6 h6
  rw [← h6 (65) (by omega)]
  rw [← h6 (66) (by omega)]
  rw [← h6 (67) (by omega)]
  rw [← h6 (68) (by omega)]
  rw [← h6 (69) (by omega)]
  rw [← h6 (70) (by omega)]
  refine jx_putF C hm fpf_11_26_10 dX11_init_51 (fs := [.ref (A6 (66)), .ref (A6 (67)), .ref (A6 (68)), .ref (A6 (69)), .ref (A6 (70)), .int 0, .int 0, .int 0, .int 0, .null, .null, .null, .int 0, .int 0, .int 0, .null, .int 0, .int 0]) (g1 := (va_up (va_up (va_up (va_up (va_up (va_up (va_up (va_up (va_up (va_up (va_up (va_up g (66) (.inl (K 0, 20, ri (fun _ => 0)))) (65) (.inr (10, [.ref (A6 (66)), .null, .null, .null, .null, .int 0, .int 0, .int 0, .int 0, .null, .null, .null, .int 0, .int 0, .int 0, .null, .int 0, .int 0]))) (67) (.inl (K 0, 20, ri (fun _ => 0)))) (65) (.inr (10, [.ref (A6 (66)), .ref (A6 (67)), .null, .null, .null, .int 0, .int 0, .int 0, .int 0, .null, .null, .null, .int 0, .int 0, .int 0, .null, .int 0, .int 0]))) (68) (.inl (K 0, 480, ri (fun _ => 0)))) (65) (.inr (10, [.ref (A6 (66)), .ref (A6 (67)), .ref (A6 (68)), .null, .null, .int 0, .int 0, .int 0, .int 0, .null, .null, .null, .int 0, .int 0, .int 0, .null, .int 0, .int 0]))) (69) (.inl (K 2, 480, rf (fun _ => 0)))) (65) (.inr (10, [.ref (A6 (66)), .ref (A6 (67)), .ref (A6 (68)), .ref (A6 (69)), .null, .int 0, .int 0, .int 0, .int 0, .null, .null, .null, .int 0, .int 0, .int 0, .null, .int 0, .int 0]))) (70) (.inl (K 0, 16, ri (fun _ => 0)))) (65) (.inr (10, [.ref (A6 (66)), .ref (A6 (67)), .ref (A6 (68)), .ref (A6 (69)), .ref (A6 (70)), .int 0, .int 0, .int 0, .int 0, .null, .null, .null, .int 0, .int 0, .int 0, .null, .int 0, .int 0]))) (71) (.inl (K 0, 24, ri (fun _ => 0)))) (65) (.inr (10, [.ref (A6 (66)), .ref (A6 (67)), .ref (A6 (68)), .ref (A6 (69)), .ref (A6 (70)), .int 0, .int 0, .int 0, .int 0, .ref (A6 (71)), .null, .null, .int 0, .int 0, .int 0, .null, .int 0, .int 0])))) (by omega) (by simp [va_up, hg0]) rfl rfl (Nat.le_of_ble_eq_true rfl) rfl ?_
  refine jx_aload_n C dX11_init_54 rfl ?_
  refine jx_sipush (v := 576) C dX11_init_55 (by decide) ?_
  refine jx_newa (t0 := 0) (n0 := 576) (a0 := (576, ri (fun _ => 0))) C dX11_init_58 rfl qw_75 rfl (fun _ => rfl) rfl (by decide) (by decide) (Nat.le_of_ble_eq_true rfl) (Nat.le_of_ble_eq_true rfl) ?_
  intro A7 h7
  rw [← h7 (65) (by omega)]
  rw [← h7 (66) (by omega)]
  rw [← h7 (67) (by omega)]
  rw [← h7 (68) (by omega)]
  rw [← h7 (69) (by omega)]
  rw [← h7 (70) (by omega)]
  rw [← h7 (71) (by omega)]
  refine jx_putF C hm fpf_11_29_10 dX11_init_60 (fs := [.ref (A7 (66)), .ref (A7 (67)), .ref (A7 (68)), .ref (A7 (69)), .ref (A7 (70)), .int 0, .int 0, .int 0, .int 0, .ref (A7 (71)), .null, .null, .int 0, .int 0, .int 0, .null, .int 0, .int 0]) (g1 := (va_up (va_up (va_up (va_up (va_up (va_up (va_up (va_up (va_up (va_up (va_up (va_up (va_up (va_up g (66) (.inl (K 0, 20, ri (fun _ => 0)))) (65) (.inr (10, [.ref (A7 (66)), .null, .null, .null, .null, .int 0, .int 0, .int 0, .int 0, .null, .null, .null, .int 0, .int 0, .int 0, .null, .int 0, .int 0]))) (67) (.inl (K 0, 20, ri (fun _ => 0)))) (65) (.inr (10, [.ref (A7 (66)), .ref (A7 (67)), .null, .null, .null, .int 0, .int 0, .int 0, .int 0, .null, .null, .null, .int 0, .int 0, .int 0, .null, .int 0, .int 0]))) (68) (.inl (K 0, 480, ri (fun _ => 0)))) (65) (.inr (10, [.ref (A7 (66)), .ref (A7 (67)), .ref (A7 (68)), .null, .null, .int 0, .int 0, .int 0, .int 0, .null, .null, .null, .int 0, .int 0, .int 0, .null, .int 0, .int 0]))) (69) (.inl (K 2, 480, rf (fun _ => 0)))) (65) (.inr (10, [.ref (A7 (66)), .ref (A7 (67)), .ref (A7 (68)), .ref (A7 (69)), .null, .int 0, .int 0, .int 0, .int 0, .null, .null, .null, .int 0, .int 0, .int 0, .null, .int 0, .int 0]))) (70) (.inl (K 0, 16, ri (fun _ => 0)))) (65) (.inr (10, [.ref (A7 (66)), .ref (A7 (67)), .ref (A7 (68)), .ref (A7 (69)), .ref (A7 (70)), .int 0, .int 0, .int 0, .int 0, .null, .null, .null, .int 0, .int 0, .int 0, .null, .int 0, .int 0]))) (71) (.inl (K 0, 24, ri (fun _ => 0)))) (65) (.inr (10, [.ref (A7 (66)), .ref (A7 (67)), .ref (A7 (68)), .ref (A7 (69)), .ref (A7 (70)), .int 0, .int 0, .int 0, .int 0, .ref (A7 (71)), .null, .null, .int 0, .int 0, .int 0, .null, .int 0, .int 0]))) (72) (.inl (K 0, 576, ri (fun _ => 0)))) (65) (.inr (10, [.ref (A7 (66)), .ref (A7 (67)), .ref (A7 (68)), .ref (A7 (69)), .ref (A7 (70)), .int 0, .int 0, .int 0, .int 0, .ref (A7 (71)), .ref (A7 (72)), .null, .int 0, .int 0, .int 0, .null, .int 0, .int 0])))) (by omega) (by simp [va_up, hg0]) rfl rfl (Nat.le_of_ble_eq_true rfl) rfl ?_
  refine jx_aload_n C dX11_init_63 rfl ?_
  refine jx_bipush (v := 60) C dX11_init_64 (by decide) ?_
  refine jx_newa (t0 := 0) (n0 := 60) (a0 := (60, ri (fun _ => 0))) C dX11_init_66 rfl qw_75 rfl (fun _ => rfl) rfl (by decide) (by decide) (Nat.le_of_ble_eq_true rfl) (Nat.le_of_ble_eq_true rfl) ?_
  intro A8 h8
  rw [← h8 (65) (by omega)]
  rw [← h8 (66) (by omega)]
  rw [← h8 (67) (by omega)]
  rw [← h8 (68) (by omega)]
  rw [← h8 (69) (by omega)]
  rw [← h8 (70) (by omega)]
  rw [← h8 (71) (by omega)]
  rw [← h8 (72) (by omega)]
  refine jx_putF C hm fpf_11_32_10 dX11_init_68 (fs := [.ref (A8 (66)), .ref (A8 (67)), .ref (A8 (68)), .ref (A8 (69)), .ref (A8 (70)), .int 0, .int 0, .int 0, .int 0, .ref (A8 (71)), .ref (A8 (72)), .null, .int 0, .int 0, .int 0, .null, .int 0, .int 0]) (g1 := (va_up (va_up (va_up (va_up (va_up (va_up (va_up (va_up (va_up (va_up (va_up (va_up (va_up (va_up (va_up (va_up g (66) (.inl (K 0, 20, ri (fun _ => 0)))) (65) (.inr (10, [.ref (A8 (66)), .null, .null, .null, .null, .int 0, .int 0, .int 0, .int 0, .null, .null, .null, .int 0, .int 0, .int 0, .null, .int 0, .int 0]))) (67) (.inl (K 0, 20, ri (fun _ => 0)))) (65) (.inr (10, [.ref (A8 (66)), .ref (A8 (67)), .null, .null, .null, .int 0, .int 0, .int 0, .int 0, .null, .null, .null, .int 0, .int 0, .int 0, .null, .int 0, .int 0]))) (68) (.inl (K 0, 480, ri (fun _ => 0)))) (65) (.inr (10, [.ref (A8 (66)), .ref (A8 (67)), .ref (A8 (68)), .null, .null, .int 0, .int 0, .int 0, .int 0, .null, .null, .null, .int 0, .int 0, .int 0, .null, .int 0, .int 0]))) (69) (.inl (K 2, 480, rf (fun _ => 0)))) (65) (.inr (10, [.ref (A8 (66)), .ref (A8 (67)), .ref (A8 (68)), .ref (A8 (69)), .null, .int 0, .int 0, .int 0, .int 0, .null, .null, .null, .int 0, .int 0, .int 0, .null, .int 0, .int 0]))) (70) (.inl (K 0, 16, ri (fun _ => 0)))) (65) (.inr (10, [.ref (A8 (66)), .ref (A8 (67)), .ref (A8 (68)), .ref (A8 (69)), .ref (A8 (70)), .int 0, .int 0, .int 0, .int 0, .null, .null, .null, .int 0, .int 0, .int 0, .null, .int 0, .int 0]))) (71) (.inl (K 0, 24, ri (fun _ => 0)))) (65) (.inr (10, [.ref (A8 (66)), .ref (A8 (67)), .ref (A8 (68)), .ref (A8 (69)), .ref (A8 (70)), .int 0, .int 0, .int 0, .int 0, .ref (A8 (71)), .null, .null, .int 0, .int 0, .int 0, .null, .int 0, .int 0]))) (72) (.inl (K 0, 576, ri (fun _ => 0)))) (65) (.inr (10, [.ref (A8 (66)), .ref (A8 (67)), .ref (A8 (68)), .ref (A8 (69)), .ref (A8 (70)), .int 0, .int 0, .int 0, .int 0, .ref (A8 (71)), .ref (A8 (72)), .null, .int 0, .int 0, .int 0, .null, .int 0, .int 0]))) (73) (.inl (K 0, 60, ri (fun _ => 0)))) (65) (.inr (10, [.ref (A8 (66)), .ref (A8 (67)), .ref (A8 (68)), .ref (A8 (69)), .ref (A8 (70)), .int 0, .int 0, .int 0, .int 0, .ref (A8 (71)), .ref (A8 (72)), .ref (A8 (73)), .int 0, .int 0, .int 0, .null, .int 0, .int 0])))) (by omega) (by simp [va_up, hg0]) rfl rfl (Nat.le_of_ble_eq_true rfl) rfl ?_
  refine jx_aload_n C dX11_init_71 rfl ?_
  refine jx_bipush (v := 6) C dX11_init_72 (by decide) ?_
  refine jx_newa (t0 := 0) (n0 := 6) (a0 := (6, ri (fun _ => 0))) C dX11_init_74 rfl qw_75 rfl (fun _ => rfl) rfl (by decide) (by decide) (Nat.le_of_ble_eq_true rfl) (Nat.le_of_ble_eq_true rfl) ?_
  intro A9 h9
  rw [← h9 (65) (by omega)]
  rw [← h9 (66) (by omega)]
  rw [← h9 (67) (by omega)]
  rw [← h9 (68) (by omega)]
  rw [← h9 (69) (by omega)]
  rw [← h9 (70) (by omega)]
  rw [← h9 (71) (by omega)]
  rw [← h9 (72) (by omega)]
  rw [← h9 (73) (by omega)]
  refine jx_putF C hm fpf_11_35_10 dX11_init_76 (fs := [.ref (A9 (66)), .ref (A9 (67)), .ref (A9 (68)), .ref (A9 (69)), .ref (A9 (70)), .int 0, .int 0, .int 0, .int 0, .ref (A9 (71)), .ref (A9 (72)), .ref (A9 (73)), .int 0, .int 0, .int 0, .null, .int 0, .int 0]) (g1 := (va_up (va_up (va_up (va_up (va_up (va_up (va_up (va_up (va_up (va_up (va_up (va_up (va_up (va_up (va_up (va_up (va_up (va_up g (66) (.inl (K 0, 20, ri (fun _ => 0)))) (65) (.inr (10, [.ref (A9 (66)), .null, .null, .null, .null, .int 0, .int 0, .int 0, .int 0, .null, .null, .null, .int 0, .int 0, .int 0, .null, .int 0, .int 0]))) (67) (.inl (K 0, 20, ri (fun _ => 0)))) (65) (.inr (10, [.ref (A9 (66)), .ref (A9 (67)), .null, .null, .null, .int 0, .int 0, .int 0, .int 0, .null, .null, .null, .int 0, .int 0, .int 0, .null, .int 0, .int 0]))) (68) (.inl (K 0, 480, ri (fun _ => 0)))) (65) (.inr (10, [.ref (A9 (66)), .ref (A9 (67)), .ref (A9 (68)), .null, .null, .int 0, .int 0, .int 0, .int 0, .null, .null, .null, .int 0, .int 0, .int 0, .null, .int 0, .int 0]))) (69) (.inl (K 2, 480, rf (fun _ => 0)))) (65) (.inr (10, [.ref (A9 (66)), .ref (A9 (67)), .ref (A9 (68)), .ref (A9 (69)), .null, .int 0, .int 0, .int 0, .int 0, .null, .null, .null, .int 0, .int 0, .int 0, .null, .int 0, .int 0]))) (70) (.inl (K 0, 16, ri (fun _ => 0)))) (65) (.inr (10, [.ref (A9 (66)), .ref (A9 (67)), .ref (A9 (68)), .ref (A9 (69)), .ref (A9 (70)), .int 0, .int 0, .int 0, .int 0, .null, .null, .null, .int 0, .int 0, .int 0, .null, .int 0, .int 0]))) (71) (.inl (K 0, 24, ri (fun _ => 0)))) (65) (.inr (10, [.ref (A9 (66)), .ref (A9 (67)), .ref (A9 (68)), .ref (A9 (69)), .ref (A9 (70)), .int 0, .int 0, .int 0, .int 0, .ref (A9 (71)), .null, .null, .int 0, .int 0, .int 0, .null, .int 0, .int 0]))) (72) (.inl (K 0, 576, ri (fun _ => 0)))) (65) (.inr (10, [.ref (A9 (66)), .ref (A9 (67)), .ref (A9 (68)), .ref (A9 (69)), .ref (A9 (70)), .int 0, .int 0, .int 0, .int 0, .ref (A9 (71)), .ref (A9 (72)), .null, .int 0, .int 0, .int 0, .null, .int 0, .int 0]))) (73) (.inl (K 0, 60, ri (fun _ => 0)))) (65) (.inr (10, [.ref (A9 (66)), .ref (A9 (67)), .ref (A9 (68)), .ref (A9 (69)), .ref (A9 (70)), .int 0, .int 0, .int 0, .int 0, .ref (A9 (71)), .ref (A9 (72)), .ref (A9 (73)), .int 0, .int 0, .int 0, .null, .int 0, .int 0]))) (74) (.inl (K 0, 6, ri (fun _ => 0)))) (65) (.inr (10, [.ref (A9 (66)), .ref (A9 (67)), .ref (A9 (68)), .ref (A9 (69)), .ref (A9 (70)), .int 0, .int 0, .int 0, .int 0, .ref (A9 (71)), .ref (A9 (72)), .ref (A9 (73)), .int 0, .int 0, .int 0, .ref (A9 (74)), .int 0, .int 0])))) (by omega) (by simp [va_up, hg0]) rfl rfl (Nat.le_of_ble_eq_true rfl) rfl ?_
  refine jx_iconst (v := 0) C dX11_init_79 (by decide) ?_
  refine jx_istore_n (lv1 := [_, _]) C dX11_init_80 (by decide) rfl ?_
  refine lp_11_init C (fun i hi => by rw [h9 i (by omega), h8 i (by omega), h7 i (by omega), h6 i (by omega), h5 i (by omega), h4 i (by omega), h3 i (by omega), h2 i (by omega), h1 i (by omega)]) 20 0 rfl _ (fun i hi => ?_) rfl rfl (fun i a b => ?_)
  · simp only [va_up]
    rw [if_neg (by omega), if_neg (by omega), if_neg (by omega), if_neg (by omega), if_neg (by omega), if_neg (by omega), if_neg (by omega), if_neg (by omega), if_neg (by omega), if_neg (by omega), if_neg (by omega), if_neg (by omega), if_neg (by omega), if_neg (by omega), if_neg (by omega), if_neg (by omega), if_neg (by omega), if_neg (by omega)]
  · rcases (show i = 67 ∨ i = 68 ∨ i = 69 ∨ i = 70 ∨ i = 71 ∨ i = 72 ∨ i = 73 ∨ i = 74 by omega) with rfl | rfl | rfl | rfl | rfl | rfl | rfl | rfl <;> rfl
