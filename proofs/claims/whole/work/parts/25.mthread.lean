/-! the reference: thread() -/
/-- does one of the first n lanes have the row x -/
def used (I : TI) (x : Int32) : Nat → Bool
  | 0 => false
  | n + 1 => used I x n || decide (I 66 n = x)
theorem used_iff {I : TI} {x : Int32} {n : Nat} : used I x n = true ↔ ∃ l, l < n ∧ I 66 l = x := by
  induction n with
  | zero => simp [used]
  | succ n ih =>
    simp only [used, Bool.or_eq_true, ih, decide_eq_true_eq]
    constructor
    · rintro (⟨l, h1, h2⟩ | h)
      · exact ⟨l, by omega, h2⟩
      · exact ⟨n, by omega, h⟩
    · rintro ⟨l, h1, h2⟩
      by_cases h : l = n
      · subst h; exact Or.inr h2
      · exact Or.inl ⟨l, by omega, h2⟩
/-- more things than places: two share one -/
theorem pigeon : ∀ (n : Nat) (f : Nat → Nat), (∀ i, i ≤ n → f i < n) → ∃ i j, i < j ∧ j ≤ n ∧ f i = f j
  | 0, f, h => absurd (h 0 (Nat.le_refl 0)) (Nat.not_lt_zero _)
  | n + 1, f, h => by
    by_cases hc : ∃ i, i ≤ n ∧ f i = f (n + 1)
    · obtain ⟨i, hi, e⟩ := hc
      exact ⟨i, n + 1, by omega, Nat.le_refl _, e⟩
    · have hv := h (n + 1) (Nat.le_refl _)
      obtain ⟨i, j, hij, hj, e⟩ := pigeon n (fun i => if f i = n then f (n + 1) else f i) (fun i hi => by
        have h1 := h i (by omega)
        have h2 : f i ≠ f (n + 1) := fun q => hc ⟨i, hi, q⟩
        show (if f i = n then f (n + 1) else f i) < n
        split <;> omega)
      have hi2 : f i ≠ f (n + 1) := fun q => hc ⟨i, by omega, q⟩
      have hj2 : f j ≠ f (n + 1) := fun q => hc ⟨j, hj, q⟩
      refine ⟨i, j, hij, by omega, ?_⟩
      have e : (if f i = n then f (n + 1) else f i) = (if f j = n then f (n + 1) else f j) := e
      split at e <;> split at e <;> omega
/-- while a lane has no row, a row is free -/
theorem freeRow {I : TI} {pl : Nat} (hpl : pl < 20) (h : I 66 pl = -1) : ¬ ∀ r, r < 20 → used I (nI r) 20 = true := by
  intro hall
  have hex : ∀ r, ∃ l, r < 20 → (l < 20 ∧ I 66 l = nI r) := fun r => by
    by_cases hr : r < 20
    · obtain ⟨l, h1, h2⟩ := used_iff.mp (hall r hr)
      exact ⟨l, fun _ => ⟨h1, h2⟩⟩
    · exact ⟨0, fun q => absurd q hr⟩
  have hg : ∀ r, r < 20 → (Classical.choose (hex r) < 20 ∧ I 66 (Classical.choose (hex r)) = nI r) := fun r => Classical.choose_spec (hex r)
  generalize (fun r => Classical.choose (hex r)) = g at hg
  have hne : ∀ r, r < 20 → ¬ Classical.choose (hex r) = pl := fun r hr q => by
    have h2 := (Classical.choose_spec (hex r) hr).2
    rw [q, h] at h2
    exact nI_m1 (by omega) h2.symm
  obtain ⟨i, j, hij, hj, e⟩ := pigeon 19 (fun r => if Classical.choose (hex r) < pl then Classical.choose (hex r) else Classical.choose (hex r) - 1) (fun r hr => by
    have h1 := hne r (by omega)
    have h2 := (Classical.choose_spec (hex r) (by omega)).1
    show (if Classical.choose (hex r) < pl then Classical.choose (hex r) else Classical.choose (hex r) - 1) < 19
    split <;> omega)
  have e : (if Classical.choose (hex i) < pl then Classical.choose (hex i) else Classical.choose (hex i) - 1) = (if Classical.choose (hex j) < pl then Classical.choose (hex j) else Classical.choose (hex j) - 1) := e
  have hi1 := hne i (by omega)
  have hj1 := hne j (by omega)
  have hi2 := (Classical.choose_spec (hex i) (by omega)).2
  have hj2 := (Classical.choose_spec (hex j) (by omega)).2
  have hl : Classical.choose (hex i) = Classical.choose (hex j) := by
    split at e <;> split at e <;> omega
  rw [hl, hj2] at hi2
  have := (nI_eq (by omega) (by omega)).mp hi2
  omega
set_option maxRecDepth 100000 in
set_option maxHeartbeats 4000000 in
theorem lp_11_isUsed {p : Program} {l : Launch} {e : Env} {R : Room} {s : State} {m : MethodId} {args : Array Value} {below : List Frame} {meth : Method} {c : Code} {D : va_G} {K : Nat → ClassId} {A : Nat → Nat} {Ax : Nat → Prop} {Q : State → Prop} {U : TU} {P : TP} {I : TI} {x : Int32} (C : CX p s m args meth c RX11 cX11_isUsed 4 (some .boolean) D K Ax) (hz : GJ p l e R s m args below meth c 4 D Ax Q 75 A (gg A K (I) (U) (P)) 0 0 36 [some (.ref (A 65)), some (.int x), some (.int (bI (used I x (20) = true))), some (.int (nI (20)))] []) : ∀ f k : Nat, k + f = 20 → GJ p l e R s m args below meth c 4 D Ax Q 75 A (gg A K (I) (U) (P)) 0 0 4 [some (.ref (A 65)), some (.int x), some (.int (bI (used I x (k) = true))), some (.int (nI (k)))] [] := by
  intro f
  induction f with
  | zero =>
    intro k hk
    obtain rfl : k = 20 := by omega
    refine jx_iload_n C dX11_isUsed_4 rfl ?_
    refine jx_bipush (v := 20) C dX11_isUsed_5 (by decide) ?_
    refine jx_ic_geT (tgt := 36) C dX11_isUsed_7 (by decide) (by decide) ?_
    exact hz
  | succ f ih =>
    intro k hk
    have h := ih (k + 1) (by omega)
    refine jx_iload_n C dX11_isUsed_4 rfl ?_
    refine jx_bipush (v := 20) C dX11_isUsed_5 (by decide) ?_
    refine jx_ic_geF (tgt := 36) C dX11_isUsed_7 (nI_ge (b := 20) (by omega) (by decide)) (by decide) ?_
    by_cases hu : used I x k = true
    · rw [bI_t hu]
      rw [show bI (used I x (k + 1) = true) = 1 from bI_t (by simp [used, hu])] at h
      refine jx_iload_n C dX11_isUsed_10 rfl ?_
      refine jx_if_neT (tgt := 24) C dX11_isUsed_11 (by decide) (by decide) ?_
      refine jx_iconst (v := 1) C dX11_isUsed_24 (by decide) ?_
      refine jx_goto (tgt := 29) C dX11_isUsed_25 (by decide) ?_
      refine jx_istore_n (lv1 := [_, _, _, _]) C dX11_isUsed_29 (by decide) rfl ?_
      refine jx_iinc (lv1 := [_, _, _, _]) C dX11_isUsed_30 rfl (nI_1 k) rfl ?_
      refine jx_goto (tgt := 4) C dX11_isUsed_33 (by decide) ?_
      exact h
    · rw [bI_f hu]
      refine jx_iload_n C dX11_isUsed_10 rfl ?_
      refine jx_if_neF (tgt := 24) C dX11_isUsed_11 (by decide) (by decide) ?_
      refine jx_aload_n C dX11_isUsed_14 rfl ?_
      refine jx_get C fl_11_7_10 dX11_isUsed_15 (by decide) gg_65 rfl ?_
      refine jx_iload_n C dX11_isUsed_18 rfl ?_
      refine jx_iald (k) C dX11_isUsed_19 (by decide) gg_66 rfl (by omega) (by decide) ?_
      refine jx_iload_n C dX11_isUsed_20 rfl ?_
      refine jx_ic_ne (tgt := 28) C dX11_isUsed_21 (by decide) (fun c21 => ?_) (fun c21 => ?_)
      · rw [show bI (used I x (k + 1) = true) = 0 from bI_f (by simp [used, hu, c21])] at h
        refine jx_iconst (v := 0) C dX11_isUsed_28 (by decide) ?_
        refine jx_istore_n (lv1 := [_, _, _, _]) C dX11_isUsed_29 (by decide) rfl ?_
        refine jx_iinc (lv1 := [_, _, _, _]) C dX11_isUsed_30 rfl (nI_1 k) rfl ?_
        refine jx_goto (tgt := 4) C dX11_isUsed_33 (by decide) ?_
        exact h
      · rw [show bI (used I x (k + 1) = true) = 1 from bI_t (by simp [used, c21])] at h
        refine jx_iconst (v := 1) C dX11_isUsed_24 (by decide) ?_
        refine jx_goto (tgt := 29) C dX11_isUsed_25 (by decide) ?_
        refine jx_istore_n (lv1 := [_, _, _, _]) C dX11_isUsed_29 (by decide) rfl ?_
        refine jx_iinc (lv1 := [_, _, _, _]) C dX11_isUsed_30 rfl (nI_1 k) rfl ?_
        refine jx_goto (tgt := 4) C dX11_isUsed_33 (by decide) ?_
        exact h
set_option maxRecDepth 100000 in
set_option maxHeartbeats 4000000 in
theorem c_11_isUsed {l : Launch} {D : va_G} {K : Nat → ClassId} {A : Nat → Nat} {I : TI} {U : TU} {P : TP} {x : Int32} : MM l yX11_isUsed cX11_isUsed 4 (some .boolean) 0 D K A (I) (U) (P) [.ref (A 65), .int x] (XE (some (.int (bI (used I x 20 = true)))) (I) (U) (P)) := by
  refine MM.go (own := RX11) (lv0 := [some (.ref (A 65)), some (.int x), none, none]) rfl (by decide) rfl (Nat.le_of_ble_eq_true rfl) rfl ?_
  intro p e s m args below meth c C
  refine jx_iconst (v := 0) C dX11_isUsed_0 (by decide) ?_
  refine jx_istore_n (lv1 := [_, _, _, _]) C dX11_isUsed_1 (by decide) rfl ?_
  refine jx_iconst (v := 0) C dX11_isUsed_2 (by decide) ?_
  refine jx_istore_n (lv1 := [_, _, _, _]) C dX11_isUsed_3 (by decide) rfl ?_
  refine lp_11_isUsed C ?_ 20 0 (by omega)
  refine jx_iload_n C dX11_isUsed_36 rfl ?_
  exact jx_zret C dX11_isUsed_37 (z_ret (bI_01 _)) ⟨rfl, rfl, rfl, rfl⟩
/-- lane pl gets the row r with n ends, k of its places are clear -/
def mth (I : TI) (pl r n k : Nat) : TI := fun x y => if x = 66 ∧ y = pl then nI r else if x = 67 ∧ y = r then nI n else if x = 68 ∧ 24 * r ≤ y ∧ y < 24 * r + k then 0 else I x y
def mthU (U : TU) (r k : Nat) : TU := fun x y => if x = 69 ∧ 24 * r ≤ y ∧ y < 24 * r + k then FP.fconst0 else U x y
theorem mth_0 {I : TI} {pl r n : Nat} : up2 (up2 (up2 I 66 pl (-1)) 66 pl (nI r)) 67 r (nI n) = mth I pl r n 0 := by
  funext x y
  simp only [up2, mth]
  by_cases h66 : x = 66
  · subst h66
    by_cases hy : y = pl <;> simp [hy] <;> omega
  · by_cases h67 : x = 67
    · subst h67; simp
    · simp [h66, h67] <;> omega
theorem mth_s {I : TI} {pl r n k : Nat} : up2 (mth I pl r n k) 68 (24 * r + k) 0 = mth I pl r n (k + 1) := by
  funext x y
  simp only [up2, mth]
  by_cases hx : x = 68
  · subst hx
    by_cases hy : y = 24 * r + k
    · subst hy; simp
    · have h1 : (24 * r ≤ y ∧ y < 24 * r + (k + 1)) ↔ (24 * r ≤ y ∧ y < 24 * r + k) := by omega
      simp [hy, h1]
  · simp [hx]
theorem mthU_s {U : TU} {r k : Nat} : up2 (mthU U r k) 69 (24 * r + k) FP.fconst0 = mthU U r (k + 1) := by
  funext x y
  simp only [up2, mthU]
  by_cases hx : x = 69
  · subst hx
    by_cases hy : y = 24 * r + k
    · subst hy; simp
    · have h1 : (24 * r ≤ y ∧ y < 24 * r + (k + 1)) ↔ (24 * r ≤ y ∧ y < 24 * r + k) := by omega
      simp [hy, h1]
  · simp [hx]
theorem mthU_0 {U : TU} {r : Nat} : mthU U r 0 = U := by
  funext x y
  simp only [mthU]
  rw [if_neg (by omega)]
set_option maxRecDepth 100000 in
set_option maxHeartbeats 4000000 in
theorem lp_11_thread2 {p : Program} {l : Launch} {e : Env} {R : Room} {s : State} {m : MethodId} {args : Array Value} {below : List Frame} {meth : Method} {c : Code} {D : va_G} {K : Nat → ClassId} {A : Nat → Nat} {Ax : Nat → Prop} {Q : State → Prop} {P : TP} {I : TI} {U : TU} {a b n pl r : Nat} (C : CX p s m args meth c RX11 cX11_thread 7 (some .int) D K Ax) (hr : r < 20) (hz : GJ p l e R s m args below meth c 7 D Ax Q 75 A (gg A K (mth I pl r n 24) (mthU U r 24) (P)) 0 0 121 [some (.ref (A 65)), some (.int (nI a)), some (.int (nI b)), some (.int (nI n)), some (.int (nI pl)), some (.int (nI r)), some (.int (nI 24))] []) : ∀ f k : Nat, k + f = 24 → GJ p l e R s m args below meth c 7 D Ax Q 75 A (gg A K (mth I pl r n k) (mthU U r k) (P)) 0 0 80 [some (.ref (A 65)), some (.int (nI a)), some (.int (nI b)), some (.int (nI n)), some (.int (nI pl)), some (.int (nI r)), some (.int (nI k))] [] := by
  intro f
  induction f with
  | zero =>
    intro k hk
    obtain rfl : k = 24 := by omega
    refine jx_iload C dX11_thread_80 rfl ?_
    refine jx_bipush (v := 24) C dX11_thread_82 (by decide) ?_
    refine jx_ic_geT (tgt := 121) C dX11_thread_84 (by decide) (by decide) ?_
    exact hz
  | succ f ih =>
    intro k hk
    refine jx_iload C dX11_thread_80 rfl ?_
    refine jx_bipush (v := 24) C dX11_thread_82 (by decide) ?_
    refine jx_ic_geF (tgt := 121) C dX11_thread_84 (nI_ge (b := 24) (by omega) (by decide)) (by decide) ?_
    refine jx_aload_n C dX11_thread_87 rfl ?_
    refine jx_get C fl_11_16_10 dX11_thread_88 (by decide) gg_65 rfl ?_
    refine jx_bipush (v := 24) C dX11_thread_91 (by decide) ?_
    refine jx_iload C dX11_thread_93 rfl ?_
    refine jx_imul C dX11_thread_95 ?_
    refine jx_iload C dX11_thread_96 rfl ?_
    refine jx_iadd C dX11_thread_98 ?_
    refine jx_iconst (v := 0) C dX11_thread_99 (by decide) ?_
    refine jx_iastI (24 * r + k) C dX11_thread_100 (by decide) (fun _ => gg_68) (ix24' r k) (by omega) (by decide) ?_
    refine jx_aload_n C dX11_thread_101 rfl ?_
    refine jx_get C fl_11_19_10 dX11_thread_102 (by decide) gg_65 rfl ?_
    refine jx_bipush (v := 24) C dX11_thread_105 (by decide) ?_
    refine jx_iload C dX11_thread_107 rfl ?_
    refine jx_imul C dX11_thread_109 ?_
    refine jx_iload C dX11_thread_110 rfl ?_
    refine jx_iadd C dX11_thread_112 ?_
    refine jx_fconst0 C dX11_thread_113 ?_
    refine jx_fastU (24 * r + k) C dX11_thread_114 (by decide) (fun _ => gg_69) (ix24' r k) (by omega) (by decide) ?_
    rw [mth_s, mthU_s]
    refine jx_iinc (lv1 := [_, _, _, _, _, _, _]) C dX11_thread_115 rfl (nI_1 k) rfl ?_
    refine jx_goto (tgt := 80) C dX11_thread_118 (by decide) ?_
    exact ih (k + 1) (by omega)
set_option maxRecDepth 100000 in
set_option maxHeartbeats 4000000 in
theorem lp_11_thread1 {p : Program} {l : Launch} {e : Env} {R : Room} {s : State} {m : MethodId} {args : Array Value} {below : List Frame} {meth : Method} {c : Code} {D : va_G} {K : Nat → ClassId} {A : Nat → Nat} {Ax : Nat → Prop} {Q : State → Prop} {P : TP} {I : TI} {U : TU} {a b n pl : Nat} (C : CX p s m args meth c RX11 cX11_thread 7 (some .int) D K Ax) (hR : 2 ≤ R.frames ∧ 49 ≤ R.locals) (hpl : pl < 20) (hI : I 66 pl = -1) (z : Option Value) (hz : ∀ r : Nat, r < 20 → used I (nI r) 20 = false → GJ p l e R s m args below meth c 7 D Ax Q 75 A (gg A K (I) (U) (P)) 0 0 60 [some (.ref (A 65)), some (.int (nI a)), some (.int (nI b)), some (.int (nI n)), some (.int (nI pl)), some (.int (nI r)), z] []) : ∀ f r : Nat, r + f = 20 → (∀ q, q < r → used I (nI q) 20 = true) → GJ p l e R s m args below meth c 7 D Ax Q 75 A (gg A K (I) (U) (P)) 0 0 45 [some (.ref (A 65)), some (.int (nI a)), some (.int (nI b)), some (.int (nI n)), some (.int (nI pl)), some (.int (nI r)), z] [] := by
  obtain ⟨hR1, hR2⟩ := hR
  intro f
  induction f with
  | zero =>
    intro r hr hall
    obtain rfl : r = 20 := by omega
    exact absurd hall (freeRow hpl hI)
  | succ f ih =>
    intro r hr hall
    by_cases hu : used I (nI r) 20 = true
    · refine jx_aload_n C dX11_thread_45 rfl ?_
      refine jx_iload C dX11_thread_46 rfl ?_
      refine jx_one C (jr_V C (c_11_isUsed) vw_11_55 (by decide) gg_65 rfl rfl ⟨by omega, by omega⟩ ⟨Nat.zero_le _, Nat.zero_le _⟩ dX11_thread_48 rfl (Nat.le_of_ble_eq_true rfl)) ?_
      rw [bI_t hu]
      refine jx_if_eqF (tgt := 60) C dX11_thread_51 (by decide) (by decide) ?_
      refine jx_iinc (lv1 := [_, _, _, _, _, _, _]) C dX11_thread_54 rfl (nI_1 r) rfl ?_
      refine jx_goto (tgt := 45) C dX11_thread_57 (by decide) ?_
      exact ih (r + 1) (by omega) (fun q hq => (Nat.lt_or_ge q r).elim (fun h => hall q h) (fun h => (show q = r by omega) ▸ hu))
    · refine jx_aload_n C dX11_thread_45 rfl ?_
      refine jx_iload C dX11_thread_46 rfl ?_
      refine jx_one C (jr_V C (c_11_isUsed) vw_11_55 (by decide) gg_65 rfl rfl ⟨by omega, by omega⟩ ⟨Nat.zero_le _, Nat.zero_le _⟩ dX11_thread_48 rfl (Nat.le_of_ble_eq_true rfl)) ?_
      rw [bI_f hu]
      refine jx_if_eqT (tgt := 60) C dX11_thread_51 (by decide) (by decide) ?_
      exact hz r (by omega) (by simpa using hu)
set_option maxRecDepth 100000 in
set_option maxHeartbeats 4000000 in
theorem c_11_threadX1 {l : Launch} {D : va_G} {K : Nat → ClassId} {A : Nat → Nat} {I : TI} {U : TU} {P : TP} {f s0 : Int32} (hx : ¬ inL f s0) {n : Int32} : MM l yX11_thread cX11_thread 7 (some .int) 5 D K A (I) (U) (P) [.ref (A 65), .int f, .int s0, .int n] (XE (some (.int ((-2147483648)))) (I) (U) (P)) := by
  refine MM.go (own := RX11) (lv0 := [some (.ref (A 65)), some (.int f), some (.int s0), some (.int n), none, none, none]) rfl (by decide) rfl (Nat.le_of_ble_eq_true rfl) rfl ?_
  intro p e s m args below meth c C
  refine jx_iload_n C dX11_thread_0 rfl ?_
  refine jx_iload_n C dX11_thread_1 rfl ?_
  refine jx_one C (jr_S C (c_11_isLane) sw_11_46 rfl ⟨Nat.le_of_ble_eq_true rfl, Nat.le_of_ble_eq_true rfl⟩ ⟨Nat.le_of_ble_eq_true rfl, Nat.le_of_ble_eq_true rfl⟩ dX11_thread_2 rfl (Nat.le_of_ble_eq_true rfl)) ?_
  rw [bI_f hx]
  refine jx_if_eqT (tgt := 14) C dX11_thread_5 (by decide) (by decide) ?_
  refine jx_ldc C dX11_thread_14 qw_633 ?_
  exact jx_iret C dX11_thread_16 ⟨rfl, rfl, rfl, rfl⟩
set_option maxRecDepth 100000 in
set_option maxHeartbeats 4000000 in
theorem c_11_threadX2 {l : Launch} {D : va_G} {K : Nat → ClassId} {A : Nat → Nat} {I : TI} {U : TU} {P : TP} {a b : Nat} (ha : a < 4) (hb : b < 5) {n : Int32} (hn : ¬ n ≤ 24) : MM l yX11_thread cX11_thread 7 (some .int) 5 D K A (I) (U) (P) [.ref (A 65), .int (nI a), .int (nI b), .int n] (XE (some (.int ((-2147483648)))) (I) (U) (P)) := by
  refine MM.go (own := RX11) (lv0 := [some (.ref (A 65)), some (.int (nI a)), some (.int (nI b)), some (.int n), none, none, none]) rfl (by decide) rfl (Nat.le_of_ble_eq_true rfl) rfl ?_
  intro p e s m args below meth c C
  refine jx_iload_n C dX11_thread_0 rfl ?_
  refine jx_iload_n C dX11_thread_1 rfl ?_
  refine jx_one C (jr_S C (c_11_isLane) sw_11_46 rfl ⟨Nat.le_of_ble_eq_true rfl, Nat.le_of_ble_eq_true rfl⟩ ⟨Nat.le_of_ble_eq_true rfl, Nat.le_of_ble_eq_true rfl⟩ dX11_thread_2 rfl (Nat.le_of_ble_eq_true rfl)) ?_
  rw [bI_t ⟨inF_nI ha, inS_nI hb⟩]
  refine jx_if_eqF (tgt := 14) C dX11_thread_5 (by decide) (by decide) ?_
  refine jx_iload_n C dX11_thread_8 rfl ?_
  refine jx_bipush (v := 24) C dX11_thread_9 (by decide) ?_
  refine jx_ic_leF (tgt := 17) C dX11_thread_11 hn (by decide) ?_
  refine jx_ldc C dX11_thread_14 qw_633 ?_
  exact jx_iret C dX11_thread_16 ⟨rfl, rfl, rfl, rfl⟩
set_option maxRecDepth 100000 in
set_option maxHeartbeats 4000000 in
theorem c_11_threadZ {l : Launch} {D : va_G} {K : Nat → ClassId} {A : Nat → Nat} {I : TI} {U : TU} {P : TP} {a b : Nat} (ha : a < 4) (hb : b < 5) {n : Int32} (hn : n ≤ 24) (hz : ¬ 0 ≤ n) : MM l yX11_thread cX11_thread 7 (some .int) 5 D K A (I) (U) (P) [.ref (A 65), .int (nI a), .int (nI b), .int n] (XE (some (.int (0))) (mtel I 3) (U) (P)) := by
  refine MM.go (own := RX11) (lv0 := [some (.ref (A 65)), some (.int (nI a)), some (.int (nI b)), some (.int n), none, none, none]) rfl (by decide) rfl (Nat.le_of_ble_eq_true rfl) rfl ?_
  intro p e s m args below meth c C
  refine jx_iload_n C dX11_thread_0 rfl ?_
  refine jx_iload_n C dX11_thread_1 rfl ?_
  refine jx_one C (jr_S C (c_11_isLane) sw_11_46 rfl ⟨Nat.le_of_ble_eq_true rfl, Nat.le_of_ble_eq_true rfl⟩ ⟨Nat.le_of_ble_eq_true rfl, Nat.le_of_ble_eq_true rfl⟩ dX11_thread_2 rfl (Nat.le_of_ble_eq_true rfl)) ?_
  rw [bI_t ⟨inF_nI ha, inS_nI hb⟩]
  refine jx_if_eqF (tgt := 14) C dX11_thread_5 (by decide) (by decide) ?_
  refine jx_iload_n C dX11_thread_8 rfl ?_
  refine jx_bipush (v := 24) C dX11_thread_9 (by decide) ?_
  refine jx_ic_leT (tgt := 17) C dX11_thread_11 (by decide) hn ?_
  refine jx_iload_n C dX11_thread_17 rfl ?_
  refine jx_if_geF (tgt := 27) C dX11_thread_18 hz (by decide) ?_
  refine jx_aload_n C dX11_thread_21 rfl ?_
  refine jx_iconst (v := 3) C dX11_thread_22 (by decide) ?_
  refine jx_one C (jr_V C (c_11_bad (f := 3) (by decide)) vw_11_51 (by decide) gg_65 rfl rfl ⟨Nat.le_of_ble_eq_true rfl, Nat.le_of_ble_eq_true rfl⟩ ⟨Nat.le_of_ble_eq_true rfl, Nat.le_of_ble_eq_true rfl⟩ dX11_thread_23 rfl (Nat.le_of_ble_eq_true rfl)) ?_
  exact jx_iret C dX11_thread_26 ⟨rfl, rfl, rfl, rfl⟩
set_option maxRecDepth 100000 in
set_option maxHeartbeats 4000000 in
theorem c_11_thread {l : Launch} {D : va_G} {K : Nat → ClassId} {A : Nat → Nat} {I : TI} {U : TU} {P : TP} {a b : Nat} (ha : a < 4) (hb : b < 5) {n : Nat} (hn : n ≤ 24) : MM l yX11_thread cX11_thread 7 (some .int) 5 D K A (I) (U) (P) [.ref (A 65), .int (nI a), .int (nI b), .int (nI n)] (XV (fun w I1 U1 P1 => ∃ r : Nat, r < 20 ∧ used (up2 I 66 (5 * a + b) (-1)) (nI r) 20 = false ∧ w = .int (nI n) ∧ I1 = mbg (mth I (5 * a + b) r n 24) ∧ U1 = mthU U r 24 ∧ P1 = P)) := by
  refine MM.go (own := RX11) (lv0 := [some (.ref (A 65)), some (.int (nI a)), some (.int (nI b)), some (.int (nI n)), none, none, none]) rfl (by decide) rfl (Nat.le_of_ble_eq_true rfl) rfl ?_
  intro p e s m args below meth c C
  refine jx_iload_n C dX11_thread_0 rfl ?_
  refine jx_iload_n C dX11_thread_1 rfl ?_
  refine jx_one C (jr_S C (c_11_isLane) sw_11_46 rfl ⟨Nat.le_of_ble_eq_true rfl, Nat.le_of_ble_eq_true rfl⟩ ⟨Nat.le_of_ble_eq_true rfl, Nat.le_of_ble_eq_true rfl⟩ dX11_thread_2 rfl (Nat.le_of_ble_eq_true rfl)) ?_
  rw [bI_t ⟨inF_nI ha, inS_nI hb⟩]
  refine jx_if_eqF (tgt := 14) C dX11_thread_5 (by decide) (by decide) ?_
  refine jx_iload_n C dX11_thread_8 rfl ?_
  refine jx_bipush (v := 24) C dX11_thread_9 (by decide) ?_
  refine jx_ic_leT (tgt := 17) C dX11_thread_11 (by decide) (nI_le (b := 24) hn (by decide)) ?_
  refine jx_iload_n C dX11_thread_17 rfl ?_
  refine jx_if_geT (tgt := 27) C dX11_thread_18 (by decide) (nI_pos' (by omega)) ?_
  refine jx_iconst (v := 5) C dX11_thread_27 (by decide) ?_
  refine jx_iload_n C dX11_thread_28 rfl ?_
  refine jx_imul C dX11_thread_29 ?_
  refine jx_iload_n C dX11_thread_30 rfl ?_
  refine jx_iadd C dX11_thread_31 ?_
  rw [pl5']
  refine jx_istore (lv1 := [_, _, _, _, _, _, _]) C dX11_thread_32 (by decide) rfl ?_
  refine jx_aload_n C dX11_thread_34 rfl ?_
  refine jx_get C fl_11_7_10 dX11_thread_35 (by decide) gg_65 rfl ?_
  refine jx_iload C dX11_thread_38 rfl ?_
  refine jx_iconst (v := (-1)) C dX11_thread_40 (by decide) ?_
  refine jx_iastI (5 * a + b) C dX11_thread_41 (by decide) (fun _ => gg_66) rfl (by omega) (by decide) ?_
  refine jx_iconst (v := 0) C dX11_thread_42 (by decide) ?_
  refine jx_istore (lv1 := [_, _, _, _, _, _, _]) C dX11_thread_43 (by decide) rfl ?_
  refine lp_11_thread1 C ⟨by decide, by decide⟩ (show 5 * a + b < 20 by omega) up2_same none (fun r hr hu => ?_) 20 0 (by omega) (fun q hq => absurd hq (Nat.not_lt_zero q))
  refine jx_aload_n C dX11_thread_60 rfl ?_
  refine jx_get C fl_11_7_10 dX11_thread_61 (by decide) gg_65 rfl ?_
  refine jx_iload C dX11_thread_64 rfl ?_
  refine jx_iload C dX11_thread_66 rfl ?_
  refine jx_iastI (5 * a + b) C dX11_thread_68 (by decide) (fun _ => gg_66) rfl (by omega) (by decide) ?_
  refine jx_aload_n C dX11_thread_69 rfl ?_
  refine jx_get C fl_11_13_10 dX11_thread_70 (by decide) gg_65 rfl ?_
  refine jx_iload C dX11_thread_73 rfl ?_
  refine jx_iload_n C dX11_thread_75 rfl ?_
  refine jx_iastI (r) C dX11_thread_76 (by decide) (fun _ => gg_67) rfl hr (by decide) ?_
  refine jx_iconst (v := 0) C dX11_thread_77 (by decide) ?_
  refine jx_istore (lv1 := [_, _, _, _, _, _, _]) C dX11_thread_78 (by decide) rfl ?_
  rw [mth_0]
  have e0 := lp_11_thread2 (U := U) (I := I) (P := P) (l := l) (e := e) (R := rmd 5) (A := A) (below := below) (Q := MQX below D K A args s (XV (fun w I1 U1 P1 => ∃ r : Nat, r < 20 ∧ used (up2 I 66 (5 * a + b) (-1)) (nI r) 20 = false ∧ w = .int (nI n) ∧ I1 = mbg (mth I (5 * a + b) r n 24) ∧ U1 = mthU U r 24 ∧ P1 = P))) (a := a) (b := b) (n := n) (pl := 5 * a + b) C hr ?_ 24 0 (by omega)
  · rw [mthU_0] at e0
    exact e0
  refine jx_aload_n C dX11_thread_121 rfl ?_
  refine jx_iload_n C dX11_thread_122 rfl ?_
  refine jx_one C (jr_V C (c_11_good) vw_11_58 (by decide) gg_65 rfl rfl ⟨Nat.le_of_ble_eq_true rfl, Nat.le_of_ble_eq_true rfl⟩ ⟨Nat.le_of_ble_eq_true rfl, Nat.le_of_ble_eq_true rfl⟩ dX11_thread_123 rfl (Nat.le_of_ble_eq_true rfl)) ?_
  exact jx_iret C dX11_thread_126 ⟨_, rfl, r, hr, hu, rfl, rfl, rfl, rfl⟩
