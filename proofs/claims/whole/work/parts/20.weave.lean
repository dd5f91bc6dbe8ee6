/-! weave() -/
/-- cells woven from u on, f at most: how many, the fault (0: none), the ints -/
def wv (P : TP) (a r : Nat) (weft : Int32) : Nat → Nat → TI → Nat × Nat × TI
  | 0, u, I => (u, 0, I)
  | f + 1, u, I => if wcF P a u I = 0 then wv P a r weft f (u + 1) (wcI P a u r weft I) else (u, wcF P a u I, I)
def okLs (I : TI) (U : TU) : Prop := ∀ k, k < 20 → okL I U k
theorem wcI_o {P : TP} {a u r : Nat} {weft : Int32} {I : TI} (ha : a < 4) (hP : okP P) {x y : Nat} (h : ¬ (x = 47 ∨ (5 ≤ x ∧ x < 44 ∧ x % 2 = 1))) : wcI P a u r weft I x y = I x y := by
  unfold wcI
  cases h1 : P (5 * a + 1) with
  | none => rfl
  | some k =>
    have hk := (hP _ _ (by omega) h1).1
    show up2 _ 47 _ _ x y = _
    rw [up2_ne (by omega), laI_o (by omega)]
theorem okE_at {I I' : TI} {U U' : TU} {k n : Nat} (h : okE I U k n) (hI : k % 5 = 3 → I' (5 + 2 * k) n = I (5 + 2 * k) n) (hU : k % 5 = 2 → U' (5 + 2 * k) n = U (5 + 2 * k) n) : okE I' U' k n := ⟨fun q => by rw [hI q]; exact h.1 q, fun q => by rw [hU q]; exact h.2 q⟩
theorem wcI_ok {P : TP} {a u r : Nat} {weft : Int32} {I : TI} {U : TU} (ha : a < 4) (hP : okP P) (h : okLs I U) : okLs (wcI P a u r weft I) U := by
  intro k hk
  obtain ⟨hk, c, hc, hcc, ok⟩ := h k hk
  refine ⟨hk, c, hc, by rw [wcI_o ha hP (by omega)]; exact hcc, fun n hn => okE_at (ok n hn) (fun h3 => ?_) (fun _ => rfl)⟩
  unfold wcI
  cases h1 : P (5 * a + 1) with
  | none => rfl
  | some k1 =>
    have h5 := (hP _ _ (by omega) h1).2
    show up2 _ 47 _ _ _ _ = _
    rw [up2_ne (by omega), laI_o (by omega)]
theorem wcF_le {P : TP} {a u : Nat} {I : TI} : wcF P a u I ≤ 2 := by
  have h : ∀ r i, lfI r i I ≤ 2 := by
    intro r i
    cases r with
    | none => exact (by decide : 1 ≤ 2)
    | some k =>
      show (if inR (I (4 + 2 * k) 0) i then 0 else 2) ≤ 2
      split <;> decide
  unfold wcF
  split
  · exact h _ _
  · split
    · exact h _ _
    · exact h _ _
set_option maxRecDepth 100000 in
set_option maxHeartbeats 4000000 in
theorem lp_10_weave {p : Program} {l : Launch} {e : Env} {s : State} {m : MethodId} {args : Array Value} {below : List Frame} {meth : Method} {c : Code} {D : va_G} {K : Nat → ClassId} {A : Nat → Nat} {U : TU} {P : TP} {post : TQ} {a j n r w : Nat} {weft : Int32} (C : CX p s m args meth c RX10 cX10_weave 7 (some .int) D K (AX 75 A s.heap.size)) (ha : a < 4) (hP : okP P) (h24 : n ≤ 24) (hj : j < n) (hr24 : r < 24) (hw24 : w ≤ 24) : ∀ (f u : Nat) (I : TI), u + f = w → okLs I U → I 46 3 = nI n → I 48 j = nI r → I 46 4 = nI w → ((wv P a r weft f u I).2.1 = 0 → post (some (.int (nI w))) (up2 (wv P a r weft f u I).2.2 0 7 ((wv P a r weft f u I).2.2 0 7 + 1)) U P) → (¬ (wv P a r weft f u I).2.1 = 0 → post (some (.int (nI (wv P a r weft f u I).1))) (tel (wv P a r weft f u I).2.2 (wv P a r weft f u I).2.1) U P) → ∀ z : Option Value, GJ p l e (rmd 6) s m args below meth c 7 D (AX 75 A s.heap.size) (MQX below D K A args s post) 75 A (gg A K (I) U P) 0 0 45 [some (.ref (A 0)), some (.int (nI a)), some (.int (nI j)), some (.int weft), some (.int 0), some (.int (nI u)), z] [] := by
  intro f
  induction f with
  | zero =>
    intro u I hu ok hn hr hw h0 h1 z
    obtain rfl : u = w := by omega
    refine jx_iload C dX10_weave_45 rfl ?_
    refine jx_aload_n C dX10_weave_47 rfl ?_
    refine jx_get C fl_10_26_9 dX10_weave_48 (by decide) gg_0 rfl ?_
    refine jx_one C (jr_V C (c_1_width) vw_10_130 (by decide) gg_46 rfl rfl ⟨Nat.le_of_ble_eq_true rfl, Nat.le_of_ble_eq_true rfl⟩ ⟨Nat.le_of_ble_eq_true rfl, Nat.le_of_ble_eq_true rfl⟩ dX10_weave_51 rfl (Nat.le_of_ble_eq_true rfl)) ?_
    rw [hw]
    refine jx_ic_geT (tgt := 92) C dX10_weave_54 (by decide) (nI_le (Nat.le_refl _) (by omega)) ?_
    refine jx_aload_n C dX10_weave_92 rfl ?_
    refine jx_dup C dX10_weave_93 rfl ?_
    refine jx_get C fl_10_51_9 dX10_weave_94 (by decide) gg_0 rfl ?_
    refine jx_iconst (v := 1) C dX10_weave_97 (by decide) ?_
    refine jx_iadd C dX10_weave_98 ?_
    refine jx_putI C fp_10_51_9 dX10_weave_99 (by decide) gg_0 (Nat.le_of_ble_eq_true rfl) rfl ?_
    refine jx_aload_n C dX10_weave_102 rfl ?_
    refine jx_get C fl_10_26_9 dX10_weave_103 (by decide) gg_0 rfl ?_
    refine jx_one C (jr_V C (c_1_width) vw_10_130 (by decide) gg_46 rfl rfl ⟨Nat.le_of_ble_eq_true rfl, Nat.le_of_ble_eq_true rfl⟩ ⟨Nat.le_of_ble_eq_true rfl, Nat.le_of_ble_eq_true rfl⟩ dX10_weave_106 rfl (Nat.le_of_ble_eq_true rfl)) ?_
    rw [up2_ne (by omega), hw]
    exact jx_iret C dX10_weave_109 (h0 rfl)
  | succ f ih =>
    intro u I hu ok hn hr hw h0 h1 z
    have hF := wcF_le (P := P) (a := a) (u := u) (I := I)
    refine jx_iload C dX10_weave_45 rfl ?_
    refine jx_aload_n C dX10_weave_47 rfl ?_
    refine jx_get C fl_10_26_9 dX10_weave_48 (by decide) gg_0 rfl ?_
    refine jx_one C (jr_V C (c_1_width) vw_10_130 (by decide) gg_46 rfl rfl ⟨Nat.le_of_ble_eq_true rfl, Nat.le_of_ble_eq_true rfl⟩ ⟨Nat.le_of_ble_eq_true rfl, Nat.le_of_ble_eq_true rfl⟩ dX10_weave_51 rfl (Nat.le_of_ble_eq_true rfl)) ?_
    rw [hw]
    refine jx_ic_geF (tgt := 92) C dX10_weave_54 (nI_ge (by omega) (by omega)) (by decide) ?_
    refine jx_aload_n C dX10_weave_57 rfl ?_
    refine jx_iload_n C dX10_weave_58 rfl ?_
    refine jx_iload_n C dX10_weave_59 rfl ?_
    refine jx_iload C dX10_weave_60 rfl ?_
    refine jx_iload_n C dX10_weave_62 rfl ?_
    by_cases hz : wcF P a u I = 0
    · skip
      refine jx_one C (jr_V C (c_10_weaveCell ha hP (fun pl k hp hk => ok k (hP pl k hp hk).1) hn h24 hj hr hr24 hw hw24 (by omega)) vw_10_143 (by decide) gg_0 rfl rfl ⟨Nat.le_of_ble_eq_true rfl, Nat.le_of_ble_eq_true rfl⟩ ⟨Nat.le_of_ble_eq_true rfl, Nat.le_of_ble_eq_true rfl⟩ dX10_weave_63 rfl (Nat.le_of_ble_eq_true rfl)) ?_
      rw [if_pos hz, hz]
      refine jx_istore (lv1 := [_, _, _, _, _, _, _]) C dX10_weave_66 (by decide) rfl ?_
      refine jx_iload C dX10_weave_68 rfl ?_
      refine jx_if_eqT (tgt := 86) C dX10_weave_70 (by decide) (by decide) ?_
      refine jx_iinc (lv1 := [_, _, _, _, _, _, _]) C dX10_weave_86 rfl (nI_1 u) rfl ?_
      refine jx_goto (tgt := 45) C dX10_weave_89 (by decide) ?_
      have e0 : wv P a r weft (f + 1) u I = wv P a r weft f (u + 1) (wcI P a u r weft I) := by rw [wv, if_pos hz]
      rw [e0] at h0 h1
      exact ih (u + 1) _ (by omega) (wcI_ok ha hP ok) (by rw [wcI_o ha hP (by omega)]; exact hn) (by rw [wcI_o ha hP (by omega)]; exact hr) (by rw [wcI_o ha hP (by omega)]; exact hw) h0 h1 _
    · skip
      refine jx_one C (jr_V C (c_10_weaveCell ha hP (fun pl k hp hk => ok k (hP pl k hp hk).1) hn h24 hj hr hr24 hw hw24 (by omega)) vw_10_143 (by decide) gg_0 rfl rfl ⟨Nat.le_of_ble_eq_true rfl, Nat.le_of_ble_eq_true rfl⟩ ⟨Nat.le_of_ble_eq_true rfl, Nat.le_of_ble_eq_true rfl⟩ dX10_weave_63 rfl (Nat.le_of_ble_eq_true rfl)) ?_
      rw [if_neg hz]
      refine jx_istore (lv1 := [_, _, _, _, _, _, _]) C dX10_weave_66 (by decide) rfl ?_
      refine jx_iload C dX10_weave_68 rfl ?_
      refine jx_if_eqF (tgt := 86) C dX10_weave_70 (fun q => hz (by have := (nI_eq (a := wcF P a u I) (b := 0) (by omega) (by decide)).mp q; exact this)) (by decide) ?_
      refine jx_aload_n C dX10_weave_73 rfl ?_
      refine jx_get C fl_10_40_9 dX10_weave_74 (by decide) gg_0 rfl ?_
      refine jx_iload C dX10_weave_77 rfl ?_
      refine jx_one C (jr_V C (c_4_tell (f := wcF P a u I) (by omega) (by omega)) vw_10_62 (by decide) gg_63 rfl rfl ⟨Nat.le_of_ble_eq_true rfl, Nat.le_of_ble_eq_true rfl⟩ ⟨Nat.le_of_ble_eq_true rfl, Nat.le_of_ble_eq_true rfl⟩ dX10_weave_79 rfl (Nat.le_of_ble_eq_true rfl)) ?_
      refine jx_pop C dX10_weave_82 rfl ?_
      have e0 : wv P a r weft (f + 1) u I = (u, wcF P a u I, I) := by rw [wv, if_neg hz]
      have hq := h1 (by rw [e0]; exact hz)
      rw [e0] at hq
      refine jx_iload C dX10_weave_83 rfl ?_
      exact jx_iret C dX10_weave_85 hq
set_option maxRecDepth 100000 in
set_option maxHeartbeats 4000000 in
theorem c_10_weaveX {l : Launch} {D : va_G} {K : Nat → ClassId} {A : Nat → Nat} {I : TI} {U : TU} {P : TP} {f x y : Int32} (hx : ¬ inF f) : MM l yX10_weave cX10_weave 7 (some .int) 6 D K A (I) (U) (P) [.ref (A 0), .int f, .int x, .int y] (XE (some (.int (-2147483648))) I U P) := by
  refine MM.go (own := RX10) (lv0 := [some (.ref (A 0)), some (.int f), some (.int x), some (.int y), none, none, none]) rfl (by decide) rfl (Nat.le_of_ble_eq_true rfl) rfl ?_
  intro p e s m args below meth c C
  refine jx_iload_n C dX10_weave_0 rfl ?_
  refine jx_one C (jr_S C (c_8_isFrame) sw_10_78 rfl ⟨Nat.le_of_ble_eq_true rfl, Nat.le_of_ble_eq_true rfl⟩ ⟨Nat.le_of_ble_eq_true rfl, Nat.le_of_ble_eq_true rfl⟩ dX10_weave_1 rfl (Nat.le_of_ble_eq_true rfl)) ?_
  rw [bI_f hx]
  refine jx_if_neF (tgt := 10) C dX10_weave_4 (by decide) (by decide) ?_
  refine jx_ldc C dX10_weave_7 qw_215 ?_
  exact jx_iret C dX10_weave_9 ⟨rfl, rfl, rfl, rfl⟩
set_option maxRecDepth 100000 in
set_option maxHeartbeats 4000000 in
theorem c_10_weave1 {l : Launch} {D : va_G} {K : Nat → ClassId} {A : Nat → Nat} {I : TI} {U : TU} {P : TP} {a : Nat} (ha : a < 4) {x y : Int32} {n : Nat} (hn : I 46 3 = nI n) (h24 : n ≤ 24) (ht : I 46 2 = 0) : MM l yX10_weave cX10_weave 7 (some .int) 6 D K A (I) (U) (P) [.ref (A 0), .int (nI a), .int x, .int y] (XE (some (.int 0)) (tel (bg I) 1) U P) := by
  refine MM.go (own := RX10) (lv0 := [some (.ref (A 0)), some (.int (nI a)), some (.int x), some (.int y), none, none, none]) rfl (by decide) rfl (Nat.le_of_ble_eq_true rfl) rfl ?_
  intro p e s m args below meth c C
  refine jx_iload_n C dX10_weave_0 rfl ?_
  refine jx_one C (jr_S C (c_8_isFrame) sw_10_78 rfl ⟨Nat.le_of_ble_eq_true rfl, Nat.le_of_ble_eq_true rfl⟩ ⟨Nat.le_of_ble_eq_true rfl, Nat.le_of_ble_eq_true rfl⟩ dX10_weave_1 rfl (Nat.le_of_ble_eq_true rfl)) ?_
  rw [bI_t (inF_nI ha)]
  refine jx_if_neT (tgt := 10) C dX10_weave_4 (by decide) (by decide) ?_
  refine jx_aload_n C dX10_weave_10 rfl ?_
  refine jx_get C fl_10_40_9 dX10_weave_11 (by decide) gg_0 rfl ?_
  refine jx_void C (jr_V C (c_4_begin) vw_10_59 (by decide) gg_63 rfl rfl ⟨Nat.le_of_ble_eq_true rfl, Nat.le_of_ble_eq_true rfl⟩ ⟨Nat.le_of_ble_eq_true rfl, Nat.le_of_ble_eq_true rfl⟩ dX10_weave_14 rfl (Nat.le_of_ble_eq_true rfl)) ?_
  refine jx_aload_n C dX10_weave_17 rfl ?_
  refine jx_get C fl_10_26_9 dX10_weave_18 (by decide) gg_0 rfl ?_
  refine jx_iload_n C dX10_weave_21 rfl ?_
  refine jx_one C (jr_V C (c_1_pickFault (by rw [up2_ne (by omega)]; exact hn) h24) vw_10_133 (by decide) gg_46 rfl rfl ⟨Nat.le_of_ble_eq_true rfl, Nat.le_of_ble_eq_true rfl⟩ ⟨Nat.le_of_ble_eq_true rfl, Nat.le_of_ble_eq_true rfl⟩ dX10_weave_22 rfl (Nat.le_of_ble_eq_true rfl)) ?_
  rw [up2_ne (by omega), up2_ne (by omega), up2_ne (by omega)]
  rw [show fPk (I 46 2) (I 46 3) (x) (I 48 (x).toNatClampNeg) = 1 by simp [fPk, ht]]
  refine jx_istore (lv1 := [_, _, _, _, _, _, _]) C dX10_weave_25 (by decide) rfl ?_
  refine jx_iload C dX10_weave_27 rfl ?_
  refine jx_if_eqF (tgt := 42) C dX10_weave_29 (by decide) (by decide) ?_
  refine jx_aload_n C dX10_weave_32 rfl ?_
  refine jx_get C fl_10_40_9 dX10_weave_33 (by decide) gg_0 rfl ?_
  refine jx_iload C dX10_weave_36 rfl ?_
  refine jx_one C (jr_V C (c_4_tell (f := 1) (by decide) (by decide)) vw_10_62 (by decide) gg_63 rfl rfl ⟨Nat.le_of_ble_eq_true rfl, Nat.le_of_ble_eq_true rfl⟩ ⟨Nat.le_of_ble_eq_true rfl, Nat.le_of_ble_eq_true rfl⟩ dX10_weave_38 rfl (Nat.le_of_ble_eq_true rfl)) ?_
  exact jx_iret C dX10_weave_41 ⟨rfl, rfl, rfl, rfl⟩
set_option maxRecDepth 100000 in
set_option maxHeartbeats 4000000 in
theorem c_10_weave2 {l : Launch} {D : va_G} {K : Nat → ClassId} {A : Nat → Nat} {I : TI} {U : TU} {P : TP} {a : Nat} (ha : a < 4) {x y : Int32} {n : Nat} (hn : I 46 3 = nI n) (h24 : n ≤ 24) (ht : ¬ I 46 2 = 0) (hp : ¬ inR (I 46 3) x) : MM l yX10_weave cX10_weave 7 (some .int) 6 D K A (I) (U) (P) [.ref (A 0), .int (nI a), .int x, .int y] (XE (some (.int 0)) (tel (bg I) 2) U P) := by
  refine MM.go (own := RX10) (lv0 := [some (.ref (A 0)), some (.int (nI a)), some (.int x), some (.int y), none, none, none]) rfl (by decide) rfl (Nat.le_of_ble_eq_true rfl) rfl ?_
  intro p e s m args below meth c C
  refine jx_iload_n C dX10_weave_0 rfl ?_
  refine jx_one C (jr_S C (c_8_isFrame) sw_10_78 rfl ⟨Nat.le_of_ble_eq_true rfl, Nat.le_of_ble_eq_true rfl⟩ ⟨Nat.le_of_ble_eq_true rfl, Nat.le_of_ble_eq_true rfl⟩ dX10_weave_1 rfl (Nat.le_of_ble_eq_true rfl)) ?_
  rw [bI_t (inF_nI ha)]
  refine jx_if_neT (tgt := 10) C dX10_weave_4 (by decide) (by decide) ?_
  refine jx_aload_n C dX10_weave_10 rfl ?_
  refine jx_get C fl_10_40_9 dX10_weave_11 (by decide) gg_0 rfl ?_
  refine jx_void C (jr_V C (c_4_begin) vw_10_59 (by decide) gg_63 rfl rfl ⟨Nat.le_of_ble_eq_true rfl, Nat.le_of_ble_eq_true rfl⟩ ⟨Nat.le_of_ble_eq_true rfl, Nat.le_of_ble_eq_true rfl⟩ dX10_weave_14 rfl (Nat.le_of_ble_eq_true rfl)) ?_
  refine jx_aload_n C dX10_weave_17 rfl ?_
  refine jx_get C fl_10_26_9 dX10_weave_18 (by decide) gg_0 rfl ?_
  refine jx_iload_n C dX10_weave_21 rfl ?_
  refine jx_one C (jr_V C (c_1_pickFault (by rw [up2_ne (by omega)]; exact hn) h24) vw_10_133 (by decide) gg_46 rfl rfl ⟨Nat.le_of_ble_eq_true rfl, Nat.le_of_ble_eq_true rfl⟩ ⟨Nat.le_of_ble_eq_true rfl, Nat.le_of_ble_eq_true rfl⟩ dX10_weave_22 rfl (Nat.le_of_ble_eq_true rfl)) ?_
  rw [up2_ne (by omega), up2_ne (by omega), up2_ne (by omega)]
  rw [show fPk (I 46 2) (I 46 3) (x) (I 48 (x).toNatClampNeg) = 2 by simp only [fPk, if_neg ht, if_neg hp]]
  refine jx_istore (lv1 := [_, _, _, _, _, _, _]) C dX10_weave_25 (by decide) rfl ?_
  refine jx_iload C dX10_weave_27 rfl ?_
  refine jx_if_eqF (tgt := 42) C dX10_weave_29 (by decide) (by decide) ?_
  refine jx_aload_n C dX10_weave_32 rfl ?_
  refine jx_get C fl_10_40_9 dX10_weave_33 (by decide) gg_0 rfl ?_
  refine jx_iload C dX10_weave_36 rfl ?_
  refine jx_one C (jr_V C (c_4_tell (f := 2) (by decide) (by decide)) vw_10_62 (by decide) gg_63 rfl rfl ⟨Nat.le_of_ble_eq_true rfl, Nat.le_of_ble_eq_true rfl⟩ ⟨Nat.le_of_ble_eq_true rfl, Nat.le_of_ble_eq_true rfl⟩ dX10_weave_38 rfl (Nat.le_of_ble_eq_true rfl)) ?_
  exact jx_iret C dX10_weave_41 ⟨rfl, rfl, rfl, rfl⟩
set_option maxRecDepth 100000 in
set_option maxHeartbeats 4000000 in
theorem c_10_weave3 {l : Launch} {D : va_G} {K : Nat → ClassId} {A : Nat → Nat} {I : TI} {U : TU} {P : TP} {a : Nat} (ha : a < 4) {x y : Int32} {n : Nat} (hn : I 46 3 = nI n) (h24 : n ≤ 24) (ht : ¬ I 46 2 = 0) (hp : inR (I 46 3) x) (hr : I 48 x.toNatClampNeg = -1) : MM l yX10_weave cX10_weave 7 (some .int) 6 D K A (I) (U) (P) [.ref (A 0), .int (nI a), .int x, .int y] (XE (some (.int 0)) (tel (bg I) 1) U P) := by
  refine MM.go (own := RX10) (lv0 := [some (.ref (A 0)), some (.int (nI a)), some (.int x), some (.int y), none, none, none]) rfl (by decide) rfl (Nat.le_of_ble_eq_true rfl) rfl ?_
  intro p e s m args below meth c C
  refine jx_iload_n C dX10_weave_0 rfl ?_
  refine jx_one C (jr_S C (c_8_isFrame) sw_10_78 rfl ⟨Nat.le_of_ble_eq_true rfl, Nat.le_of_ble_eq_true rfl⟩ ⟨Nat.le_of_ble_eq_true rfl, Nat.le_of_ble_eq_true rfl⟩ dX10_weave_1 rfl (Nat.le_of_ble_eq_true rfl)) ?_
  rw [bI_t (inF_nI ha)]
  refine jx_if_neT (tgt := 10) C dX10_weave_4 (by decide) (by decide) ?_
  refine jx_aload_n C dX10_weave_10 rfl ?_
  refine jx_get C fl_10_40_9 dX10_weave_11 (by decide) gg_0 rfl ?_
  refine jx_void C (jr_V C (c_4_begin) vw_10_59 (by decide) gg_63 rfl rfl ⟨Nat.le_of_ble_eq_true rfl, Nat.le_of_ble_eq_true rfl⟩ ⟨Nat.le_of_ble_eq_true rfl, Nat.le_of_ble_eq_true rfl⟩ dX10_weave_14 rfl (Nat.le_of_ble_eq_true rfl)) ?_
  refine jx_aload_n C dX10_weave_17 rfl ?_
  refine jx_get C fl_10_26_9 dX10_weave_18 (by decide) gg_0 rfl ?_
  refine jx_iload_n C dX10_weave_21 rfl ?_
  refine jx_one C (jr_V C (c_1_pickFault (by rw [up2_ne (by omega)]; exact hn) h24) vw_10_133 (by decide) gg_46 rfl rfl ⟨Nat.le_of_ble_eq_true rfl, Nat.le_of_ble_eq_true rfl⟩ ⟨Nat.le_of_ble_eq_true rfl, Nat.le_of_ble_eq_true rfl⟩ dX10_weave_22 rfl (Nat.le_of_ble_eq_true rfl)) ?_
  rw [up2_ne (by omega), up2_ne (by omega), up2_ne (by omega)]
  rw [show fPk (I 46 2) (I 46 3) (x) (I 48 (x).toNatClampNeg) = 1 by simp only [fPk, if_neg ht, if_pos hp, if_pos hr]]
  refine jx_istore (lv1 := [_, _, _, _, _, _, _]) C dX10_weave_25 (by decide) rfl ?_
  refine jx_iload C dX10_weave_27 rfl ?_
  refine jx_if_eqF (tgt := 42) C dX10_weave_29 (by decide) (by decide) ?_
  refine jx_aload_n C dX10_weave_32 rfl ?_
  refine jx_get C fl_10_40_9 dX10_weave_33 (by decide) gg_0 rfl ?_
  refine jx_iload C dX10_weave_36 rfl ?_
  refine jx_one C (jr_V C (c_4_tell (f := 1) (by decide) (by decide)) vw_10_62 (by decide) gg_63 rfl rfl ⟨Nat.le_of_ble_eq_true rfl, Nat.le_of_ble_eq_true rfl⟩ ⟨Nat.le_of_ble_eq_true rfl, Nat.le_of_ble_eq_true rfl⟩ dX10_weave_38 rfl (Nat.le_of_ble_eq_true rfl)) ?_
  exact jx_iret C dX10_weave_41 ⟨rfl, rfl, rfl, rfl⟩
set_option maxRecDepth 100000 in
set_option maxHeartbeats 4000000 in
theorem c_10_weave {l : Launch} {D : va_G} {K : Nat → ClassId} {A : Nat → Nat} {I : TI} {U : TU} {P : TP} {a j r w : Nat} {weft : Int32} (ha : a < 4) {n : Nat} (hn : I 46 3 = nI n) (h24 : n ≤ 24) (ht : ¬ I 46 2 = 0) (hj : j < n) (hr : I 48 j = nI r) (hr24 : r < 24) (hw : I 46 4 = nI w) (hw24 : w ≤ 24) (hP : okP P) (ok : okLs I U) : MM l yX10_weave cX10_weave 7 (some .int) 6 D K A (I) (U) (P) [.ref (A 0), .int (nI a), .int (nI j), .int weft] (XE (some (.int (if (wv P a r weft w 0 (bg I)).2.1 = 0 then nI w else nI (wv P a r weft w 0 (bg I)).1))) (if (wv P a r weft w 0 (bg I)).2.1 = 0 then up2 (wv P a r weft w 0 (bg I)).2.2 0 7 ((wv P a r weft w 0 (bg I)).2.2 0 7 + 1) else tel (wv P a r weft w 0 (bg I)).2.2 (wv P a r weft w 0 (bg I)).2.1) U P) := by
  have hp : inR (I 46 3) (nI j) := hn ▸ inR_nI (by omega) hj
  refine MM.go (own := RX10) (lv0 := [some (.ref (A 0)), some (.int (nI a)), some (.int (nI j)), some (.int weft), none, none, none]) rfl (by decide) rfl (Nat.le_of_ble_eq_true rfl) rfl ?_
  intro p e s m args below meth c C
  refine jx_iload_n C dX10_weave_0 rfl ?_
  refine jx_one C (jr_S C (c_8_isFrame) sw_10_78 rfl ⟨Nat.le_of_ble_eq_true rfl, Nat.le_of_ble_eq_true rfl⟩ ⟨Nat.le_of_ble_eq_true rfl, Nat.le_of_ble_eq_true rfl⟩ dX10_weave_1 rfl (Nat.le_of_ble_eq_true rfl)) ?_
  rw [bI_t (inF_nI ha)]
  refine jx_if_neT (tgt := 10) C dX10_weave_4 (by decide) (by decide) ?_
  refine jx_aload_n C dX10_weave_10 rfl ?_
  refine jx_get C fl_10_40_9 dX10_weave_11 (by decide) gg_0 rfl ?_
  refine jx_void C (jr_V C (c_4_begin) vw_10_59 (by decide) gg_63 rfl rfl ⟨Nat.le_of_ble_eq_true rfl, Nat.le_of_ble_eq_true rfl⟩ ⟨Nat.le_of_ble_eq_true rfl, Nat.le_of_ble_eq_true rfl⟩ dX10_weave_14 rfl (Nat.le_of_ble_eq_true rfl)) ?_
  refine jx_aload_n C dX10_weave_17 rfl ?_
  refine jx_get C fl_10_26_9 dX10_weave_18 (by decide) gg_0 rfl ?_
  refine jx_iload_n C dX10_weave_21 rfl ?_
  refine jx_one C (jr_V C (c_1_pickFault (by rw [up2_ne (by omega)]; exact hn) h24) vw_10_133 (by decide) gg_46 rfl rfl ⟨Nat.le_of_ble_eq_true rfl, Nat.le_of_ble_eq_true rfl⟩ ⟨Nat.le_of_ble_eq_true rfl, Nat.le_of_ble_eq_true rfl⟩ dX10_weave_22 rfl (Nat.le_of_ble_eq_true rfl)) ?_
  rw [up2_ne (by omega), up2_ne (by omega), up2_ne (by omega)]
  rw [show fPk (I 46 2) (I 46 3) (nI j) (I 48 (nI j).toNatClampNeg) = 0 by simp only [fPk, if_neg ht, if_pos hp, nI_clamp (show j < 2 ^ 31 by omega)]; rw [hr, if_neg (nI_m1 (by omega))]]
  refine jx_istore (lv1 := [_, _, _, _, _, _, _]) C dX10_weave_25 (by decide) rfl ?_
  refine jx_iload C dX10_weave_27 rfl ?_
  refine jx_if_eqT (tgt := 42) C dX10_weave_29 (by decide) (by decide) ?_
  refine jx_iconst (v := 0) C dX10_weave_42 (by decide) ?_
  refine jx_istore (lv1 := [_, _, _, _, _, _, _]) C dX10_weave_43 (by decide) rfl ?_
  refine lp_10_weave C ha hP h24 hj hr24 hw24 w 0 (bg I) (by omega) ?_ (by unfold bg; rw [up2_ne (by omega)]; exact hn) (by unfold bg; rw [up2_ne (by omega)]; exact hr) (by unfold bg; rw [up2_ne (by omega)]; exact hw) (fun q => ⟨by rw [if_pos q], by rw [if_pos q], rfl, rfl⟩) (fun q => ⟨by rw [if_neg q], by rw [if_neg q], rfl, rfl⟩) none
  intro k hk
  obtain ⟨hk, c0, hc, hcc, okk⟩ := ok k hk
  exact ⟨hk, c0, hc, by unfold bg; rw [up2_ne (by omega)]; exact hcc, fun n hn => okE_I (okk n hn) (by omega)⟩
