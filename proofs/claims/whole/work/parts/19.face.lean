/-! the face of HandLoom, but for weave() and run(), case by case -/
theorem inK_nI {a : Nat} (h : a < 5) : inK (nI a) := ⟨nI_pos (by omega), nI_nlt (a := 4) (by omega) (by decide)⟩
theorem inK_of {f : Int32} (h : inK f) : ∃ a : Nat, a < 5 ∧ f = nI a := by
  obtain ⟨j, hj, e⟩ := nI_of2 (M := 4) (n := 4) (by decide) h.1 (Int32.not_lt.mp h.2)
  exact ⟨j, by omega, e⟩
set_option maxRecDepth 100000 in
set_option maxHeartbeats 4000000 in
theorem c_10_threadX1 {l : Launch} {D : va_G} {K : Nat → ClassId} {A : Nat → Nat} {I : TI} {U : TU} {P : TP} {f s0 : Int32} (hx : ¬ inL f s0) {n : Int32} : MM l yX10_thread cX10_thread 4 (some .int) 5 D K A (I) (U) (P) [.ref (A 0), .int f, .int s0, .int n] (XE (some (.int ((-2147483648)))) (I) (U) (P)) := by
  refine MM.go (own := RX10) (lv0 := [some (.ref (A 0)), some (.int f), some (.int s0), some (.int n)]) rfl (by decide) rfl (Nat.le_of_ble_eq_true rfl) rfl ?_
  intro p e s m args below meth c C
  refine jx_iload_n C dX10_thread_0 rfl ?_
  refine jx_iload_n C dX10_thread_1 rfl ?_
  refine jx_one C (jr_S C (c_8_isLane) sw_10_54 rfl ⟨Nat.le_of_ble_eq_true rfl, Nat.le_of_ble_eq_true rfl⟩ ⟨Nat.le_of_ble_eq_true rfl, Nat.le_of_ble_eq_true rfl⟩ dX10_thread_2 rfl (Nat.le_of_ble_eq_true rfl)) ?_
  rw [bI_f hx]
  refine jx_if_eqT (tgt := 14) C dX10_thread_5 (by decide) (by decide) ?_
  refine jx_ldc C dX10_thread_14 qw_215 ?_
  exact jx_iret C dX10_thread_16 ⟨rfl, rfl, rfl, rfl⟩
set_option maxRecDepth 100000 in
set_option maxHeartbeats 4000000 in
theorem c_10_threadX2 {l : Launch} {D : va_G} {K : Nat → ClassId} {A : Nat → Nat} {I : TI} {U : TU} {P : TP} {a b : Nat} (ha : a < 4) (hb : b < 5) {n : Int32} (hn : ¬ n ≤ 24) : MM l yX10_thread cX10_thread 4 (some .int) 5 D K A (I) (U) (P) [.ref (A 0), .int (nI a), .int (nI b), .int n] (XE (some (.int ((-2147483648)))) (I) (U) (P)) := by
  refine MM.go (own := RX10) (lv0 := [some (.ref (A 0)), some (.int (nI a)), some (.int (nI b)), some (.int n)]) rfl (by decide) rfl (Nat.le_of_ble_eq_true rfl) rfl ?_
  intro p e s m args below meth c C
  refine jx_iload_n C dX10_thread_0 rfl ?_
  refine jx_iload_n C dX10_thread_1 rfl ?_
  refine jx_one C (jr_S C (c_8_isLane) sw_10_54 rfl ⟨Nat.le_of_ble_eq_true rfl, Nat.le_of_ble_eq_true rfl⟩ ⟨Nat.le_of_ble_eq_true rfl, Nat.le_of_ble_eq_true rfl⟩ dX10_thread_2 rfl (Nat.le_of_ble_eq_true rfl)) ?_
  rw [bI_t ⟨inF_nI ha, inS_nI hb⟩]
  refine jx_if_eqF (tgt := 14) C dX10_thread_5 (by decide) (by decide) ?_
  refine jx_iload_n C dX10_thread_8 rfl ?_
  refine jx_bipush (v := 24) C dX10_thread_9 (by decide) ?_
  refine jx_ic_leF (tgt := 17) C dX10_thread_11 hn (by decide) ?_
  refine jx_ldc C dX10_thread_14 qw_215 ?_
  exact jx_iret C dX10_thread_16 ⟨rfl, rfl, rfl, rfl⟩
set_option maxRecDepth 100000 in
set_option maxHeartbeats 4000000 in
theorem c_10_threadZ {l : Launch} {D : va_G} {K : Nat → ClassId} {A : Nat → Nat} {I : TI} {U : TU} {P : TP} {a b : Nat} (ha : a < 4) (hb : b < 5) {n : Int32} (hn : n ≤ 24) (hz : ¬ 0 ≤ n) : MM l yX10_thread cX10_thread 4 (some .int) 5 D K A (I) (U) (P) [.ref (A 0), .int (nI a), .int (nI b), .int n] (XE (some (.int (0))) (tel (bg I) 3) (U) (P)) := by
  refine MM.go (own := RX10) (lv0 := [some (.ref (A 0)), some (.int (nI a)), some (.int (nI b)), some (.int n)]) rfl (by decide) rfl (Nat.le_of_ble_eq_true rfl) rfl ?_
  intro p e s m args below meth c C
  refine jx_iload_n C dX10_thread_0 rfl ?_
  refine jx_iload_n C dX10_thread_1 rfl ?_
  refine jx_one C (jr_S C (c_8_isLane) sw_10_54 rfl ⟨Nat.le_of_ble_eq_true rfl, Nat.le_of_ble_eq_true rfl⟩ ⟨Nat.le_of_ble_eq_true rfl, Nat.le_of_ble_eq_true rfl⟩ dX10_thread_2 rfl (Nat.le_of_ble_eq_true rfl)) ?_
  rw [bI_t ⟨inF_nI ha, inS_nI hb⟩]
  refine jx_if_eqF (tgt := 14) C dX10_thread_5 (by decide) (by decide) ?_
  refine jx_iload_n C dX10_thread_8 rfl ?_
  refine jx_bipush (v := 24) C dX10_thread_9 (by decide) ?_
  refine jx_ic_leT (tgt := 17) C dX10_thread_11 (by decide) hn ?_
  refine jx_aload_n C dX10_thread_17 rfl ?_
  refine jx_get C fl_10_40_9 dX10_thread_18 (by decide) gg_0 rfl ?_
  refine jx_void C (jr_V C (c_4_begin) vw_10_59 (by decide) gg_63 rfl rfl ⟨Nat.le_of_ble_eq_true rfl, Nat.le_of_ble_eq_true rfl⟩ ⟨Nat.le_of_ble_eq_true rfl, Nat.le_of_ble_eq_true rfl⟩ dX10_thread_21 rfl (Nat.le_of_ble_eq_true rfl)) ?_
  refine jx_iload_n C dX10_thread_24 rfl ?_
  refine jx_if_geF (tgt := 37) C dX10_thread_25 hz (by decide) ?_
  refine jx_aload_n C dX10_thread_28 rfl ?_
  refine jx_get C fl_10_40_9 dX10_thread_29 (by decide) gg_0 rfl ?_
  refine jx_iconst (v := 3) C dX10_thread_32 (by decide) ?_
  refine jx_one C (jr_V C (c_4_tell (f := 3) (by decide) (by decide)) vw_10_62 (by decide) gg_63 rfl rfl ⟨Nat.le_of_ble_eq_true rfl, Nat.le_of_ble_eq_true rfl⟩ ⟨Nat.le_of_ble_eq_true rfl, Nat.le_of_ble_eq_true rfl⟩ dX10_thread_33 rfl (Nat.le_of_ble_eq_true rfl)) ?_
  exact jx_iret C dX10_thread_36 ⟨rfl, rfl, rfl, rfl⟩
set_option maxRecDepth 100000 in
set_option maxHeartbeats 4000000 in
theorem c_10_thread {l : Launch} {D : va_G} {K : Nat → ClassId} {A : Nat → Nat} {I : TI} {U : TU} {P : TP} {a b : Nat} (ha : a < 4) (hb : b < 5) {n : Nat} (hn : n ≤ 24) (hP : okP P) : MM l yX10_thread cX10_thread 4 (some .int) 5 D K A (I) (U) (P) [.ref (A 0), .int (nI a), .int (nI b), .int (nI n)] (XV (fun w I1 U1 P1 => ∃ u : Nat, u < 4 ∧ ¬ heldBy (va_up P (5 * a + b) none) b (5 * u + b) ∧ w = .int (nI n) ∧ I1 = rsJ (5 * u + b) n n (bg I) ∧ U1 = rsV (5 * u + b) n U ∧ P1 = va_up P (5 * a + b) (some (5 * u + b)))) := by
  refine MM.go (own := RX10) (lv0 := [some (.ref (A 0)), some (.int (nI a)), some (.int (nI b)), some (.int (nI n))]) rfl (by decide) rfl (Nat.le_of_ble_eq_true rfl) rfl ?_
  intro p e s m args below meth c C
  refine jx_iload_n C dX10_thread_0 rfl ?_
  refine jx_iload_n C dX10_thread_1 rfl ?_
  refine jx_one C (jr_S C (c_8_isLane) sw_10_54 rfl ⟨Nat.le_of_ble_eq_true rfl, Nat.le_of_ble_eq_true rfl⟩ ⟨Nat.le_of_ble_eq_true rfl, Nat.le_of_ble_eq_true rfl⟩ dX10_thread_2 rfl (Nat.le_of_ble_eq_true rfl)) ?_
  rw [bI_t ⟨inF_nI ha, inS_nI hb⟩]
  refine jx_if_eqF (tgt := 14) C dX10_thread_5 (by decide) (by decide) ?_
  refine jx_iload_n C dX10_thread_8 rfl ?_
  refine jx_bipush (v := 24) C dX10_thread_9 (by decide) ?_
  refine jx_ic_leT (tgt := 17) C dX10_thread_11 (by decide) (nI_le (b := 24) hn (by decide)) ?_
  refine jx_aload_n C dX10_thread_17 rfl ?_
  refine jx_get C fl_10_40_9 dX10_thread_18 (by decide) gg_0 rfl ?_
  refine jx_void C (jr_V C (c_4_begin) vw_10_59 (by decide) gg_63 rfl rfl ⟨Nat.le_of_ble_eq_true rfl, Nat.le_of_ble_eq_true rfl⟩ ⟨Nat.le_of_ble_eq_true rfl, Nat.le_of_ble_eq_true rfl⟩ dX10_thread_21 rfl (Nat.le_of_ble_eq_true rfl)) ?_
  refine jx_iload_n C dX10_thread_24 rfl ?_
  refine jx_if_geT (tgt := 37) C dX10_thread_25 (by decide) (nI_pos' (by omega)) ?_
  refine jx_aload_n C dX10_thread_37 rfl ?_
  refine jx_get C fl_10_10_9 dX10_thread_38 (by decide) gg_0 rfl ?_
  refine jx_iload_n C dX10_thread_41 rfl ?_
  refine jx_iload_n C dX10_thread_42 rfl ?_
  refine jx_iload_n C dX10_thread_43 rfl ?_
  refine jx_voidN C (jr_V C (c_8_stretch ha hb hn hP) vw_10_66 (by decide) gg_1 rfl rfl ⟨Nat.le_of_ble_eq_true rfl, Nat.le_of_ble_eq_true rfl⟩ ⟨Nat.le_of_ble_eq_true rfl, Nat.le_of_ble_eq_true rfl⟩ dX10_thread_44 rfl (Nat.le_of_ble_eq_true rfl)) (fun I1 U1 P1 hq => ?_)
  obtain ⟨u, hu, hnh, rfl, rfl, rfl⟩ := hq
  refine jx_iload_n C dX10_thread_47 rfl ?_
  exact jx_iret C dX10_thread_48 ⟨_, rfl, u, hu, hnh, rfl, rfl, rfl, rfl⟩
set_option maxRecDepth 100000 in
set_option maxHeartbeats 4000000 in
theorem c_10_cutX {l : Launch} {D : va_G} {K : Nat → ClassId} {A : Nat → Nat} {I : TI} {U : TU} {P : TP} {f s0 : Int32} (hx : ¬ inL f s0) : MM l yX10_cut cX10_cut 4 (some .int) 5 D K A (I) (U) (P) [.ref (A 0), .int f, .int s0] (XE (some (.int ((-2147483648)))) (I) (U) (P)) := by
  refine MM.go (own := RX10) (lv0 := [some (.ref (A 0)), some (.int f), some (.int s0), none]) rfl (by decide) rfl (Nat.le_of_ble_eq_true rfl) rfl ?_
  intro p e s m args below meth c C
  refine jx_iload_n C dX10_cut_0 rfl ?_
  refine jx_iload_n C dX10_cut_1 rfl ?_
  refine jx_one C (jr_S C (c_8_isLane) sw_10_54 rfl ⟨Nat.le_of_ble_eq_true rfl, Nat.le_of_ble_eq_true rfl⟩ ⟨Nat.le_of_ble_eq_true rfl, Nat.le_of_ble_eq_true rfl⟩ dX10_cut_2 rfl (Nat.le_of_ble_eq_true rfl)) ?_
  rw [bI_f hx]
  refine jx_if_neF (tgt := 11) C dX10_cut_5 (by decide) (by decide) ?_
  refine jx_ldc C dX10_cut_8 qw_215 ?_
  exact jx_iret C dX10_cut_10 ⟨rfl, rfl, rfl, rfl⟩
set_option maxRecDepth 100000 in
set_option maxHeartbeats 4000000 in
theorem c_10_cutN {l : Launch} {D : va_G} {K : Nat → ClassId} {A : Nat → Nat} {I : TI} {U : TU} {P : TP} {a b : Nat} (ha : a < 4) (hb : b < 5) (h : P (5 * a + b) = none) : MM l yX10_cut cX10_cut 4 (some .int) 5 D K A (I) (U) (P) [.ref (A 0), .int (nI a), .int (nI b)] (XE (some (.int (0))) (I) (U) (va_up P (5 * a + b) none)) := by
  refine MM.go (own := RX10) (lv0 := [some (.ref (A 0)), some (.int (nI a)), some (.int (nI b)), none]) rfl (by decide) rfl (Nat.le_of_ble_eq_true rfl) rfl ?_
  intro p e s m args below meth c C
  refine jx_iload_n C dX10_cut_0 rfl ?_
  refine jx_iload_n C dX10_cut_1 rfl ?_
  refine jx_one C (jr_S C (c_8_isLane) sw_10_54 rfl ⟨Nat.le_of_ble_eq_true rfl, Nat.le_of_ble_eq_true rfl⟩ ⟨Nat.le_of_ble_eq_true rfl, Nat.le_of_ble_eq_true rfl⟩ dX10_cut_2 rfl (Nat.le_of_ble_eq_true rfl)) ?_
  rw [bI_t ⟨inF_nI ha, inS_nI hb⟩]
  refine jx_if_neT (tgt := 11) C dX10_cut_5 (by decide) (by decide) ?_
  refine jx_aload_n C dX10_cut_11 rfl ?_
  refine jx_get C fl_10_10_9 dX10_cut_12 (by decide) gg_0 rfl ?_
  refine jx_iload_n C dX10_cut_15 rfl ?_
  refine jx_iload_n C dX10_cut_16 rfl ?_
  refine jx_one C (jr_V C (c_8_laneAt ha hb) vw_10_70 (by decide) gg_1 rfl rfl ⟨Nat.le_of_ble_eq_true rfl, Nat.le_of_ble_eq_true rfl⟩ ⟨Nat.le_of_ble_eq_true rfl, Nat.le_of_ble_eq_true rfl⟩ dX10_cut_17 rfl (Nat.le_of_ble_eq_true rfl)) ?_
  rw [h]
  refine jx_ifnullN (tgt := 27) C dX10_cut_20 (by decide) ?_
  refine jx_iconst (v := 0) C dX10_cut_27 (by decide) ?_
  refine jx_istore_n (lv1 := [_, _, _, _]) C dX10_cut_28 (by decide) rfl ?_
  refine jx_aload_n C dX10_cut_29 rfl ?_
  refine jx_get C fl_10_10_9 dX10_cut_30 (by decide) gg_0 rfl ?_
  refine jx_iload_n C dX10_cut_33 rfl ?_
  refine jx_iload_n C dX10_cut_34 rfl ?_
  refine jx_void C (jr_V C (c_8_loosen ha hb) vw_10_74 (by decide) gg_1 rfl rfl ⟨Nat.le_of_ble_eq_true rfl, Nat.le_of_ble_eq_true rfl⟩ ⟨Nat.le_of_ble_eq_true rfl, Nat.le_of_ble_eq_true rfl⟩ dX10_cut_35 rfl (Nat.le_of_ble_eq_true rfl)) ?_
  refine jx_iload_n C dX10_cut_38 rfl ?_
  refine jx_if_eqT (tgt := 46) C dX10_cut_39 (by decide) (by decide) ?_
  refine jx_iconst (v := 0) C dX10_cut_46 (by decide) ?_
  exact jx_iret C dX10_cut_47 ⟨rfl, rfl, rfl, rfl⟩
set_option maxRecDepth 100000 in
set_option maxHeartbeats 4000000 in
theorem c_10_cutS {l : Launch} {D : va_G} {K : Nat → ClassId} {A : Nat → Nat} {I : TI} {U : TU} {P : TP} {a b : Nat} (ha : a < 4) (hb : b < 5) {k : Nat} (h : P (5 * a + b) = some k) : MM l yX10_cut cX10_cut 4 (some .int) 5 D K A (I) (U) (P) [.ref (A 0), .int (nI a), .int (nI b)] (XE (some (.int (1))) (I) (U) (va_up P (5 * a + b) none)) := by
  refine MM.go (own := RX10) (lv0 := [some (.ref (A 0)), some (.int (nI a)), some (.int (nI b)), none]) rfl (by decide) rfl (Nat.le_of_ble_eq_true rfl) rfl ?_
  intro p e s m args below meth c C
  refine jx_iload_n C dX10_cut_0 rfl ?_
  refine jx_iload_n C dX10_cut_1 rfl ?_
  refine jx_one C (jr_S C (c_8_isLane) sw_10_54 rfl ⟨Nat.le_of_ble_eq_true rfl, Nat.le_of_ble_eq_true rfl⟩ ⟨Nat.le_of_ble_eq_true rfl, Nat.le_of_ble_eq_true rfl⟩ dX10_cut_2 rfl (Nat.le_of_ble_eq_true rfl)) ?_
  rw [bI_t ⟨inF_nI ha, inS_nI hb⟩]
  refine jx_if_neT (tgt := 11) C dX10_cut_5 (by decide) (by decide) ?_
  refine jx_aload_n C dX10_cut_11 rfl ?_
  refine jx_get C fl_10_10_9 dX10_cut_12 (by decide) gg_0 rfl ?_
  refine jx_iload_n C dX10_cut_15 rfl ?_
  refine jx_iload_n C dX10_cut_16 rfl ?_
  refine jx_one C (jr_V C (c_8_laneAt ha hb) vw_10_70 (by decide) gg_1 rfl rfl ⟨Nat.le_of_ble_eq_true rfl, Nat.le_of_ble_eq_true rfl⟩ ⟨Nat.le_of_ble_eq_true rfl, Nat.le_of_ble_eq_true rfl⟩ dX10_cut_17 rfl (Nat.le_of_ble_eq_true rfl)) ?_
  rw [h]
  refine jx_ifnull C dX10_cut_20 ?_
  refine jx_iconst (v := 1) C dX10_cut_23 (by decide) ?_
  refine jx_goto (tgt := 28) C dX10_cut_24 (by decide) ?_
  refine jx_istore_n (lv1 := [_, _, _, _]) C dX10_cut_28 (by decide) rfl ?_
  refine jx_aload_n C dX10_cut_29 rfl ?_
  refine jx_get C fl_10_10_9 dX10_cut_30 (by decide) gg_0 rfl ?_
  refine jx_iload_n C dX10_cut_33 rfl ?_
  refine jx_iload_n C dX10_cut_34 rfl ?_
  refine jx_void C (jr_V C (c_8_loosen ha hb) vw_10_74 (by decide) gg_1 rfl rfl ⟨Nat.le_of_ble_eq_true rfl, Nat.le_of_ble_eq_true rfl⟩ ⟨Nat.le_of_ble_eq_true rfl, Nat.le_of_ble_eq_true rfl⟩ dX10_cut_35 rfl (Nat.le_of_ble_eq_true rfl)) ?_
  refine jx_iload_n C dX10_cut_38 rfl ?_
  refine jx_if_eqF (tgt := 46) C dX10_cut_39 (by decide) (by decide) ?_
  refine jx_iconst (v := 1) C dX10_cut_42 (by decide) ?_
  refine jx_goto (tgt := 47) C dX10_cut_43 (by decide) ?_
  exact jx_iret C dX10_cut_47 ⟨rfl, rfl, rfl, rfl⟩
set_option maxRecDepth 100000 in
set_option maxHeartbeats 4000000 in
theorem c_10_tieX1 {l : Launch} {D : va_G} {K : Nat → ClassId} {A : Nat → Nat} {I : TI} {U : TU} {P : TP} {f s0 : Int32} (hx : ¬ inL f s0) {n : Int32} : MM l yX10_tie cX10_tie 5 (some .int) 5 D K A (I) (U) (P) [.ref (A 0), .int f, .int s0, .int n] (XE (some (.int ((-2147483648)))) (I) (U) (P)) := by
  refine MM.go (own := RX10) (lv0 := [some (.ref (A 0)), some (.int f), some (.int s0), some (.int n), none]) rfl (by decide) rfl (Nat.le_of_ble_eq_true rfl) rfl ?_
  intro p e s m args below meth c C
  refine jx_iload_n C dX10_tie_0 rfl ?_
  refine jx_iload_n C dX10_tie_1 rfl ?_
  refine jx_one C (jr_S C (c_8_isLane) sw_10_54 rfl ⟨Nat.le_of_ble_eq_true rfl, Nat.le_of_ble_eq_true rfl⟩ ⟨Nat.le_of_ble_eq_true rfl, Nat.le_of_ble_eq_true rfl⟩ dX10_tie_2 rfl (Nat.le_of_ble_eq_true rfl)) ?_
  rw [bI_f hx]
  refine jx_if_eqT (tgt := 15) C dX10_tie_5 (by decide) (by decide) ?_
  refine jx_ldc C dX10_tie_15 qw_215 ?_
  exact jx_iret C dX10_tie_17 ⟨rfl, rfl, rfl, rfl⟩
set_option maxRecDepth 100000 in
set_option maxHeartbeats 4000000 in
theorem c_10_tieX2 {l : Launch} {D : va_G} {K : Nat → ClassId} {A : Nat → Nat} {I : TI} {U : TU} {P : TP} {a b : Nat} (ha : a < 4) (hb : b < 5) {n : Int32} (hx : ¬ inF n) : MM l yX10_tie cX10_tie 5 (some .int) 5 D K A (I) (U) (P) [.ref (A 0), .int (nI a), .int (nI b), .int n] (XE (some (.int ((-2147483648)))) (I) (U) (P)) := by
  refine MM.go (own := RX10) (lv0 := [some (.ref (A 0)), some (.int (nI a)), some (.int (nI b)), some (.int n), none]) rfl (by decide) rfl (Nat.le_of_ble_eq_true rfl) rfl ?_
  intro p e s m args below meth c C
  refine jx_iload_n C dX10_tie_0 rfl ?_
  refine jx_iload_n C dX10_tie_1 rfl ?_
  refine jx_one C (jr_S C (c_8_isLane) sw_10_54 rfl ⟨Nat.le_of_ble_eq_true rfl, Nat.le_of_ble_eq_true rfl⟩ ⟨Nat.le_of_ble_eq_true rfl, Nat.le_of_ble_eq_true rfl⟩ dX10_tie_2 rfl (Nat.le_of_ble_eq_true rfl)) ?_
  rw [bI_t ⟨inF_nI ha, inS_nI hb⟩]
  refine jx_if_eqF (tgt := 15) C dX10_tie_5 (by decide) (by decide) ?_
  refine jx_iload_n C dX10_tie_8 rfl ?_
  refine jx_one C (jr_S C (c_8_isFrame) sw_10_78 rfl ⟨Nat.le_of_ble_eq_true rfl, Nat.le_of_ble_eq_true rfl⟩ ⟨Nat.le_of_ble_eq_true rfl, Nat.le_of_ble_eq_true rfl⟩ dX10_tie_9 rfl (Nat.le_of_ble_eq_true rfl)) ?_
  rw [bI_f hx]
  refine jx_if_neF (tgt := 18) C dX10_tie_12 (by decide) (by decide) ?_
  refine jx_ldc C dX10_tie_15 qw_215 ?_
  exact jx_iret C dX10_tie_17 ⟨rfl, rfl, rfl, rfl⟩
set_option maxRecDepth 100000 in
set_option maxHeartbeats 4000000 in
theorem c_10_tieN {l : Launch} {D : va_G} {K : Nat → ClassId} {A : Nat → Nat} {I : TI} {U : TU} {P : TP} {a b : Nat} (ha : a < 4) (hb : b < 5) {c : Nat} (hc : c < 4) (hP : okP P) (h : P (5 * c + b) = none) : MM l yX10_tie cX10_tie 5 (some .int) 5 D K A (I) (U) (P) [.ref (A 0), .int (nI a), .int (nI b), .int (nI c)] (XE (some (.int (0))) (bg I) (U) (va_up P (5 * a + b) (P (5 * c + b)))) := by
  refine MM.go (own := RX10) (lv0 := [some (.ref (A 0)), some (.int (nI a)), some (.int (nI b)), some (.int (nI c)), none]) rfl (by decide) rfl (Nat.le_of_ble_eq_true rfl) rfl ?_
  intro p e s m args below meth c C
  refine jx_iload_n C dX10_tie_0 rfl ?_
  refine jx_iload_n C dX10_tie_1 rfl ?_
  refine jx_one C (jr_S C (c_8_isLane) sw_10_54 rfl ⟨Nat.le_of_ble_eq_true rfl, Nat.le_of_ble_eq_true rfl⟩ ⟨Nat.le_of_ble_eq_true rfl, Nat.le_of_ble_eq_true rfl⟩ dX10_tie_2 rfl (Nat.le_of_ble_eq_true rfl)) ?_
  rw [bI_t ⟨inF_nI ha, inS_nI hb⟩]
  refine jx_if_eqF (tgt := 15) C dX10_tie_5 (by decide) (by decide) ?_
  refine jx_iload_n C dX10_tie_8 rfl ?_
  refine jx_one C (jr_S C (c_8_isFrame) sw_10_78 rfl ⟨Nat.le_of_ble_eq_true rfl, Nat.le_of_ble_eq_true rfl⟩ ⟨Nat.le_of_ble_eq_true rfl, Nat.le_of_ble_eq_true rfl⟩ dX10_tie_9 rfl (Nat.le_of_ble_eq_true rfl)) ?_
  rw [bI_t (inF_nI hc)]
  refine jx_if_neT (tgt := 18) C dX10_tie_12 (by decide) (by decide) ?_
  refine jx_aload_n C dX10_tie_18 rfl ?_
  refine jx_get C fl_10_40_9 dX10_tie_19 (by decide) gg_0 rfl ?_
  refine jx_void C (jr_V C (c_4_begin) vw_10_59 (by decide) gg_63 rfl rfl ⟨Nat.le_of_ble_eq_true rfl, Nat.le_of_ble_eq_true rfl⟩ ⟨Nat.le_of_ble_eq_true rfl, Nat.le_of_ble_eq_true rfl⟩ dX10_tie_22 rfl (Nat.le_of_ble_eq_true rfl)) ?_
  refine jx_aload_n C dX10_tie_25 rfl ?_
  refine jx_get C fl_10_10_9 dX10_tie_26 (by decide) gg_0 rfl ?_
  refine jx_iload_n C dX10_tie_29 rfl ?_
  refine jx_iload_n C dX10_tie_30 rfl ?_
  refine jx_iload_n C dX10_tie_31 rfl ?_
  refine jx_void C (jr_V C (c_8_join ha hb hc hP) vw_10_82 (by decide) gg_1 rfl rfl ⟨Nat.le_of_ble_eq_true rfl, Nat.le_of_ble_eq_true rfl⟩ ⟨Nat.le_of_ble_eq_true rfl, Nat.le_of_ble_eq_true rfl⟩ dX10_tie_32 rfl (Nat.le_of_ble_eq_true rfl)) ?_
  refine jx_aload_n C dX10_tie_35 rfl ?_
  refine jx_get C fl_10_10_9 dX10_tie_36 (by decide) gg_0 rfl ?_
  refine jx_iload_n C dX10_tie_39 rfl ?_
  refine jx_iload_n C dX10_tie_40 rfl ?_
  refine jx_one C (jr_V C (c_8_laneAt ha hb) vw_10_70 (by decide) gg_1 rfl rfl ⟨Nat.le_of_ble_eq_true rfl, Nat.le_of_ble_eq_true rfl⟩ ⟨Nat.le_of_ble_eq_true rfl, Nat.le_of_ble_eq_true rfl⟩ dX10_tie_41 rfl (Nat.le_of_ble_eq_true rfl)) ?_
  rw [va_up_self, h]
  refine jx_astoreN (lv1 := [_, _, _, _, _]) C dX10_tie_44 (by decide) rfl ?_
  refine jx_aloadN C dX10_tie_46 rfl ?_
  refine jx_ifnonnullN C dX10_tie_48 ?_
  refine jx_iconst (v := 0) C dX10_tie_51 (by decide) ?_
  refine jx_goto (tgt := 60) C dX10_tie_52 (by decide) ?_
  exact jx_iret C dX10_tie_60 ⟨rfl, rfl, rfl, rfl⟩
set_option maxRecDepth 100000 in
set_option maxHeartbeats 4000000 in
theorem c_10_tieS {l : Launch} {D : va_G} {K : Nat → ClassId} {A : Nat → Nat} {I : TI} {U : TU} {P : TP} {a b : Nat} (ha : a < 4) (hb : b < 5) {c : Nat} (hc : c < 4) (hP : okP P) {k : Nat} (hk : k < 20) (h : P (5 * c + b) = some k) : MM l yX10_tie cX10_tie 5 (some .int) 5 D K A (I) (U) (P) [.ref (A 0), .int (nI a), .int (nI b), .int (nI c)] (XE (some (.int (I (4 + 2 * k) 0))) (bg I) (U) (va_up P (5 * a + b) (P (5 * c + b)))) := by
  refine MM.go (own := RX10) (lv0 := [some (.ref (A 0)), some (.int (nI a)), some (.int (nI b)), some (.int (nI c)), none]) rfl (by decide) rfl (Nat.le_of_ble_eq_true rfl) rfl ?_
  intro p e s m args below meth c C
  refine jx_iload_n C dX10_tie_0 rfl ?_
  refine jx_iload_n C dX10_tie_1 rfl ?_
  refine jx_one C (jr_S C (c_8_isLane) sw_10_54 rfl ⟨Nat.le_of_ble_eq_true rfl, Nat.le_of_ble_eq_true rfl⟩ ⟨Nat.le_of_ble_eq_true rfl, Nat.le_of_ble_eq_true rfl⟩ dX10_tie_2 rfl (Nat.le_of_ble_eq_true rfl)) ?_
  rw [bI_t ⟨inF_nI ha, inS_nI hb⟩]
  refine jx_if_eqF (tgt := 15) C dX10_tie_5 (by decide) (by decide) ?_
  refine jx_iload_n C dX10_tie_8 rfl ?_
  refine jx_one C (jr_S C (c_8_isFrame) sw_10_78 rfl ⟨Nat.le_of_ble_eq_true rfl, Nat.le_of_ble_eq_true rfl⟩ ⟨Nat.le_of_ble_eq_true rfl, Nat.le_of_ble_eq_true rfl⟩ dX10_tie_9 rfl (Nat.le_of_ble_eq_true rfl)) ?_
  rw [bI_t (inF_nI hc)]
  refine jx_if_neT (tgt := 18) C dX10_tie_12 (by decide) (by decide) ?_
  refine jx_aload_n C dX10_tie_18 rfl ?_
  refine jx_get C fl_10_40_9 dX10_tie_19 (by decide) gg_0 rfl ?_
  refine jx_void C (jr_V C (c_4_begin) vw_10_59 (by decide) gg_63 rfl rfl ⟨Nat.le_of_ble_eq_true rfl, Nat.le_of_ble_eq_true rfl⟩ ⟨Nat.le_of_ble_eq_true rfl, Nat.le_of_ble_eq_true rfl⟩ dX10_tie_22 rfl (Nat.le_of_ble_eq_true rfl)) ?_
  refine jx_aload_n C dX10_tie_25 rfl ?_
  refine jx_get C fl_10_10_9 dX10_tie_26 (by decide) gg_0 rfl ?_
  refine jx_iload_n C dX10_tie_29 rfl ?_
  refine jx_iload_n C dX10_tie_30 rfl ?_
  refine jx_iload_n C dX10_tie_31 rfl ?_
  refine jx_void C (jr_V C (c_8_join ha hb hc hP) vw_10_82 (by decide) gg_1 rfl rfl ⟨Nat.le_of_ble_eq_true rfl, Nat.le_of_ble_eq_true rfl⟩ ⟨Nat.le_of_ble_eq_true rfl, Nat.le_of_ble_eq_true rfl⟩ dX10_tie_32 rfl (Nat.le_of_ble_eq_true rfl)) ?_
  refine jx_aload_n C dX10_tie_35 rfl ?_
  refine jx_get C fl_10_10_9 dX10_tie_36 (by decide) gg_0 rfl ?_
  refine jx_iload_n C dX10_tie_39 rfl ?_
  refine jx_iload_n C dX10_tie_40 rfl ?_
  refine jx_one C (jr_V C (c_8_laneAt ha hb) vw_10_70 (by decide) gg_1 rfl rfl ⟨Nat.le_of_ble_eq_true rfl, Nat.le_of_ble_eq_true rfl⟩ ⟨Nat.le_of_ble_eq_true rfl, Nat.le_of_ble_eq_true rfl⟩ dX10_tie_41 rfl (Nat.le_of_ble_eq_true rfl)) ?_
  rw [va_up_self, h]
  refine jx_astore (lv1 := [_, _, _, _, _]) C dX10_tie_44 (by decide) rfl ?_
  refine jx_aload C dX10_tie_46 rfl ?_
  refine jx_ifnonnull (tgt := 55) C dX10_tie_48 (by decide) ?_
  refine jx_aload C dX10_tie_55 rfl ?_
  refine jx_one C (jv_count C dX10_tie_57 hk ⟨by decide, by decide⟩ ⟨Nat.zero_le _, Nat.zero_le _⟩ (Nat.le_of_ble_eq_true rfl)) ?_
  rw [up2_ne (by omega)]
  exact jx_iret C dX10_tie_60 ⟨rfl, rfl, rfl, rfl⟩
set_option maxRecDepth 100000 in
set_option maxHeartbeats 4000000 in
theorem c_10_endsX {l : Launch} {D : va_G} {K : Nat → ClassId} {A : Nat → Nat} {I : TI} {U : TU} {P : TP} {f s0 : Int32} (hx : ¬ inL f s0) : MM l yX10_ends cX10_ends 4 (some .int) 5 D K A (I) (U) (P) [.ref (A 0), .int f, .int s0] (XE (some (.int ((-2147483648)))) (I) (U) (P)) := by
  refine MM.go (own := RX10) (lv0 := [some (.ref (A 0)), some (.int f), some (.int s0), none]) rfl (by decide) rfl (Nat.le_of_ble_eq_true rfl) rfl ?_
  intro p e s m args below meth c C
  refine jx_iload_n C dX10_ends_0 rfl ?_
  refine jx_iload_n C dX10_ends_1 rfl ?_
  refine jx_one C (jr_S C (c_8_isLane) sw_10_54 rfl ⟨Nat.le_of_ble_eq_true rfl, Nat.le_of_ble_eq_true rfl⟩ ⟨Nat.le_of_ble_eq_true rfl, Nat.le_of_ble_eq_true rfl⟩ dX10_ends_2 rfl (Nat.le_of_ble_eq_true rfl)) ?_
  rw [bI_f hx]
  refine jx_if_neF (tgt := 11) C dX10_ends_5 (by decide) (by decide) ?_
  refine jx_ldc C dX10_ends_8 qw_215 ?_
  exact jx_iret C dX10_ends_10 ⟨rfl, rfl, rfl, rfl⟩
set_option maxRecDepth 100000 in
set_option maxHeartbeats 4000000 in
theorem c_10_endsN {l : Launch} {D : va_G} {K : Nat → ClassId} {A : Nat → Nat} {I : TI} {U : TU} {P : TP} {a b : Nat} (ha : a < 4) (hb : b < 5) (h : P (5 * a + b) = none) : MM l yX10_ends cX10_ends 4 (some .int) 5 D K A (I) (U) (P) [.ref (A 0), .int (nI a), .int (nI b)] (XE (some (.int (0))) (tel (bg I) 1) (U) (P)) := by
  refine MM.go (own := RX10) (lv0 := [some (.ref (A 0)), some (.int (nI a)), some (.int (nI b)), none]) rfl (by decide) rfl (Nat.le_of_ble_eq_true rfl) rfl ?_
  intro p e s m args below meth c C
  refine jx_iload_n C dX10_ends_0 rfl ?_
  refine jx_iload_n C dX10_ends_1 rfl ?_
  refine jx_one C (jr_S C (c_8_isLane) sw_10_54 rfl ⟨Nat.le_of_ble_eq_true rfl, Nat.le_of_ble_eq_true rfl⟩ ⟨Nat.le_of_ble_eq_true rfl, Nat.le_of_ble_eq_true rfl⟩ dX10_ends_2 rfl (Nat.le_of_ble_eq_true rfl)) ?_
  rw [bI_t ⟨inF_nI ha, inS_nI hb⟩]
  refine jx_if_neT (tgt := 11) C dX10_ends_5 (by decide) (by decide) ?_
  refine jx_aload_n C dX10_ends_11 rfl ?_
  refine jx_get C fl_10_40_9 dX10_ends_12 (by decide) gg_0 rfl ?_
  refine jx_void C (jr_V C (c_4_begin) vw_10_59 (by decide) gg_63 rfl rfl ⟨Nat.le_of_ble_eq_true rfl, Nat.le_of_ble_eq_true rfl⟩ ⟨Nat.le_of_ble_eq_true rfl, Nat.le_of_ble_eq_true rfl⟩ dX10_ends_15 rfl (Nat.le_of_ble_eq_true rfl)) ?_
  refine jx_aload_n C dX10_ends_18 rfl ?_
  refine jx_get C fl_10_10_9 dX10_ends_19 (by decide) gg_0 rfl ?_
  refine jx_iload_n C dX10_ends_22 rfl ?_
  refine jx_iload_n C dX10_ends_23 rfl ?_
  refine jx_one C (jr_V C (c_8_laneAt ha hb) vw_10_70 (by decide) gg_1 rfl rfl ⟨Nat.le_of_ble_eq_true rfl, Nat.le_of_ble_eq_true rfl⟩ ⟨Nat.le_of_ble_eq_true rfl, Nat.le_of_ble_eq_true rfl⟩ dX10_ends_24 rfl (Nat.le_of_ble_eq_true rfl)) ?_
  rw [h]
  refine jx_astore_nN (lv1 := [_, _, _, _]) C dX10_ends_27 (by decide) rfl ?_
  refine jx_aload_nN C dX10_ends_28 rfl ?_
  refine jx_ifnonnullN C dX10_ends_29 ?_
  refine jx_aload_n C dX10_ends_32 rfl ?_
  refine jx_get C fl_10_40_9 dX10_ends_33 (by decide) gg_0 rfl ?_
  refine jx_iconst (v := 1) C dX10_ends_36 (by decide) ?_
  refine jx_one C (jr_V C (c_4_tell (f := 1) (by decide) (by decide)) vw_10_62 (by decide) gg_63 rfl rfl ⟨Nat.le_of_ble_eq_true rfl, Nat.le_of_ble_eq_true rfl⟩ ⟨Nat.le_of_ble_eq_true rfl, Nat.le_of_ble_eq_true rfl⟩ dX10_ends_37 rfl (Nat.le_of_ble_eq_true rfl)) ?_
  refine jx_goto (tgt := 47) C dX10_ends_40 (by decide) ?_
  exact jx_iret C dX10_ends_47 ⟨rfl, rfl, rfl, rfl⟩
set_option maxRecDepth 100000 in
set_option maxHeartbeats 4000000 in
theorem c_10_endsS {l : Launch} {D : va_G} {K : Nat → ClassId} {A : Nat → Nat} {I : TI} {U : TU} {P : TP} {a b : Nat} (ha : a < 4) (hb : b < 5) {k : Nat} (hk : k < 20) (h : P (5 * a + b) = some k) : MM l yX10_ends cX10_ends 4 (some .int) 5 D K A (I) (U) (P) [.ref (A 0), .int (nI a), .int (nI b)] (XE (some (.int (I (4 + 2 * k) 0))) (bg I) (U) (P)) := by
  refine MM.go (own := RX10) (lv0 := [some (.ref (A 0)), some (.int (nI a)), some (.int (nI b)), none]) rfl (by decide) rfl (Nat.le_of_ble_eq_true rfl) rfl ?_
  intro p e s m args below meth c C
  refine jx_iload_n C dX10_ends_0 rfl ?_
  refine jx_iload_n C dX10_ends_1 rfl ?_
  refine jx_one C (jr_S C (c_8_isLane) sw_10_54 rfl ⟨Nat.le_of_ble_eq_true rfl, Nat.le_of_ble_eq_true rfl⟩ ⟨Nat.le_of_ble_eq_true rfl, Nat.le_of_ble_eq_true rfl⟩ dX10_ends_2 rfl (Nat.le_of_ble_eq_true rfl)) ?_
  rw [bI_t ⟨inF_nI ha, inS_nI hb⟩]
  refine jx_if_neT (tgt := 11) C dX10_ends_5 (by decide) (by decide) ?_
  refine jx_aload_n C dX10_ends_11 rfl ?_
  refine jx_get C fl_10_40_9 dX10_ends_12 (by decide) gg_0 rfl ?_
  refine jx_void C (jr_V C (c_4_begin) vw_10_59 (by decide) gg_63 rfl rfl ⟨Nat.le_of_ble_eq_true rfl, Nat.le_of_ble_eq_true rfl⟩ ⟨Nat.le_of_ble_eq_true rfl, Nat.le_of_ble_eq_true rfl⟩ dX10_ends_15 rfl (Nat.le_of_ble_eq_true rfl)) ?_
  refine jx_aload_n C dX10_ends_18 rfl ?_
  refine jx_get C fl_10_10_9 dX10_ends_19 (by decide) gg_0 rfl ?_
  refine jx_iload_n C dX10_ends_22 rfl ?_
  refine jx_iload_n C dX10_ends_23 rfl ?_
  refine jx_one C (jr_V C (c_8_laneAt ha hb) vw_10_70 (by decide) gg_1 rfl rfl ⟨Nat.le_of_ble_eq_true rfl, Nat.le_of_ble_eq_true rfl⟩ ⟨Nat.le_of_ble_eq_true rfl, Nat.le_of_ble_eq_true rfl⟩ dX10_ends_24 rfl (Nat.le_of_ble_eq_true rfl)) ?_
  rw [h]
  refine jx_astore_n (lv1 := [_, _, _, _]) C dX10_ends_27 (by decide) rfl ?_
  refine jx_aload_n C dX10_ends_28 rfl ?_
  refine jx_ifnonnull (tgt := 43) C dX10_ends_29 (by decide) ?_
  refine jx_aload_n C dX10_ends_43 rfl ?_
  refine jx_one C (jv_count C dX10_ends_44 hk ⟨by decide, by decide⟩ ⟨Nat.zero_le _, Nat.zero_le _⟩ (Nat.le_of_ble_eq_true rfl)) ?_
  rw [up2_ne (by omega)]
  exact jx_iret C dX10_ends_47 ⟨rfl, rfl, rfl, rfl⟩
set_option maxRecDepth 100000 in
set_option maxHeartbeats 4000000 in
theorem c_10_spoolX {l : Launch} {D : va_G} {K : Nat → ClassId} {A : Nat → Nat} {I : TI} {U : TU} {P : TP} {v : Int32} (h : I 44 2 = 16) : MM l yX10_spool cX10_spool 2 (some .int) 5 D K A (I) (U) (P) [.ref (A 0), .int v] (XE (some (.int ((-2147483648)))) (I) (U) (P)) := by
  refine MM.go (own := RX10) (lv0 := [some (.ref (A 0)), some (.int v)]) rfl (by decide) rfl (Nat.le_of_ble_eq_true rfl) rfl ?_
  intro p e s m args below meth c C
  refine jx_aload_n C dX10_spool_0 rfl ?_
  refine jx_get C fl_10_19_9 dX10_spool_1 (by decide) gg_0 rfl ?_
  refine jx_one C (jr_V C (c_6_isFull) vw_10_91 (by decide) gg_44 rfl rfl ⟨Nat.le_of_ble_eq_true rfl, Nat.le_of_ble_eq_true rfl⟩ ⟨Nat.le_of_ble_eq_true rfl, Nat.le_of_ble_eq_true rfl⟩ dX10_spool_4 rfl (Nat.le_of_ble_eq_true rfl)) ?_
  rw [bI_t h]
  refine jx_if_eqF (tgt := 13) C dX10_spool_7 (by decide) (by decide) ?_
  refine jx_ldc C dX10_spool_10 qw_215 ?_
  exact jx_iret C dX10_spool_12 ⟨rfl, rfl, rfl, rfl⟩
set_option maxRecDepth 100000 in
set_option maxHeartbeats 4000000 in
theorem c_10_spool {l : Launch} {D : va_G} {K : Nat → ClassId} {A : Nat → Nat} {I : TI} {U : TU} {P : TP} {v : Int32} {fi co : Nat} (hfi : I 44 1 = nI fi) (hco : I 44 2 = nI co) (h1 : fi < 16) (h2 : co < 16) : MM l yX10_spool cX10_spool 2 (some .int) 5 D K A (I) (U) (P) [.ref (A 0), .int v] (XE (some (.int (nI (co + 1)))) (up2 (up2 I 45 ((fi + co) % 16) v) 44 2 (nI (co + 1))) (U) (P)) := by
  refine MM.go (own := RX10) (lv0 := [some (.ref (A 0)), some (.int v)]) rfl (by decide) rfl (Nat.le_of_ble_eq_true rfl) rfl ?_
  intro p e s m args below meth c C
  refine jx_aload_n C dX10_spool_0 rfl ?_
  refine jx_get C fl_10_19_9 dX10_spool_1 (by decide) gg_0 rfl ?_
  refine jx_one C (jr_V C (c_6_isFull) vw_10_91 (by decide) gg_44 rfl rfl ⟨Nat.le_of_ble_eq_true rfl, Nat.le_of_ble_eq_true rfl⟩ ⟨Nat.le_of_ble_eq_true rfl, Nat.le_of_ble_eq_true rfl⟩ dX10_spool_4 rfl (Nat.le_of_ble_eq_true rfl)) ?_
  rw [bI_f (show ¬ I 44 2 = 16 by rw [hco, show (16 : Int32) = nI 16 from rfl, nI_eq (by omega) (by decide)]; omega)]
  refine jx_if_eqT (tgt := 13) C dX10_spool_7 (by decide) (by decide) ?_
  refine jx_aload_n C dX10_spool_13 rfl ?_
  refine jx_get C fl_10_19_9 dX10_spool_14 (by decide) gg_0 rfl ?_
  refine jx_iload_n C dX10_spool_17 rfl ?_
  refine jx_void C (jr_V C (c_6_wind hfi hco h1 h2) vw_10_95 (by decide) gg_44 rfl rfl ⟨Nat.le_of_ble_eq_true rfl, Nat.le_of_ble_eq_true rfl⟩ ⟨Nat.le_of_ble_eq_true rfl, Nat.le_of_ble_eq_true rfl⟩ dX10_spool_18 rfl (Nat.le_of_ble_eq_true rfl)) ?_
  refine jx_aload_n C dX10_spool_21 rfl ?_
  refine jx_get C fl_10_19_9 dX10_spool_22 (by decide) gg_0 rfl ?_
  refine jx_one C (jr_V C (c_6_count) vw_10_99 (by decide) gg_44 rfl rfl ⟨Nat.le_of_ble_eq_true rfl, Nat.le_of_ble_eq_true rfl⟩ ⟨Nat.le_of_ble_eq_true rfl, Nat.le_of_ble_eq_true rfl⟩ dX10_spool_25 rfl (Nat.le_of_ble_eq_true rfl)) ?_
  rw [up2_same]
  exact jx_iret C dX10_spool_28 ⟨rfl, rfl, rfl, rfl⟩
set_option maxRecDepth 100000 in
set_option maxHeartbeats 4000000 in
theorem c_10_actX1 {l : Launch} {D : va_G} {K : Nat → ClassId} {A : Nat → Nat} {I : TI} {U : TU} {P : TP} {kd f s0 x v : Int32} (hx : ¬ inK kd) : MM l yX10_act cX10_act 6 (some .int) 5 D K A (I) (U) (P) [.ref (A 0), .int kd, .int f, .int s0, .int x, .int v] (XE (some (.int ((-2147483648)))) (I) (U) (P)) := by
  refine MM.go (own := RX10) (lv0 := [some (.ref (A 0)), some (.int kd), some (.int f), some (.int s0), some (.int x), some (.int v)]) rfl (by decide) rfl (Nat.le_of_ble_eq_true rfl) rfl ?_
  intro p e s m args below meth c C
  refine jx_iload_n C dX10_act_0 rfl ?_
  refine jx_one C (jr_S C (c_10_isAct) sw_10_100 rfl ⟨Nat.le_of_ble_eq_true rfl, Nat.le_of_ble_eq_true rfl⟩ ⟨Nat.le_of_ble_eq_true rfl, Nat.le_of_ble_eq_true rfl⟩ dX10_act_1 rfl (Nat.le_of_ble_eq_true rfl)) ?_
  rw [bI_f hx]
  refine jx_if_eqT (tgt := 15) C dX10_act_4 (by decide) (by decide) ?_
  refine jx_ldc C dX10_act_15 qw_215 ?_
  exact jx_iret C dX10_act_17 ⟨rfl, rfl, rfl, rfl⟩
set_option maxRecDepth 100000 in
set_option maxHeartbeats 4000000 in
theorem c_10_actX2 {l : Launch} {D : va_G} {K : Nat → ClassId} {A : Nat → Nat} {I : TI} {U : TU} {P : TP} {kd x v : Int32} (hk : inK kd) {f s0 : Int32} (hx : ¬ inL f s0) : MM l yX10_act cX10_act 6 (some .int) 5 D K A (I) (U) (P) [.ref (A 0), .int kd, .int f, .int s0, .int x, .int v] (XE (some (.int ((-2147483648)))) (I) (U) (P)) := by
  refine MM.go (own := RX10) (lv0 := [some (.ref (A 0)), some (.int kd), some (.int f), some (.int s0), some (.int x), some (.int v)]) rfl (by decide) rfl (Nat.le_of_ble_eq_true rfl) rfl ?_
  intro p e s m args below meth c C
  refine jx_iload_n C dX10_act_0 rfl ?_
  refine jx_one C (jr_S C (c_10_isAct) sw_10_100 rfl ⟨Nat.le_of_ble_eq_true rfl, Nat.le_of_ble_eq_true rfl⟩ ⟨Nat.le_of_ble_eq_true rfl, Nat.le_of_ble_eq_true rfl⟩ dX10_act_1 rfl (Nat.le_of_ble_eq_true rfl)) ?_
  rw [bI_t hk]
  refine jx_if_eqF (tgt := 15) C dX10_act_4 (by decide) (by decide) ?_
  refine jx_iload_n C dX10_act_7 rfl ?_
  refine jx_iload_n C dX10_act_8 rfl ?_
  refine jx_one C (jr_S C (c_8_isLane) sw_10_54 rfl ⟨Nat.le_of_ble_eq_true rfl, Nat.le_of_ble_eq_true rfl⟩ ⟨Nat.le_of_ble_eq_true rfl, Nat.le_of_ble_eq_true rfl⟩ dX10_act_9 rfl (Nat.le_of_ble_eq_true rfl)) ?_
  rw [bI_f hx]
  refine jx_if_neF (tgt := 18) C dX10_act_12 (by decide) (by decide) ?_
  refine jx_ldc C dX10_act_15 qw_215 ?_
  exact jx_iret C dX10_act_17 ⟨rfl, rfl, rfl, rfl⟩
set_option maxRecDepth 100000 in
set_option maxHeartbeats 4000000 in
theorem c_10_act {l : Launch} {D : va_G} {K : Nat → ClassId} {A : Nat → Nat} {I : TI} {U : TU} {P : TP} {kd : Nat} {x v : Int32} (hk : kd < 5) {a b : Nat} (ha : a < 4) (hb : b < 5) (hs : okS I) (hl : ∀ k, P (5 * a + b) = some k → okL I U k) : MM l yX10_act cX10_act 6 (some .int) 5 D K A (I) (U) (P) [.ref (A 0), .int (nI kd), .int (nI a), .int (nI b), .int x, .int v] (XE (some (.int (wk kd (P (5 * a + b)) x v I U).1)) (wk kd (P (5 * a + b)) x v I U).2.1 (wk kd (P (5 * a + b)) x v I U).2.2 P) := by
  refine MM.go (own := RX10) (lv0 := [some (.ref (A 0)), some (.int (nI kd)), some (.int (nI a)), some (.int (nI b)), some (.int x), some (.int v)]) rfl (by decide) rfl (Nat.le_of_ble_eq_true rfl) rfl ?_
  intro p e s m args below meth c C
  refine jx_iload_n C dX10_act_0 rfl ?_
  refine jx_one C (jr_S C (c_10_isAct) sw_10_100 rfl ⟨Nat.le_of_ble_eq_true rfl, Nat.le_of_ble_eq_true rfl⟩ ⟨Nat.le_of_ble_eq_true rfl, Nat.le_of_ble_eq_true rfl⟩ dX10_act_1 rfl (Nat.le_of_ble_eq_true rfl)) ?_
  rw [bI_t (inK_nI hk)]
  refine jx_if_eqF (tgt := 15) C dX10_act_4 (by decide) (by decide) ?_
  refine jx_iload_n C dX10_act_7 rfl ?_
  refine jx_iload_n C dX10_act_8 rfl ?_
  refine jx_one C (jr_S C (c_8_isLane) sw_10_54 rfl ⟨Nat.le_of_ble_eq_true rfl, Nat.le_of_ble_eq_true rfl⟩ ⟨Nat.le_of_ble_eq_true rfl, Nat.le_of_ble_eq_true rfl⟩ dX10_act_9 rfl (Nat.le_of_ble_eq_true rfl)) ?_
  rw [bI_t ⟨inF_nI ha, inS_nI hb⟩]
  refine jx_if_neT (tgt := 18) C dX10_act_12 (by decide) (by decide) ?_
  refine jx_aload_n C dX10_act_18 rfl ?_
  refine jx_iload_n C dX10_act_19 rfl ?_
  refine jx_aload_n C dX10_act_20 rfl ?_
  refine jx_get C fl_10_10_9 dX10_act_21 (by decide) gg_0 rfl ?_
  refine jx_iload_n C dX10_act_24 rfl ?_
  refine jx_iload_n C dX10_act_25 rfl ?_
  refine jx_one C (jr_V C (c_8_laneAt ha hb) vw_10_70 (by decide) gg_1 rfl rfl ⟨Nat.le_of_ble_eq_true rfl, Nat.le_of_ble_eq_true rfl⟩ ⟨Nat.le_of_ble_eq_true rfl, Nat.le_of_ble_eq_true rfl⟩ dX10_act_26 rfl (Nat.le_of_ble_eq_true rfl)) ?_
  refine jx_iload C dX10_act_29 rfl ?_
  refine jx_iload C dX10_act_31 rfl ?_
  refine jx_one C (jr_V C (c_10_work hk hs hl) vw_10_103 (by decide) gg_0 rfl rfl ⟨Nat.le_of_ble_eq_true rfl, Nat.le_of_ble_eq_true rfl⟩ ⟨Nat.le_of_ble_eq_true rfl, Nat.le_of_ble_eq_true rfl⟩ dX10_act_33 rfl (Nat.le_of_ble_eq_true rfl)) ?_
  exact jx_iret C dX10_act_36 ⟨rfl, rfl, rfl, rfl⟩
set_option maxRecDepth 100000 in
set_option maxHeartbeats 4000000 in
theorem c_10_swapX {l : Launch} {D : va_G} {K : Nat → ClassId} {A : Nat → Nat} {I : TI} {U : TU} {P : TP} {f s0 : Int32} (hx : ¬ inL f s0) {x y : Int32} : MM l yX10_swap cX10_swap 7 (some .int) 5 D K A (I) (U) (P) [.ref (A 0), .int f, .int s0, .int x, .int y] (XE (some (.int ((-2147483648)))) (I) (U) (P)) := by
  refine MM.go (own := RX10) (lv0 := [some (.ref (A 0)), some (.int f), some (.int s0), some (.int x), some (.int y), none, none]) rfl (by decide) rfl (Nat.le_of_ble_eq_true rfl) rfl ?_
  intro p e s m args below meth c C
  refine jx_iload_n C dX10_swap_0 rfl ?_
  refine jx_iload_n C dX10_swap_1 rfl ?_
  refine jx_one C (jr_S C (c_8_isLane) sw_10_54 rfl ⟨Nat.le_of_ble_eq_true rfl, Nat.le_of_ble_eq_true rfl⟩ ⟨Nat.le_of_ble_eq_true rfl, Nat.le_of_ble_eq_true rfl⟩ dX10_swap_2 rfl (Nat.le_of_ble_eq_true rfl)) ?_
  rw [bI_f hx]
  refine jx_if_neF (tgt := 11) C dX10_swap_5 (by decide) (by decide) ?_
  refine jx_ldc C dX10_swap_8 qw_215 ?_
  exact jx_iret C dX10_swap_10 ⟨rfl, rfl, rfl, rfl⟩
set_option maxRecDepth 100000 in
set_option maxHeartbeats 4000000 in
theorem c_10_swapN {l : Launch} {D : va_G} {K : Nat → ClassId} {A : Nat → Nat} {I : TI} {U : TU} {P : TP} {a b : Nat} (ha : a < 4) (hb : b < 5) {x y : Int32} (h : P (5 * a + b) = none) : MM l yX10_swap cX10_swap 7 (some .int) 5 D K A (I) (U) (P) [.ref (A 0), .int (nI a), .int (nI b), .int x, .int y] (XE (some (.int (0))) (tel (bg I) 1) (U) (P)) := by
  refine MM.go (own := RX10) (lv0 := [some (.ref (A 0)), some (.int (nI a)), some (.int (nI b)), some (.int x), some (.int y), none, none]) rfl (by decide) rfl (Nat.le_of_ble_eq_true rfl) rfl ?_
  intro p e s m args below meth c C
  refine jx_iload_n C dX10_swap_0 rfl ?_
  refine jx_iload_n C dX10_swap_1 rfl ?_
  refine jx_one C (jr_S C (c_8_isLane) sw_10_54 rfl ⟨Nat.le_of_ble_eq_true rfl, Nat.le_of_ble_eq_true rfl⟩ ⟨Nat.le_of_ble_eq_true rfl, Nat.le_of_ble_eq_true rfl⟩ dX10_swap_2 rfl (Nat.le_of_ble_eq_true rfl)) ?_
  rw [bI_t ⟨inF_nI ha, inS_nI hb⟩]
  refine jx_if_neT (tgt := 11) C dX10_swap_5 (by decide) (by decide) ?_
  refine jx_aload_n C dX10_swap_11 rfl ?_
  refine jx_get C fl_10_40_9 dX10_swap_12 (by decide) gg_0 rfl ?_
  refine jx_void C (jr_V C (c_4_begin) vw_10_59 (by decide) gg_63 rfl rfl ⟨Nat.le_of_ble_eq_true rfl, Nat.le_of_ble_eq_true rfl⟩ ⟨Nat.le_of_ble_eq_true rfl, Nat.le_of_ble_eq_true rfl⟩ dX10_swap_15 rfl (Nat.le_of_ble_eq_true rfl)) ?_
  refine jx_aload_n C dX10_swap_18 rfl ?_
  refine jx_get C fl_10_10_9 dX10_swap_19 (by decide) gg_0 rfl ?_
  refine jx_iload_n C dX10_swap_22 rfl ?_
  refine jx_iload_n C dX10_swap_23 rfl ?_
  refine jx_one C (jr_V C (c_8_laneAt ha hb) vw_10_70 (by decide) gg_1 rfl rfl ⟨Nat.le_of_ble_eq_true rfl, Nat.le_of_ble_eq_true rfl⟩ ⟨Nat.le_of_ble_eq_true rfl, Nat.le_of_ble_eq_true rfl⟩ dX10_swap_24 rfl (Nat.le_of_ble_eq_true rfl)) ?_
  rw [h]
  refine jx_astoreN (lv1 := [_, _, _, _, _, _, _]) C dX10_swap_27 (by decide) rfl ?_
  refine jx_aloadN C dX10_swap_29 rfl ?_
  refine jx_ifnonnullN C dX10_swap_31 ?_
  refine jx_aload_n C dX10_swap_34 rfl ?_
  refine jx_get C fl_10_40_9 dX10_swap_35 (by decide) gg_0 rfl ?_
  refine jx_iconst (v := 1) C dX10_swap_38 (by decide) ?_
  refine jx_one C (jr_V C (c_4_tell (f := 1) (by decide) (by decide)) vw_10_62 (by decide) gg_63 rfl rfl ⟨Nat.le_of_ble_eq_true rfl, Nat.le_of_ble_eq_true rfl⟩ ⟨Nat.le_of_ble_eq_true rfl, Nat.le_of_ble_eq_true rfl⟩ dX10_swap_39 rfl (Nat.le_of_ble_eq_true rfl)) ?_
  exact jx_iret C dX10_swap_42 ⟨rfl, rfl, rfl, rfl⟩
set_option maxRecDepth 100000 in
set_option maxHeartbeats 4000000 in
theorem c_10_swapO1 {l : Launch} {D : va_G} {K : Nat → ClassId} {A : Nat → Nat} {I : TI} {U : TU} {P : TP} {a b : Nat} (ha : a < 4) (hb : b < 5) {x y : Int32} {k : Nat} (hk : k < 20) (h : P (5 * a + b) = some k) (hi : ¬ inR (I (4 + 2 * k) 0) x) : MM l yX10_swap cX10_swap 7 (some .int) 5 D K A (I) (U) (P) [.ref (A 0), .int (nI a), .int (nI b), .int x, .int y] (XE (some (.int (0))) (tel (bg I) 2) (U) (P)) := by
  refine MM.go (own := RX10) (lv0 := [some (.ref (A 0)), some (.int (nI a)), some (.int (nI b)), some (.int x), some (.int y), none, none]) rfl (by decide) rfl (Nat.le_of_ble_eq_true rfl) rfl ?_
  intro p e s m args below meth c C
  refine jx_iload_n C dX10_swap_0 rfl ?_
  refine jx_iload_n C dX10_swap_1 rfl ?_
  refine jx_one C (jr_S C (c_8_isLane) sw_10_54 rfl ⟨Nat.le_of_ble_eq_true rfl, Nat.le_of_ble_eq_true rfl⟩ ⟨Nat.le_of_ble_eq_true rfl, Nat.le_of_ble_eq_true rfl⟩ dX10_swap_2 rfl (Nat.le_of_ble_eq_true rfl)) ?_
  rw [bI_t ⟨inF_nI ha, inS_nI hb⟩]
  refine jx_if_neT (tgt := 11) C dX10_swap_5 (by decide) (by decide) ?_
  refine jx_aload_n C dX10_swap_11 rfl ?_
  refine jx_get C fl_10_40_9 dX10_swap_12 (by decide) gg_0 rfl ?_
  refine jx_void C (jr_V C (c_4_begin) vw_10_59 (by decide) gg_63 rfl rfl ⟨Nat.le_of_ble_eq_true rfl, Nat.le_of_ble_eq_true rfl⟩ ⟨Nat.le_of_ble_eq_true rfl, Nat.le_of_ble_eq_true rfl⟩ dX10_swap_15 rfl (Nat.le_of_ble_eq_true rfl)) ?_
  refine jx_aload_n C dX10_swap_18 rfl ?_
  refine jx_get C fl_10_10_9 dX10_swap_19 (by decide) gg_0 rfl ?_
  refine jx_iload_n C dX10_swap_22 rfl ?_
  refine jx_iload_n C dX10_swap_23 rfl ?_
  refine jx_one C (jr_V C (c_8_laneAt ha hb) vw_10_70 (by decide) gg_1 rfl rfl ⟨Nat.le_of_ble_eq_true rfl, Nat.le_of_ble_eq_true rfl⟩ ⟨Nat.le_of_ble_eq_true rfl, Nat.le_of_ble_eq_true rfl⟩ dX10_swap_24 rfl (Nat.le_of_ble_eq_true rfl)) ?_
  rw [h]
  refine jx_astore (lv1 := [_, _, _, _, _, _, _]) C dX10_swap_27 (by decide) rfl ?_
  refine jx_aload C dX10_swap_29 rfl ?_
  refine jx_ifnonnull (tgt := 43) C dX10_swap_31 (by decide) ?_
  refine jx_aload C dX10_swap_43 rfl ?_
  refine jx_iload_n C dX10_swap_45 rfl ?_
  refine jx_one C (jv_has C dX10_swap_46 hk ⟨by decide, by decide⟩ ⟨Nat.zero_le _, Nat.zero_le _⟩ (Nat.le_of_ble_eq_true rfl)) ?_
  rw [up2_ne (by omega), bI_f hi]
  refine jx_if_eqT (tgt := 62) C dX10_swap_49 (by decide) (by decide) ?_
  refine jx_aload_n C dX10_swap_62 rfl ?_
  refine jx_get C fl_10_40_9 dX10_swap_63 (by decide) gg_0 rfl ?_
  refine jx_iconst (v := 2) C dX10_swap_66 (by decide) ?_
  refine jx_one C (jr_V C (c_4_tell (f := 2) (by decide) (by decide)) vw_10_62 (by decide) gg_63 rfl rfl ⟨Nat.le_of_ble_eq_true rfl, Nat.le_of_ble_eq_true rfl⟩ ⟨Nat.le_of_ble_eq_true rfl, Nat.le_of_ble_eq_true rfl⟩ dX10_swap_67 rfl (Nat.le_of_ble_eq_true rfl)) ?_
  exact jx_iret C dX10_swap_70 ⟨rfl, rfl, rfl, rfl⟩
set_option maxRecDepth 100000 in
set_option maxHeartbeats 4000000 in
theorem c_10_swapO2 {l : Launch} {D : va_G} {K : Nat → ClassId} {A : Nat → Nat} {I : TI} {U : TU} {P : TP} {a b : Nat} (ha : a < 4) (hb : b < 5) {x y : Int32} {k : Nat} (hk : k < 20) (h : P (5 * a + b) = some k) (hi : inR (I (4 + 2 * k) 0) x) (hj : ¬ inR (I (4 + 2 * k) 0) y) : MM l yX10_swap cX10_swap 7 (some .int) 5 D K A (I) (U) (P) [.ref (A 0), .int (nI a), .int (nI b), .int x, .int y] (XE (some (.int (0))) (tel (bg I) 2) (U) (P)) := by
  refine MM.go (own := RX10) (lv0 := [some (.ref (A 0)), some (.int (nI a)), some (.int (nI b)), some (.int x), some (.int y), none, none]) rfl (by decide) rfl (Nat.le_of_ble_eq_true rfl) rfl ?_
  intro p e s m args below meth c C
  refine jx_iload_n C dX10_swap_0 rfl ?_
  refine jx_iload_n C dX10_swap_1 rfl ?_
  refine jx_one C (jr_S C (c_8_isLane) sw_10_54 rfl ⟨Nat.le_of_ble_eq_true rfl, Nat.le_of_ble_eq_true rfl⟩ ⟨Nat.le_of_ble_eq_true rfl, Nat.le_of_ble_eq_true rfl⟩ dX10_swap_2 rfl (Nat.le_of_ble_eq_true rfl)) ?_
  rw [bI_t ⟨inF_nI ha, inS_nI hb⟩]
  refine jx_if_neT (tgt := 11) C dX10_swap_5 (by decide) (by decide) ?_
  refine jx_aload_n C dX10_swap_11 rfl ?_
  refine jx_get C fl_10_40_9 dX10_swap_12 (by decide) gg_0 rfl ?_
  refine jx_void C (jr_V C (c_4_begin) vw_10_59 (by decide) gg_63 rfl rfl ⟨Nat.le_of_ble_eq_true rfl, Nat.le_of_ble_eq_true rfl⟩ ⟨Nat.le_of_ble_eq_true rfl, Nat.le_of_ble_eq_true rfl⟩ dX10_swap_15 rfl (Nat.le_of_ble_eq_true rfl)) ?_
  refine jx_aload_n C dX10_swap_18 rfl ?_
  refine jx_get C fl_10_10_9 dX10_swap_19 (by decide) gg_0 rfl ?_
  refine jx_iload_n C dX10_swap_22 rfl ?_
  refine jx_iload_n C dX10_swap_23 rfl ?_
  refine jx_one C (jr_V C (c_8_laneAt ha hb) vw_10_70 (by decide) gg_1 rfl rfl ⟨Nat.le_of_ble_eq_true rfl, Nat.le_of_ble_eq_true rfl⟩ ⟨Nat.le_of_ble_eq_true rfl, Nat.le_of_ble_eq_true rfl⟩ dX10_swap_24 rfl (Nat.le_of_ble_eq_true rfl)) ?_
  rw [h]
  refine jx_astore (lv1 := [_, _, _, _, _, _, _]) C dX10_swap_27 (by decide) rfl ?_
  refine jx_aload C dX10_swap_29 rfl ?_
  refine jx_ifnonnull (tgt := 43) C dX10_swap_31 (by decide) ?_
  refine jx_aload C dX10_swap_43 rfl ?_
  refine jx_iload_n C dX10_swap_45 rfl ?_
  refine jx_one C (jv_has C dX10_swap_46 hk ⟨by decide, by decide⟩ ⟨Nat.zero_le _, Nat.zero_le _⟩ (Nat.le_of_ble_eq_true rfl)) ?_
  rw [up2_ne (by omega), bI_t hi]
  refine jx_if_eqF (tgt := 62) C dX10_swap_49 (by decide) (by decide) ?_
  refine jx_aload C dX10_swap_52 rfl ?_
  refine jx_iload C dX10_swap_54 rfl ?_
  refine jx_one C (jv_has C dX10_swap_56 hk ⟨by decide, by decide⟩ ⟨Nat.zero_le _, Nat.zero_le _⟩ (Nat.le_of_ble_eq_true rfl)) ?_
  rw [up2_ne (by omega), bI_f hj]
  refine jx_if_neF (tgt := 71) C dX10_swap_59 (by decide) (by decide) ?_
  refine jx_aload_n C dX10_swap_62 rfl ?_
  refine jx_get C fl_10_40_9 dX10_swap_63 (by decide) gg_0 rfl ?_
  refine jx_iconst (v := 2) C dX10_swap_66 (by decide) ?_
  refine jx_one C (jr_V C (c_4_tell (f := 2) (by decide) (by decide)) vw_10_62 (by decide) gg_63 rfl rfl ⟨Nat.le_of_ble_eq_true rfl, Nat.le_of_ble_eq_true rfl⟩ ⟨Nat.le_of_ble_eq_true rfl, Nat.le_of_ble_eq_true rfl⟩ dX10_swap_67 rfl (Nat.le_of_ble_eq_true rfl)) ?_
  exact jx_iret C dX10_swap_70 ⟨rfl, rfl, rfl, rfl⟩
set_option maxRecDepth 100000 in
set_option maxHeartbeats 4000000 in
theorem c_10_swap {l : Launch} {D : va_G} {K : Nat → ClassId} {A : Nat → Nat} {I : TI} {U : TU} {P : TP} {a b : Nat} (ha : a < 4) (hb : b < 5) {n m0 : Nat} {k : Nat} (hk : k < 20) (h : P (5 * a + b) = some k) (hi : inR (I (4 + 2 * k) 0) (nI n)) (hj : inR (I (4 + 2 * k) 0) (nI m0)) (hn : n < 24) (hm : m0 < 24) (ok : okE I U k n) (ok2 : okE I U k m0) : MM l yX10_swap cX10_swap 7 (some .int) 5 D K A (I) (U) (P) [.ref (A 0), .int (nI a), .int (nI b), .int (nI n), .int (nI m0)] (XE (some (.int (tl (bg I) U k n))) (swI k n m0 (bg I)) (swU k n m0 U) (P)) := by
  refine MM.go (own := RX10) (lv0 := [some (.ref (A 0)), some (.int (nI a)), some (.int (nI b)), some (.int (nI n)), some (.int (nI m0)), none, none]) rfl (by decide) rfl (Nat.le_of_ble_eq_true rfl) rfl ?_
  intro p e s m args below meth c C
  refine jx_iload_n C dX10_swap_0 rfl ?_
  refine jx_iload_n C dX10_swap_1 rfl ?_
  refine jx_one C (jr_S C (c_8_isLane) sw_10_54 rfl ⟨Nat.le_of_ble_eq_true rfl, Nat.le_of_ble_eq_true rfl⟩ ⟨Nat.le_of_ble_eq_true rfl, Nat.le_of_ble_eq_true rfl⟩ dX10_swap_2 rfl (Nat.le_of_ble_eq_true rfl)) ?_
  rw [bI_t ⟨inF_nI ha, inS_nI hb⟩]
  refine jx_if_neT (tgt := 11) C dX10_swap_5 (by decide) (by decide) ?_
  refine jx_aload_n C dX10_swap_11 rfl ?_
  refine jx_get C fl_10_40_9 dX10_swap_12 (by decide) gg_0 rfl ?_
  refine jx_void C (jr_V C (c_4_begin) vw_10_59 (by decide) gg_63 rfl rfl ⟨Nat.le_of_ble_eq_true rfl, Nat.le_of_ble_eq_true rfl⟩ ⟨Nat.le_of_ble_eq_true rfl, Nat.le_of_ble_eq_true rfl⟩ dX10_swap_15 rfl (Nat.le_of_ble_eq_true rfl)) ?_
  refine jx_aload_n C dX10_swap_18 rfl ?_
  refine jx_get C fl_10_10_9 dX10_swap_19 (by decide) gg_0 rfl ?_
  refine jx_iload_n C dX10_swap_22 rfl ?_
  refine jx_iload_n C dX10_swap_23 rfl ?_
  refine jx_one C (jr_V C (c_8_laneAt ha hb) vw_10_70 (by decide) gg_1 rfl rfl ⟨Nat.le_of_ble_eq_true rfl, Nat.le_of_ble_eq_true rfl⟩ ⟨Nat.le_of_ble_eq_true rfl, Nat.le_of_ble_eq_true rfl⟩ dX10_swap_24 rfl (Nat.le_of_ble_eq_true rfl)) ?_
  rw [h]
  refine jx_astore (lv1 := [_, _, _, _, _, _, _]) C dX10_swap_27 (by decide) rfl ?_
  refine jx_aload C dX10_swap_29 rfl ?_
  refine jx_ifnonnull (tgt := 43) C dX10_swap_31 (by decide) ?_
  refine jx_aload C dX10_swap_43 rfl ?_
  refine jx_iload_n C dX10_swap_45 rfl ?_
  refine jx_one C (jv_has C dX10_swap_46 hk ⟨by decide, by decide⟩ ⟨Nat.zero_le _, Nat.zero_le _⟩ (Nat.le_of_ble_eq_true rfl)) ?_
  rw [up2_ne (by omega), bI_t hi]
  refine jx_if_eqF (tgt := 62) C dX10_swap_49 (by decide) (by decide) ?_
  refine jx_aload C dX10_swap_52 rfl ?_
  refine jx_iload C dX10_swap_54 rfl ?_
  refine jx_one C (jv_has C dX10_swap_56 hk ⟨by decide, by decide⟩ ⟨Nat.zero_le _, Nat.zero_le _⟩ (Nat.le_of_ble_eq_true rfl)) ?_
  rw [up2_ne (by omega), bI_t hj]
  refine jx_if_neT (tgt := 71) C dX10_swap_59 (by decide) (by decide) ?_
  refine jx_aload C dX10_swap_71 rfl ?_
  refine jx_iload_n C dX10_swap_73 rfl ?_
  refine jx_one C (jv_tells C dX10_swap_74 hk hn (okE_I ok (by omega)) ⟨by decide, by decide⟩ ⟨Nat.zero_le _, Nat.zero_le _⟩ (Nat.le_of_ble_eq_true rfl)) ?_
  refine jx_istore (lv1 := [_, _, _, _, _, _, _]) C dX10_swap_77 (by decide) rfl ?_
  refine jx_aload C dX10_swap_79 rfl ?_
  refine jx_iload_n C dX10_swap_81 rfl ?_
  refine jx_iload C dX10_swap_82 rfl ?_
  refine jx_void C (jv_exchange C dX10_swap_84 hk hn hm (okE_I ok (by omega)) (okE_I ok2 (by omega)) ⟨by decide, by decide⟩ ⟨Nat.zero_le _, Nat.zero_le _⟩ (Nat.le_of_ble_eq_true rfl)) ?_
  refine jx_iload C dX10_swap_87 rfl ?_
  exact jx_iret C dX10_swap_89 ⟨rfl, rfl, rfl, rfl⟩
set_option maxRecDepth 100000 in
set_option maxHeartbeats 4000000 in
theorem c_10_clothX1 {l : Launch} {D : va_G} {K : Nat → ClassId} {A : Nat → Nat} {I : TI} {U : TU} {P : TP} {n w : Int32} (h : 24 < n) : MM l yX10_cloth cX10_cloth 3 (some .int) 5 D K A (I) (U) (P) [.ref (A 0), .int n, .int w] (XE (some (.int ((-2147483648)))) (I) (U) (P)) := by
  refine MM.go (own := RX10) (lv0 := [some (.ref (A 0)), some (.int n), some (.int w)]) rfl (by decide) rfl (Nat.le_of_ble_eq_true rfl) rfl ?_
  intro p e s m args below meth c C
  refine jx_iload_n C dX10_cloth_0 rfl ?_
  refine jx_bipush (v := 24) C dX10_cloth_1 (by decide) ?_
  refine jx_ic_gtT (tgt := 12) C dX10_cloth_3 (by decide) h ?_
  refine jx_ldc C dX10_cloth_12 qw_215 ?_
  exact jx_iret C dX10_cloth_14 ⟨rfl, rfl, rfl, rfl⟩
set_option maxRecDepth 100000 in
set_option maxHeartbeats 4000000 in
theorem c_10_clothX2 {l : Launch} {D : va_G} {K : Nat → ClassId} {A : Nat → Nat} {I : TI} {U : TU} {P : TP} {n w : Int32} (h : ¬ 24 < n) (h2 : ¬ w ≤ 24) : MM l yX10_cloth cX10_cloth 3 (some .int) 5 D K A (I) (U) (P) [.ref (A 0), .int n, .int w] (XE (some (.int ((-2147483648)))) (I) (U) (P)) := by
  refine MM.go (own := RX10) (lv0 := [some (.ref (A 0)), some (.int n), some (.int w)]) rfl (by decide) rfl (Nat.le_of_ble_eq_true rfl) rfl ?_
  intro p e s m args below meth c C
  refine jx_iload_n C dX10_cloth_0 rfl ?_
  refine jx_bipush (v := 24) C dX10_cloth_1 (by decide) ?_
  refine jx_ic_gtF (tgt := 12) C dX10_cloth_3 h (by decide) ?_
  refine jx_iload_n C dX10_cloth_6 rfl ?_
  refine jx_bipush (v := 24) C dX10_cloth_7 (by decide) ?_
  refine jx_ic_leF (tgt := 15) C dX10_cloth_9 h2 (by decide) ?_
  refine jx_ldc C dX10_cloth_12 qw_215 ?_
  exact jx_iret C dX10_cloth_14 ⟨rfl, rfl, rfl, rfl⟩
set_option maxRecDepth 100000 in
set_option maxHeartbeats 4000000 in
theorem c_10_clothZ1 {l : Launch} {D : va_G} {K : Nat → ClassId} {A : Nat → Nat} {I : TI} {U : TU} {P : TP} {n w : Int32} (h : ¬ 24 < n) (h2 : w ≤ 24) (hz : n < 0) : MM l yX10_cloth cX10_cloth 3 (some .int) 5 D K A (I) (U) (P) [.ref (A 0), .int n, .int w] (XE (some (.int (0))) (tel (bg I) 3) (U) (P)) := by
  refine MM.go (own := RX10) (lv0 := [some (.ref (A 0)), some (.int n), some (.int w)]) rfl (by decide) rfl (Nat.le_of_ble_eq_true rfl) rfl ?_
  intro p e s m args below meth c C
  refine jx_iload_n C dX10_cloth_0 rfl ?_
  refine jx_bipush (v := 24) C dX10_cloth_1 (by decide) ?_
  refine jx_ic_gtF (tgt := 12) C dX10_cloth_3 h (by decide) ?_
  refine jx_iload_n C dX10_cloth_6 rfl ?_
  refine jx_bipush (v := 24) C dX10_cloth_7 (by decide) ?_
  refine jx_ic_leT (tgt := 15) C dX10_cloth_9 (by decide) h2 ?_
  refine jx_aload_n C dX10_cloth_15 rfl ?_
  refine jx_get C fl_10_40_9 dX10_cloth_16 (by decide) gg_0 rfl ?_
  refine jx_void C (jr_V C (c_4_begin) vw_10_59 (by decide) gg_63 rfl rfl ⟨Nat.le_of_ble_eq_true rfl, Nat.le_of_ble_eq_true rfl⟩ ⟨Nat.le_of_ble_eq_true rfl, Nat.le_of_ble_eq_true rfl⟩ dX10_cloth_19 rfl (Nat.le_of_ble_eq_true rfl)) ?_
  refine jx_iload_n C dX10_cloth_22 rfl ?_
  refine jx_if_ltT (tgt := 30) C dX10_cloth_23 (by decide) hz ?_
  refine jx_aload_n C dX10_cloth_30 rfl ?_
  refine jx_get C fl_10_40_9 dX10_cloth_31 (by decide) gg_0 rfl ?_
  refine jx_iconst (v := 3) C dX10_cloth_34 (by decide) ?_
  refine jx_one C (jr_V C (c_4_tell (f := 3) (by decide) (by decide)) vw_10_62 (by decide) gg_63 rfl rfl ⟨Nat.le_of_ble_eq_true rfl, Nat.le_of_ble_eq_true rfl⟩ ⟨Nat.le_of_ble_eq_true rfl, Nat.le_of_ble_eq_true rfl⟩ dX10_cloth_35 rfl (Nat.le_of_ble_eq_true rfl)) ?_
  exact jx_iret C dX10_cloth_38 ⟨rfl, rfl, rfl, rfl⟩
set_option maxRecDepth 100000 in
set_option maxHeartbeats 4000000 in
theorem c_10_clothZ2 {l : Launch} {D : va_G} {K : Nat → ClassId} {A : Nat → Nat} {I : TI} {U : TU} {P : TP} {n w : Int32} (h : ¬ 24 < n) (h2 : w ≤ 24) (hz : ¬ n < 0) (hy : ¬ 0 ≤ w) : MM l yX10_cloth cX10_cloth 3 (some .int) 5 D K A (I) (U) (P) [.ref (A 0), .int n, .int w] (XE (some (.int (0))) (tel (bg I) 3) (U) (P)) := by
  refine MM.go (own := RX10) (lv0 := [some (.ref (A 0)), some (.int n), some (.int w)]) rfl (by decide) rfl (Nat.le_of_ble_eq_true rfl) rfl ?_
  intro p e s m args below meth c C
  refine jx_iload_n C dX10_cloth_0 rfl ?_
  refine jx_bipush (v := 24) C dX10_cloth_1 (by decide) ?_
  refine jx_ic_gtF (tgt := 12) C dX10_cloth_3 h (by decide) ?_
  refine jx_iload_n C dX10_cloth_6 rfl ?_
  refine jx_bipush (v := 24) C dX10_cloth_7 (by decide) ?_
  refine jx_ic_leT (tgt := 15) C dX10_cloth_9 (by decide) h2 ?_
  refine jx_aload_n C dX10_cloth_15 rfl ?_
  refine jx_get C fl_10_40_9 dX10_cloth_16 (by decide) gg_0 rfl ?_
  refine jx_void C (jr_V C (c_4_begin) vw_10_59 (by decide) gg_63 rfl rfl ⟨Nat.le_of_ble_eq_true rfl, Nat.le_of_ble_eq_true rfl⟩ ⟨Nat.le_of_ble_eq_true rfl, Nat.le_of_ble_eq_true rfl⟩ dX10_cloth_19 rfl (Nat.le_of_ble_eq_true rfl)) ?_
  refine jx_iload_n C dX10_cloth_22 rfl ?_
  refine jx_if_ltF (tgt := 30) C dX10_cloth_23 hz (by decide) ?_
  refine jx_iload_n C dX10_cloth_26 rfl ?_
  refine jx_if_geF (tgt := 39) C dX10_cloth_27 hy (by decide) ?_
  refine jx_aload_n C dX10_cloth_30 rfl ?_
  refine jx_get C fl_10_40_9 dX10_cloth_31 (by decide) gg_0 rfl ?_
  refine jx_iconst (v := 3) C dX10_cloth_34 (by decide) ?_
  refine jx_one C (jr_V C (c_4_tell (f := 3) (by decide) (by decide)) vw_10_62 (by decide) gg_63 rfl rfl ⟨Nat.le_of_ble_eq_true rfl, Nat.le_of_ble_eq_true rfl⟩ ⟨Nat.le_of_ble_eq_true rfl, Nat.le_of_ble_eq_true rfl⟩ dX10_cloth_35 rfl (Nat.le_of_ble_eq_true rfl)) ?_
  exact jx_iret C dX10_cloth_38 ⟨rfl, rfl, rfl, rfl⟩
set_option maxRecDepth 100000 in
set_option maxHeartbeats 4000000 in
theorem c_10_cloth {l : Launch} {D : va_G} {K : Nat → ClassId} {A : Nat → Nat} {I : TI} {U : TU} {P : TP} {n w : Nat} (hn : n ≤ 24) (hw : w ≤ 24) : MM l yX10_cloth cX10_cloth 3 (some .int) 5 D K A (I) (U) (P) [.ref (A 0), .int (nI n), .int (nI w)] (XE (some (.int (nI n * nI w))) (rnw (bg I) n w) (U) (P)) := by
  refine MM.go (own := RX10) (lv0 := [some (.ref (A 0)), some (.int (nI n)), some (.int (nI w))]) rfl (by decide) rfl (Nat.le_of_ble_eq_true rfl) rfl ?_
  intro p e s m args below meth c C
  refine jx_iload_n C dX10_cloth_0 rfl ?_
  refine jx_bipush (v := 24) C dX10_cloth_1 (by decide) ?_
  refine jx_ic_gtF (tgt := 12) C dX10_cloth_3 (nI_nlt (a := 24) hn (by decide)) (by decide) ?_
  refine jx_iload_n C dX10_cloth_6 rfl ?_
  refine jx_bipush (v := 24) C dX10_cloth_7 (by decide) ?_
  refine jx_ic_leT (tgt := 15) C dX10_cloth_9 (by decide) (nI_le (b := 24) hw (by decide)) ?_
  refine jx_aload_n C dX10_cloth_15 rfl ?_
  refine jx_get C fl_10_40_9 dX10_cloth_16 (by decide) gg_0 rfl ?_
  refine jx_void C (jr_V C (c_4_begin) vw_10_59 (by decide) gg_63 rfl rfl ⟨Nat.le_of_ble_eq_true rfl, Nat.le_of_ble_eq_true rfl⟩ ⟨Nat.le_of_ble_eq_true rfl, Nat.le_of_ble_eq_true rfl⟩ dX10_cloth_19 rfl (Nat.le_of_ble_eq_true rfl)) ?_
  refine jx_iload_n C dX10_cloth_22 rfl ?_
  refine jx_if_ltF (tgt := 30) C dX10_cloth_23 (nI_pos (by omega)) (by decide) ?_
  refine jx_iload_n C dX10_cloth_26 rfl ?_
  refine jx_if_geT (tgt := 39) C dX10_cloth_27 (by decide) (nI_pos' (by omega)) ?_
  refine jx_aload_n C dX10_cloth_39 rfl ?_
  refine jx_get C fl_10_26_9 dX10_cloth_40 (by decide) gg_0 rfl ?_
  refine jx_iload_n C dX10_cloth_43 rfl ?_
  refine jx_iload_n C dX10_cloth_44 rfl ?_
  refine jx_void C (jr_V C (c_1_renew hn hw) vw_10_116 (by decide) gg_46 rfl rfl ⟨Nat.le_of_ble_eq_true rfl, Nat.le_of_ble_eq_true rfl⟩ ⟨Nat.le_of_ble_eq_true rfl, Nat.le_of_ble_eq_true rfl⟩ dX10_cloth_45 rfl (Nat.le_of_ble_eq_true rfl)) ?_
  refine jx_iload_n C dX10_cloth_48 rfl ?_
  refine jx_iload_n C dX10_cloth_49 rfl ?_
  refine jx_imul C dX10_cloth_50 ?_
  exact jx_iret C dX10_cloth_51 ⟨rfl, rfl, rfl, rfl⟩
set_option maxRecDepth 100000 in
set_option maxHeartbeats 4000000 in
theorem c_10_snip1 {l : Launch} {D : va_G} {K : Nat → ClassId} {A : Nat → Nat} {I : TI} {U : TU} {P : TP} {x : Int32} (ht : I 46 2 = 0) : MM l yX10_snip cX10_snip 4 (some .int) 5 D K A (I) (U) (P) [.ref (A 0), .int x] (XE (some (.int (0))) (tel (bg I) 1) (U) (P)) := by
  refine MM.go (own := RX10) (lv0 := [some (.ref (A 0)), some (.int x), none, none]) rfl (by decide) rfl (Nat.le_of_ble_eq_true rfl) rfl ?_
  intro p e s m args below meth c C
  refine jx_aload_n C dX10_snip_0 rfl ?_
  refine jx_get C fl_10_40_9 dX10_snip_1 (by decide) gg_0 rfl ?_
  refine jx_void C (jr_V C (c_4_begin) vw_10_59 (by decide) gg_63 rfl rfl ⟨Nat.le_of_ble_eq_true rfl, Nat.le_of_ble_eq_true rfl⟩ ⟨Nat.le_of_ble_eq_true rfl, Nat.le_of_ble_eq_true rfl⟩ dX10_snip_4 rfl (Nat.le_of_ble_eq_true rfl)) ?_
  refine jx_aload_n C dX10_snip_7 rfl ?_
  refine jx_get C fl_10_26_9 dX10_snip_8 (by decide) gg_0 rfl ?_
  refine jx_iload_n C dX10_snip_11 rfl ?_
  refine jx_one C (jr_V C (c_1_placeFault) vw_10_119 (by decide) gg_46 rfl rfl ⟨Nat.le_of_ble_eq_true rfl, Nat.le_of_ble_eq_true rfl⟩ ⟨Nat.le_of_ble_eq_true rfl, Nat.le_of_ble_eq_true rfl⟩ dX10_snip_12 rfl (Nat.le_of_ble_eq_true rfl)) ?_
  rw [up2_ne (by omega), up2_ne (by omega)]
  rw [show fPl (I 46 2) (I 46 3) (x) = 1 by simp [fPl, ht]]
  refine jx_istore_n (lv1 := [_, _, _, _]) C dX10_snip_15 (by decide) rfl ?_
  refine jx_iload_n C dX10_snip_16 rfl ?_
  refine jx_if_eqF (tgt := 29) C dX10_snip_17 (by decide) (by decide) ?_
  refine jx_aload_n C dX10_snip_20 rfl ?_
  refine jx_get C fl_10_40_9 dX10_snip_21 (by decide) gg_0 rfl ?_
  refine jx_iload_n C dX10_snip_24 rfl ?_
  refine jx_one C (jr_V C (c_4_tell (f := 1) (by decide) (by decide)) vw_10_62 (by decide) gg_63 rfl rfl ⟨Nat.le_of_ble_eq_true rfl, Nat.le_of_ble_eq_true rfl⟩ ⟨Nat.le_of_ble_eq_true rfl, Nat.le_of_ble_eq_true rfl⟩ dX10_snip_25 rfl (Nat.le_of_ble_eq_true rfl)) ?_
  exact jx_iret C dX10_snip_28 ⟨rfl, rfl, rfl, rfl⟩
set_option maxRecDepth 100000 in
set_option maxHeartbeats 4000000 in
theorem c_10_snip2 {l : Launch} {D : va_G} {K : Nat → ClassId} {A : Nat → Nat} {I : TI} {U : TU} {P : TP} {x : Int32} (ht : ¬ I 46 2 = 0) (hp : ¬ inR (I 46 3) x) : MM l yX10_snip cX10_snip 4 (some .int) 5 D K A (I) (U) (P) [.ref (A 0), .int x] (XE (some (.int (0))) (tel (bg I) 2) (U) (P)) := by
  refine MM.go (own := RX10) (lv0 := [some (.ref (A 0)), some (.int x), none, none]) rfl (by decide) rfl (Nat.le_of_ble_eq_true rfl) rfl ?_
  intro p e s m args below meth c C
  refine jx_aload_n C dX10_snip_0 rfl ?_
  refine jx_get C fl_10_40_9 dX10_snip_1 (by decide) gg_0 rfl ?_
  refine jx_void C (jr_V C (c_4_begin) vw_10_59 (by decide) gg_63 rfl rfl ⟨Nat.le_of_ble_eq_true rfl, Nat.le_of_ble_eq_true rfl⟩ ⟨Nat.le_of_ble_eq_true rfl, Nat.le_of_ble_eq_true rfl⟩ dX10_snip_4 rfl (Nat.le_of_ble_eq_true rfl)) ?_
  refine jx_aload_n C dX10_snip_7 rfl ?_
  refine jx_get C fl_10_26_9 dX10_snip_8 (by decide) gg_0 rfl ?_
  refine jx_iload_n C dX10_snip_11 rfl ?_
  refine jx_one C (jr_V C (c_1_placeFault) vw_10_119 (by decide) gg_46 rfl rfl ⟨Nat.le_of_ble_eq_true rfl, Nat.le_of_ble_eq_true rfl⟩ ⟨Nat.le_of_ble_eq_true rfl, Nat.le_of_ble_eq_true rfl⟩ dX10_snip_12 rfl (Nat.le_of_ble_eq_true rfl)) ?_
  rw [up2_ne (by omega), up2_ne (by omega)]
  rw [show fPl (I 46 2) (I 46 3) (x) = 2 by simp only [fPl, if_neg ht, if_neg hp]]
  refine jx_istore_n (lv1 := [_, _, _, _]) C dX10_snip_15 (by decide) rfl ?_
  refine jx_iload_n C dX10_snip_16 rfl ?_
  refine jx_if_eqF (tgt := 29) C dX10_snip_17 (by decide) (by decide) ?_
  refine jx_aload_n C dX10_snip_20 rfl ?_
  refine jx_get C fl_10_40_9 dX10_snip_21 (by decide) gg_0 rfl ?_
  refine jx_iload_n C dX10_snip_24 rfl ?_
  refine jx_one C (jr_V C (c_4_tell (f := 2) (by decide) (by decide)) vw_10_62 (by decide) gg_63 rfl rfl ⟨Nat.le_of_ble_eq_true rfl, Nat.le_of_ble_eq_true rfl⟩ ⟨Nat.le_of_ble_eq_true rfl, Nat.le_of_ble_eq_true rfl⟩ dX10_snip_25 rfl (Nat.le_of_ble_eq_true rfl)) ?_
  exact jx_iret C dX10_snip_28 ⟨rfl, rfl, rfl, rfl⟩
set_option maxRecDepth 100000 in
set_option maxHeartbeats 4000000 in
theorem c_10_snipN {l : Launch} {D : va_G} {K : Nat → ClassId} {A : Nat → Nat} {I : TI} {U : TU} {P : TP} {j : Nat} (ht : ¬ I 46 2 = 0) {n : Nat} (hn : I 46 3 = nI n) (h24 : n ≤ 24) (hj : j < n) (hr : I 48 j = -1) : MM l yX10_snip cX10_snip 4 (some .int) 5 D K A (I) (U) (P) [.ref (A 0), .int (nI j)] (XE (some (.int (0))) (up2 (bg I) 48 j (-1)) (U) (P)) := by
  have hp : inR (I 46 3) (nI j) := hn ▸ inR_nI (by omega) hj
  refine MM.go (own := RX10) (lv0 := [some (.ref (A 0)), some (.int (nI j)), none, none]) rfl (by decide) rfl (Nat.le_of_ble_eq_true rfl) rfl ?_
  intro p e s m args below meth c C
  refine jx_aload_n C dX10_snip_0 rfl ?_
  refine jx_get C fl_10_40_9 dX10_snip_1 (by decide) gg_0 rfl ?_
  refine jx_void C (jr_V C (c_4_begin) vw_10_59 (by decide) gg_63 rfl rfl ⟨Nat.le_of_ble_eq_true rfl, Nat.le_of_ble_eq_true rfl⟩ ⟨Nat.le_of_ble_eq_true rfl, Nat.le_of_ble_eq_true rfl⟩ dX10_snip_4 rfl (Nat.le_of_ble_eq_true rfl)) ?_
  refine jx_aload_n C dX10_snip_7 rfl ?_
  refine jx_get C fl_10_26_9 dX10_snip_8 (by decide) gg_0 rfl ?_
  refine jx_iload_n C dX10_snip_11 rfl ?_
  refine jx_one C (jr_V C (c_1_placeFault) vw_10_119 (by decide) gg_46 rfl rfl ⟨Nat.le_of_ble_eq_true rfl, Nat.le_of_ble_eq_true rfl⟩ ⟨Nat.le_of_ble_eq_true rfl, Nat.le_of_ble_eq_true rfl⟩ dX10_snip_12 rfl (Nat.le_of_ble_eq_true rfl)) ?_
  rw [up2_ne (by omega), up2_ne (by omega)]
  rw [show fPl (I 46 2) (I 46 3) (nI j) = 0 by simp only [fPl, if_neg ht, if_pos hp]]
  refine jx_istore_n (lv1 := [_, _, _, _]) C dX10_snip_15 (by decide) rfl ?_
  refine jx_iload_n C dX10_snip_16 rfl ?_
  refine jx_if_eqT (tgt := 29) C dX10_snip_17 (by decide) (by decide) ?_
  refine jx_aload_n C dX10_snip_29 rfl ?_
  refine jx_get C fl_10_26_9 dX10_snip_30 (by decide) gg_0 rfl ?_
  refine jx_iload_n C dX10_snip_33 rfl ?_
  refine jx_one C (jr_V C (c_1_hasPick (by rw [up2_ne (by omega)]; exact hn) h24) vw_10_122 (by decide) gg_46 rfl rfl ⟨Nat.le_of_ble_eq_true rfl, Nat.le_of_ble_eq_true rfl⟩ ⟨Nat.le_of_ble_eq_true rfl, Nat.le_of_ble_eq_true rfl⟩ dX10_snip_34 rfl (Nat.le_of_ble_eq_true rfl)) ?_
  rw [up2_ne (by omega), up2_ne (by omega), nI_clamp (by omega), bI_f (fun q => q.2 hr)]
  refine jx_istore_n (lv1 := [_, _, _, _]) C dX10_snip_37 (by decide) rfl ?_
  refine jx_aload_n C dX10_snip_38 rfl ?_
  refine jx_get C fl_10_26_9 dX10_snip_39 (by decide) gg_0 rfl ?_
  refine jx_iload_n C dX10_snip_42 rfl ?_
  refine jx_void C (jr_V C (c_1_drop (by rw [up2_ne (by omega)]; exact hn) h24 hj) vw_10_125 (by decide) gg_46 rfl rfl ⟨Nat.le_of_ble_eq_true rfl, Nat.le_of_ble_eq_true rfl⟩ ⟨Nat.le_of_ble_eq_true rfl, Nat.le_of_ble_eq_true rfl⟩ dX10_snip_43 rfl (Nat.le_of_ble_eq_true rfl)) ?_
  refine jx_iload_n C dX10_snip_46 rfl ?_
  refine jx_if_eqT (tgt := 54) C dX10_snip_47 (by decide) (by decide) ?_
  refine jx_iconst (v := 0) C dX10_snip_54 (by decide) ?_
  exact jx_iret C dX10_snip_55 ⟨rfl, rfl, rfl, rfl⟩
set_option maxRecDepth 100000 in
set_option maxHeartbeats 4000000 in
theorem c_10_snipS {l : Launch} {D : va_G} {K : Nat → ClassId} {A : Nat → Nat} {I : TI} {U : TU} {P : TP} {j : Nat} (ht : ¬ I 46 2 = 0) {n : Nat} (hn : I 46 3 = nI n) (h24 : n ≤ 24) (hj : j < n) (hr : ¬ I 48 j = -1) : MM l yX10_snip cX10_snip 4 (some .int) 5 D K A (I) (U) (P) [.ref (A 0), .int (nI j)] (XE (some (.int (1))) (up2 (bg I) 48 j (-1)) (U) (P)) := by
  have hp : inR (I 46 3) (nI j) := hn ▸ inR_nI (by omega) hj
  refine MM.go (own := RX10) (lv0 := [some (.ref (A 0)), some (.int (nI j)), none, none]) rfl (by decide) rfl (Nat.le_of_ble_eq_true rfl) rfl ?_
  intro p e s m args below meth c C
  refine jx_aload_n C dX10_snip_0 rfl ?_
  refine jx_get C fl_10_40_9 dX10_snip_1 (by decide) gg_0 rfl ?_
  refine jx_void C (jr_V C (c_4_begin) vw_10_59 (by decide) gg_63 rfl rfl ⟨Nat.le_of_ble_eq_true rfl, Nat.le_of_ble_eq_true rfl⟩ ⟨Nat.le_of_ble_eq_true rfl, Nat.le_of_ble_eq_true rfl⟩ dX10_snip_4 rfl (Nat.le_of_ble_eq_true rfl)) ?_
  refine jx_aload_n C dX10_snip_7 rfl ?_
  refine jx_get C fl_10_26_9 dX10_snip_8 (by decide) gg_0 rfl ?_
  refine jx_iload_n C dX10_snip_11 rfl ?_
  refine jx_one C (jr_V C (c_1_placeFault) vw_10_119 (by decide) gg_46 rfl rfl ⟨Nat.le_of_ble_eq_true rfl, Nat.le_of_ble_eq_true rfl⟩ ⟨Nat.le_of_ble_eq_true rfl, Nat.le_of_ble_eq_true rfl⟩ dX10_snip_12 rfl (Nat.le_of_ble_eq_true rfl)) ?_
  rw [up2_ne (by omega), up2_ne (by omega)]
  rw [show fPl (I 46 2) (I 46 3) (nI j) = 0 by simp only [fPl, if_neg ht, if_pos hp]]
  refine jx_istore_n (lv1 := [_, _, _, _]) C dX10_snip_15 (by decide) rfl ?_
  refine jx_iload_n C dX10_snip_16 rfl ?_
  refine jx_if_eqT (tgt := 29) C dX10_snip_17 (by decide) (by decide) ?_
  refine jx_aload_n C dX10_snip_29 rfl ?_
  refine jx_get C fl_10_26_9 dX10_snip_30 (by decide) gg_0 rfl ?_
  refine jx_iload_n C dX10_snip_33 rfl ?_
  refine jx_one C (jr_V C (c_1_hasPick (by rw [up2_ne (by omega)]; exact hn) h24) vw_10_122 (by decide) gg_46 rfl rfl ⟨Nat.le_of_ble_eq_true rfl, Nat.le_of_ble_eq_true rfl⟩ ⟨Nat.le_of_ble_eq_true rfl, Nat.le_of_ble_eq_true rfl⟩ dX10_snip_34 rfl (Nat.le_of_ble_eq_true rfl)) ?_
  rw [up2_ne (by omega), up2_ne (by omega), nI_clamp (by omega), bI_t ⟨hp, hr⟩]
  refine jx_istore_n (lv1 := [_, _, _, _]) C dX10_snip_37 (by decide) rfl ?_
  refine jx_aload_n C dX10_snip_38 rfl ?_
  refine jx_get C fl_10_26_9 dX10_snip_39 (by decide) gg_0 rfl ?_
  refine jx_iload_n C dX10_snip_42 rfl ?_
  refine jx_void C (jr_V C (c_1_drop (by rw [up2_ne (by omega)]; exact hn) h24 hj) vw_10_125 (by decide) gg_46 rfl rfl ⟨Nat.le_of_ble_eq_true rfl, Nat.le_of_ble_eq_true rfl⟩ ⟨Nat.le_of_ble_eq_true rfl, Nat.le_of_ble_eq_true rfl⟩ dX10_snip_43 rfl (Nat.le_of_ble_eq_true rfl)) ?_
  refine jx_iload_n C dX10_snip_46 rfl ?_
  refine jx_if_eqF (tgt := 54) C dX10_snip_47 (by decide) (by decide) ?_
  refine jx_iconst (v := 1) C dX10_snip_50 (by decide) ?_
  refine jx_goto (tgt := 55) C dX10_snip_51 (by decide) ?_
  exact jx_iret C dX10_snip_55 ⟨rfl, rfl, rfl, rfl⟩
set_option maxRecDepth 100000 in
set_option maxHeartbeats 4000000 in
theorem c_10_hang1 {l : Launch} {D : va_G} {K : Nat → ClassId} {A : Nat → Nat} {I : TI} {U : TU} {P : TP} {x y : Int32} (ht : I 46 2 = 0) : MM l yX10_hang cX10_hang 4 (some .int) 5 D K A (I) (U) (P) [.ref (A 0), .int x, .int y] (XE (some (.int (0))) (tel (bg I) 1) (U) (P)) := by
  refine MM.go (own := RX10) (lv0 := [some (.ref (A 0)), some (.int x), some (.int y), none]) rfl (by decide) rfl (Nat.le_of_ble_eq_true rfl) rfl ?_
  intro p e s m args below meth c C
  refine jx_aload_n C dX10_hang_0 rfl ?_
  refine jx_get C fl_10_40_9 dX10_hang_1 (by decide) gg_0 rfl ?_
  refine jx_void C (jr_V C (c_4_begin) vw_10_59 (by decide) gg_63 rfl rfl ⟨Nat.le_of_ble_eq_true rfl, Nat.le_of_ble_eq_true rfl⟩ ⟨Nat.le_of_ble_eq_true rfl, Nat.le_of_ble_eq_true rfl⟩ dX10_hang_4 rfl (Nat.le_of_ble_eq_true rfl)) ?_
  refine jx_aload_n C dX10_hang_7 rfl ?_
  refine jx_get C fl_10_26_9 dX10_hang_8 (by decide) gg_0 rfl ?_
  refine jx_iload_n C dX10_hang_11 rfl ?_
  refine jx_one C (jr_V C (c_1_placeFault) vw_10_119 (by decide) gg_46 rfl rfl ⟨Nat.le_of_ble_eq_true rfl, Nat.le_of_ble_eq_true rfl⟩ ⟨Nat.le_of_ble_eq_true rfl, Nat.le_of_ble_eq_true rfl⟩ dX10_hang_12 rfl (Nat.le_of_ble_eq_true rfl)) ?_
  rw [up2_ne (by omega), up2_ne (by omega)]
  rw [show fPl (I 46 2) (I 46 3) (y) = 1 by simp [fPl, ht]]
  refine jx_istore_n (lv1 := [_, _, _, _]) C dX10_hang_15 (by decide) rfl ?_
  refine jx_iload_n C dX10_hang_16 rfl ?_
  refine jx_if_neT (tgt := 29) C dX10_hang_17 (by decide) (by decide) ?_
  refine jx_iload_n C dX10_hang_29 rfl ?_
  refine jx_if_eqF (tgt := 42) C dX10_hang_30 (by decide) (by decide) ?_
  refine jx_aload_n C dX10_hang_33 rfl ?_
  refine jx_get C fl_10_40_9 dX10_hang_34 (by decide) gg_0 rfl ?_
  refine jx_iload_n C dX10_hang_37 rfl ?_
  refine jx_one C (jr_V C (c_4_tell (f := 1) (by decide) (by decide)) vw_10_62 (by decide) gg_63 rfl rfl ⟨Nat.le_of_ble_eq_true rfl, Nat.le_of_ble_eq_true rfl⟩ ⟨Nat.le_of_ble_eq_true rfl, Nat.le_of_ble_eq_true rfl⟩ dX10_hang_38 rfl (Nat.le_of_ble_eq_true rfl)) ?_
  exact jx_iret C dX10_hang_41 ⟨rfl, rfl, rfl, rfl⟩
set_option maxRecDepth 100000 in
set_option maxHeartbeats 4000000 in
theorem c_10_hang2 {l : Launch} {D : va_G} {K : Nat → ClassId} {A : Nat → Nat} {I : TI} {U : TU} {P : TP} {x y : Int32} (ht : ¬ I 46 2 = 0) (hp : ¬ inR (I 46 3) y) : MM l yX10_hang cX10_hang 4 (some .int) 5 D K A (I) (U) (P) [.ref (A 0), .int x, .int y] (XE (some (.int (0))) (tel (bg I) 2) (U) (P)) := by
  refine MM.go (own := RX10) (lv0 := [some (.ref (A 0)), some (.int x), some (.int y), none]) rfl (by decide) rfl (Nat.le_of_ble_eq_true rfl) rfl ?_
  intro p e s m args below meth c C
  refine jx_aload_n C dX10_hang_0 rfl ?_
  refine jx_get C fl_10_40_9 dX10_hang_1 (by decide) gg_0 rfl ?_
  refine jx_void C (jr_V C (c_4_begin) vw_10_59 (by decide) gg_63 rfl rfl ⟨Nat.le_of_ble_eq_true rfl, Nat.le_of_ble_eq_true rfl⟩ ⟨Nat.le_of_ble_eq_true rfl, Nat.le_of_ble_eq_true rfl⟩ dX10_hang_4 rfl (Nat.le_of_ble_eq_true rfl)) ?_
  refine jx_aload_n C dX10_hang_7 rfl ?_
  refine jx_get C fl_10_26_9 dX10_hang_8 (by decide) gg_0 rfl ?_
  refine jx_iload_n C dX10_hang_11 rfl ?_
  refine jx_one C (jr_V C (c_1_placeFault) vw_10_119 (by decide) gg_46 rfl rfl ⟨Nat.le_of_ble_eq_true rfl, Nat.le_of_ble_eq_true rfl⟩ ⟨Nat.le_of_ble_eq_true rfl, Nat.le_of_ble_eq_true rfl⟩ dX10_hang_12 rfl (Nat.le_of_ble_eq_true rfl)) ?_
  rw [up2_ne (by omega), up2_ne (by omega)]
  rw [show fPl (I 46 2) (I 46 3) (y) = 2 by simp only [fPl, if_neg ht, if_neg hp]]
  refine jx_istore_n (lv1 := [_, _, _, _]) C dX10_hang_15 (by decide) rfl ?_
  refine jx_iload_n C dX10_hang_16 rfl ?_
  refine jx_if_neT (tgt := 29) C dX10_hang_17 (by decide) (by decide) ?_
  refine jx_iload_n C dX10_hang_29 rfl ?_
  refine jx_if_eqF (tgt := 42) C dX10_hang_30 (by decide) (by decide) ?_
  refine jx_aload_n C dX10_hang_33 rfl ?_
  refine jx_get C fl_10_40_9 dX10_hang_34 (by decide) gg_0 rfl ?_
  refine jx_iload_n C dX10_hang_37 rfl ?_
  refine jx_one C (jr_V C (c_4_tell (f := 2) (by decide) (by decide)) vw_10_62 (by decide) gg_63 rfl rfl ⟨Nat.le_of_ble_eq_true rfl, Nat.le_of_ble_eq_true rfl⟩ ⟨Nat.le_of_ble_eq_true rfl, Nat.le_of_ble_eq_true rfl⟩ dX10_hang_38 rfl (Nat.le_of_ble_eq_true rfl)) ?_
  exact jx_iret C dX10_hang_41 ⟨rfl, rfl, rfl, rfl⟩
set_option maxRecDepth 100000 in
set_option maxHeartbeats 4000000 in
theorem c_10_hang3 {l : Launch} {D : va_G} {K : Nat → ClassId} {A : Nat → Nat} {I : TI} {U : TU} {P : TP} {x y : Int32} (ht : ¬ I 46 2 = 0) (hy : inR (I 46 3) y) (hp : ¬ inR (I 46 3) x) : MM l yX10_hang cX10_hang 4 (some .int) 5 D K A (I) (U) (P) [.ref (A 0), .int x, .int y] (XE (some (.int (0))) (tel (bg I) 2) (U) (P)) := by
  refine MM.go (own := RX10) (lv0 := [some (.ref (A 0)), some (.int x), some (.int y), none]) rfl (by decide) rfl (Nat.le_of_ble_eq_true rfl) rfl ?_
  intro p e s m args below meth c C
  refine jx_aload_n C dX10_hang_0 rfl ?_
  refine jx_get C fl_10_40_9 dX10_hang_1 (by decide) gg_0 rfl ?_
  refine jx_void C (jr_V C (c_4_begin) vw_10_59 (by decide) gg_63 rfl rfl ⟨Nat.le_of_ble_eq_true rfl, Nat.le_of_ble_eq_true rfl⟩ ⟨Nat.le_of_ble_eq_true rfl, Nat.le_of_ble_eq_true rfl⟩ dX10_hang_4 rfl (Nat.le_of_ble_eq_true rfl)) ?_
  refine jx_aload_n C dX10_hang_7 rfl ?_
  refine jx_get C fl_10_26_9 dX10_hang_8 (by decide) gg_0 rfl ?_
  refine jx_iload_n C dX10_hang_11 rfl ?_
  refine jx_one C (jr_V C (c_1_placeFault) vw_10_119 (by decide) gg_46 rfl rfl ⟨Nat.le_of_ble_eq_true rfl, Nat.le_of_ble_eq_true rfl⟩ ⟨Nat.le_of_ble_eq_true rfl, Nat.le_of_ble_eq_true rfl⟩ dX10_hang_12 rfl (Nat.le_of_ble_eq_true rfl)) ?_
  rw [up2_ne (by omega), up2_ne (by omega)]
  rw [show fPl (I 46 2) (I 46 3) (y) = 0 by simp only [fPl, if_neg ht, if_pos hy]]
  refine jx_istore_n (lv1 := [_, _, _, _]) C dX10_hang_15 (by decide) rfl ?_
  refine jx_iload_n C dX10_hang_16 rfl ?_
  refine jx_if_neF (tgt := 29) C dX10_hang_17 (by decide) (by decide) ?_
  refine jx_aload_n C dX10_hang_20 rfl ?_
  refine jx_get C fl_10_26_9 dX10_hang_21 (by decide) gg_0 rfl ?_
  refine jx_iload_n C dX10_hang_24 rfl ?_
  refine jx_one C (jr_V C (c_1_placeFault) vw_10_119 (by decide) gg_46 rfl rfl ⟨Nat.le_of_ble_eq_true rfl, Nat.le_of_ble_eq_true rfl⟩ ⟨Nat.le_of_ble_eq_true rfl, Nat.le_of_ble_eq_true rfl⟩ dX10_hang_25 rfl (Nat.le_of_ble_eq_true rfl)) ?_
  rw [up2_ne (by omega), up2_ne (by omega)]
  rw [show fPl (I 46 2) (I 46 3) (x) = 2 by simp only [fPl, if_neg ht, if_neg hp]]
  refine jx_istore_n (lv1 := [_, _, _, _]) C dX10_hang_28 (by decide) rfl ?_
  refine jx_iload_n C dX10_hang_29 rfl ?_
  refine jx_if_eqF (tgt := 42) C dX10_hang_30 (by decide) (by decide) ?_
  refine jx_aload_n C dX10_hang_33 rfl ?_
  refine jx_get C fl_10_40_9 dX10_hang_34 (by decide) gg_0 rfl ?_
  refine jx_iload_n C dX10_hang_37 rfl ?_
  refine jx_one C (jr_V C (c_4_tell (f := 2) (by decide) (by decide)) vw_10_62 (by decide) gg_63 rfl rfl ⟨Nat.le_of_ble_eq_true rfl, Nat.le_of_ble_eq_true rfl⟩ ⟨Nat.le_of_ble_eq_true rfl, Nat.le_of_ble_eq_true rfl⟩ dX10_hang_38 rfl (Nat.le_of_ble_eq_true rfl)) ?_
  exact jx_iret C dX10_hang_41 ⟨rfl, rfl, rfl, rfl⟩
set_option maxRecDepth 100000 in
set_option maxHeartbeats 4000000 in
theorem c_10_hangN {l : Launch} {D : va_G} {K : Nat → ClassId} {A : Nat → Nat} {I : TI} {U : TU} {P : TP} {j q : Nat} (ht : ¬ I 46 2 = 0) {n : Nat} (hn : I 46 3 = nI n) (h24 : n ≤ 24) (hj : j < n) (hq : q < n) (hr : I 48 q = -1) : MM l yX10_hang cX10_hang 4 (some .int) 5 D K A (I) (U) (P) [.ref (A 0), .int (nI j), .int (nI q)] (XE (some (.int (0))) (up2 (bg I) 48 j (I 48 q)) (U) (P)) := by
  have hp : inR (I 46 3) (nI j) := hn ▸ inR_nI (by omega) hj
  have hy : inR (I 46 3) (nI q) := hn ▸ inR_nI (by omega) hq
  refine MM.go (own := RX10) (lv0 := [some (.ref (A 0)), some (.int (nI j)), some (.int (nI q)), none]) rfl (by decide) rfl (Nat.le_of_ble_eq_true rfl) rfl ?_
  intro p e s m args below meth c C
  refine jx_aload_n C dX10_hang_0 rfl ?_
  refine jx_get C fl_10_40_9 dX10_hang_1 (by decide) gg_0 rfl ?_
  refine jx_void C (jr_V C (c_4_begin) vw_10_59 (by decide) gg_63 rfl rfl ⟨Nat.le_of_ble_eq_true rfl, Nat.le_of_ble_eq_true rfl⟩ ⟨Nat.le_of_ble_eq_true rfl, Nat.le_of_ble_eq_true rfl⟩ dX10_hang_4 rfl (Nat.le_of_ble_eq_true rfl)) ?_
  refine jx_aload_n C dX10_hang_7 rfl ?_
  refine jx_get C fl_10_26_9 dX10_hang_8 (by decide) gg_0 rfl ?_
  refine jx_iload_n C dX10_hang_11 rfl ?_
  refine jx_one C (jr_V C (c_1_placeFault) vw_10_119 (by decide) gg_46 rfl rfl ⟨Nat.le_of_ble_eq_true rfl, Nat.le_of_ble_eq_true rfl⟩ ⟨Nat.le_of_ble_eq_true rfl, Nat.le_of_ble_eq_true rfl⟩ dX10_hang_12 rfl (Nat.le_of_ble_eq_true rfl)) ?_
  rw [up2_ne (by omega), up2_ne (by omega)]
  rw [show fPl (I 46 2) (I 46 3) (nI q) = 0 by simp only [fPl, if_neg ht, if_pos hy]]
  refine jx_istore_n (lv1 := [_, _, _, _]) C dX10_hang_15 (by decide) rfl ?_
  refine jx_iload_n C dX10_hang_16 rfl ?_
  refine jx_if_neF (tgt := 29) C dX10_hang_17 (by decide) (by decide) ?_
  refine jx_aload_n C dX10_hang_20 rfl ?_
  refine jx_get C fl_10_26_9 dX10_hang_21 (by decide) gg_0 rfl ?_
  refine jx_iload_n C dX10_hang_24 rfl ?_
  refine jx_one C (jr_V C (c_1_placeFault) vw_10_119 (by decide) gg_46 rfl rfl ⟨Nat.le_of_ble_eq_true rfl, Nat.le_of_ble_eq_true rfl⟩ ⟨Nat.le_of_ble_eq_true rfl, Nat.le_of_ble_eq_true rfl⟩ dX10_hang_25 rfl (Nat.le_of_ble_eq_true rfl)) ?_
  rw [up2_ne (by omega), up2_ne (by omega)]
  rw [show fPl (I 46 2) (I 46 3) (nI j) = 0 by simp only [fPl, if_neg ht, if_pos hp]]
  refine jx_istore_n (lv1 := [_, _, _, _]) C dX10_hang_28 (by decide) rfl ?_
  refine jx_iload_n C dX10_hang_29 rfl ?_
  refine jx_if_eqT (tgt := 42) C dX10_hang_30 (by decide) (by decide) ?_
  refine jx_aload_n C dX10_hang_42 rfl ?_
  refine jx_get C fl_10_26_9 dX10_hang_43 (by decide) gg_0 rfl ?_
  refine jx_iload_n C dX10_hang_46 rfl ?_
  refine jx_iload_n C dX10_hang_47 rfl ?_
  refine jx_void C (jr_V C (c_1_join (by rw [up2_ne (by omega)]; exact hn) h24 hj hq) vw_10_128 (by decide) gg_46 rfl rfl ⟨Nat.le_of_ble_eq_true rfl, Nat.le_of_ble_eq_true rfl⟩ ⟨Nat.le_of_ble_eq_true rfl, Nat.le_of_ble_eq_true rfl⟩ dX10_hang_48 rfl (Nat.le_of_ble_eq_true rfl)) ?_
  refine jx_aload_n C dX10_hang_51 rfl ?_
  refine jx_get C fl_10_26_9 dX10_hang_52 (by decide) gg_0 rfl ?_
  refine jx_iload_n C dX10_hang_55 rfl ?_
  refine jx_one C (jr_V C (c_1_hasPick (by rw [up2_ne (by omega), up2_ne (by omega)]; exact hn) h24) vw_10_122 (by decide) gg_46 rfl rfl ⟨Nat.le_of_ble_eq_true rfl, Nat.le_of_ble_eq_true rfl⟩ ⟨Nat.le_of_ble_eq_true rfl, Nat.le_of_ble_eq_true rfl⟩ dX10_hang_56 rfl (Nat.le_of_ble_eq_true rfl)) ?_
  rw [up2_ne (show ¬ (46 = 48 ∧ 3 = j) by omega), up2_ne (show ¬ (46 = 63 ∧ 3 = 1) by omega), nI_clamp (by omega), up2_same, up2_ne (show ¬ (48 = 63 ∧ q = 1) by omega), bI_f (fun z => z.2 hr)]
  refine jx_if_eqT (tgt := 72) C dX10_hang_59 (by decide) (by decide) ?_
  refine jx_iconst (v := 0) C dX10_hang_72 (by decide) ?_
  exact jx_iret C dX10_hang_73 ⟨rfl, rfl, rfl, rfl⟩
set_option maxRecDepth 100000 in
set_option maxHeartbeats 4000000 in
theorem c_10_hangS {l : Launch} {D : va_G} {K : Nat → ClassId} {A : Nat → Nat} {I : TI} {U : TU} {P : TP} {j q : Nat} (ht : ¬ I 46 2 = 0) {n : Nat} (hn : I 46 3 = nI n) (h24 : n ≤ 24) (hj : j < n) (hq : q < n) (hr : ¬ I 48 q = -1) : MM l yX10_hang cX10_hang 4 (some .int) 5 D K A (I) (U) (P) [.ref (A 0), .int (nI j), .int (nI q)] (XE (some (.int (I 46 4))) (up2 (bg I) 48 j (I 48 q)) (U) (P)) := by
  have hp : inR (I 46 3) (nI j) := hn ▸ inR_nI (by omega) hj
  have hy : inR (I 46 3) (nI q) := hn ▸ inR_nI (by omega) hq
  refine MM.go (own := RX10) (lv0 := [some (.ref (A 0)), some (.int (nI j)), some (.int (nI q)), none]) rfl (by decide) rfl (Nat.le_of_ble_eq_true rfl) rfl ?_
  intro p e s m args below meth c C
  refine jx_aload_n C dX10_hang_0 rfl ?_
  refine jx_get C fl_10_40_9 dX10_hang_1 (by decide) gg_0 rfl ?_
  refine jx_void C (jr_V C (c_4_begin) vw_10_59 (by decide) gg_63 rfl rfl ⟨Nat.le_of_ble_eq_true rfl, Nat.le_of_ble_eq_true rfl⟩ ⟨Nat.le_of_ble_eq_true rfl, Nat.le_of_ble_eq_true rfl⟩ dX10_hang_4 rfl (Nat.le_of_ble_eq_true rfl)) ?_
  refine jx_aload_n C dX10_hang_7 rfl ?_
  refine jx_get C fl_10_26_9 dX10_hang_8 (by decide) gg_0 rfl ?_
  refine jx_iload_n C dX10_hang_11 rfl ?_
  refine jx_one C (jr_V C (c_1_placeFault) vw_10_119 (by decide) gg_46 rfl rfl ⟨Nat.le_of_ble_eq_true rfl, Nat.le_of_ble_eq_true rfl⟩ ⟨Nat.le_of_ble_eq_true rfl, Nat.le_of_ble_eq_true rfl⟩ dX10_hang_12 rfl (Nat.le_of_ble_eq_true rfl)) ?_
  rw [up2_ne (by omega), up2_ne (by omega)]
  rw [show fPl (I 46 2) (I 46 3) (nI q) = 0 by simp only [fPl, if_neg ht, if_pos hy]]
  refine jx_istore_n (lv1 := [_, _, _, _]) C dX10_hang_15 (by decide) rfl ?_
  refine jx_iload_n C dX10_hang_16 rfl ?_
  refine jx_if_neF (tgt := 29) C dX10_hang_17 (by decide) (by decide) ?_
  refine jx_aload_n C dX10_hang_20 rfl ?_
  refine jx_get C fl_10_26_9 dX10_hang_21 (by decide) gg_0 rfl ?_
  refine jx_iload_n C dX10_hang_24 rfl ?_
  refine jx_one C (jr_V C (c_1_placeFault) vw_10_119 (by decide) gg_46 rfl rfl ⟨Nat.le_of_ble_eq_true rfl, Nat.le_of_ble_eq_true rfl⟩ ⟨Nat.le_of_ble_eq_true rfl, Nat.le_of_ble_eq_true rfl⟩ dX10_hang_25 rfl (Nat.le_of_ble_eq_true rfl)) ?_
  rw [up2_ne (by omega), up2_ne (by omega)]
  rw [show fPl (I 46 2) (I 46 3) (nI j) = 0 by simp only [fPl, if_neg ht, if_pos hp]]
  refine jx_istore_n (lv1 := [_, _, _, _]) C dX10_hang_28 (by decide) rfl ?_
  refine jx_iload_n C dX10_hang_29 rfl ?_
  refine jx_if_eqT (tgt := 42) C dX10_hang_30 (by decide) (by decide) ?_
  refine jx_aload_n C dX10_hang_42 rfl ?_
  refine jx_get C fl_10_26_9 dX10_hang_43 (by decide) gg_0 rfl ?_
  refine jx_iload_n C dX10_hang_46 rfl ?_
  refine jx_iload_n C dX10_hang_47 rfl ?_
  refine jx_void C (jr_V C (c_1_join (by rw [up2_ne (by omega)]; exact hn) h24 hj hq) vw_10_128 (by decide) gg_46 rfl rfl ⟨Nat.le_of_ble_eq_true rfl, Nat.le_of_ble_eq_true rfl⟩ ⟨Nat.le_of_ble_eq_true rfl, Nat.le_of_ble_eq_true rfl⟩ dX10_hang_48 rfl (Nat.le_of_ble_eq_true rfl)) ?_
  refine jx_aload_n C dX10_hang_51 rfl ?_
  refine jx_get C fl_10_26_9 dX10_hang_52 (by decide) gg_0 rfl ?_
  refine jx_iload_n C dX10_hang_55 rfl ?_
  refine jx_one C (jr_V C (c_1_hasPick (by rw [up2_ne (by omega), up2_ne (by omega)]; exact hn) h24) vw_10_122 (by decide) gg_46 rfl rfl ⟨Nat.le_of_ble_eq_true rfl, Nat.le_of_ble_eq_true rfl⟩ ⟨Nat.le_of_ble_eq_true rfl, Nat.le_of_ble_eq_true rfl⟩ dX10_hang_56 rfl (Nat.le_of_ble_eq_true rfl)) ?_
  rw [up2_ne (show ¬ (46 = 48 ∧ 3 = j) by omega), up2_ne (show ¬ (46 = 63 ∧ 3 = 1) by omega), nI_clamp (by omega), up2_same, up2_ne (show ¬ (48 = 63 ∧ q = 1) by omega), bI_t ⟨hp, hr⟩]
  refine jx_if_eqF (tgt := 72) C dX10_hang_59 (by decide) (by decide) ?_
  refine jx_aload_n C dX10_hang_62 rfl ?_
  refine jx_get C fl_10_26_9 dX10_hang_63 (by decide) gg_0 rfl ?_
  refine jx_one C (jr_V C (c_1_width) vw_10_130 (by decide) gg_46 rfl rfl ⟨Nat.le_of_ble_eq_true rfl, Nat.le_of_ble_eq_true rfl⟩ ⟨Nat.le_of_ble_eq_true rfl, Nat.le_of_ble_eq_true rfl⟩ dX10_hang_66 rfl (Nat.le_of_ble_eq_true rfl)) ?_
  rw [up2_ne (show ¬ (46 = 48 ∧ 4 = j) by omega), up2_ne (show ¬ (46 = 63 ∧ 4 = 1) by omega)]
  refine jx_goto (tgt := 73) C dX10_hang_69 (by decide) ?_
  exact jx_iret C dX10_hang_73 ⟨rfl, rfl, rfl, rfl⟩
set_option maxRecDepth 100000 in
set_option maxHeartbeats 4000000 in
theorem c_10_cell1 {l : Launch} {D : va_G} {K : Nat → ClassId} {A : Nat → Nat} {I : TI} {U : TU} {P : TP} {x y : Int32} {n : Nat} (hn : I 46 3 = nI n) (h24 : n ≤ 24) (ht : I 46 2 = 0) : MM l yX10_cell cX10_cell 4 (some .int) 5 D K A (I) (U) (P) [.ref (A 0), .int x, .int y] (XE (some (.int (0))) (tel (bg I) 1) (U) (P)) := by
  refine MM.go (own := RX10) (lv0 := [some (.ref (A 0)), some (.int x), some (.int y), none]) rfl (by decide) rfl (Nat.le_of_ble_eq_true rfl) rfl ?_
  intro p e s m args below meth c C
  refine jx_aload_n C dX10_cell_0 rfl ?_
  refine jx_get C fl_10_40_9 dX10_cell_1 (by decide) gg_0 rfl ?_
  refine jx_void C (jr_V C (c_4_begin) vw_10_59 (by decide) gg_63 rfl rfl ⟨Nat.le_of_ble_eq_true rfl, Nat.le_of_ble_eq_true rfl⟩ ⟨Nat.le_of_ble_eq_true rfl, Nat.le_of_ble_eq_true rfl⟩ dX10_cell_4 rfl (Nat.le_of_ble_eq_true rfl)) ?_
  refine jx_aload_n C dX10_cell_7 rfl ?_
  refine jx_get C fl_10_26_9 dX10_cell_8 (by decide) gg_0 rfl ?_
  refine jx_iload_n C dX10_cell_11 rfl ?_
  refine jx_one C (jr_V C (c_1_pickFault (by rw [up2_ne (by omega)]; exact hn) h24) vw_10_133 (by decide) gg_46 rfl rfl ⟨Nat.le_of_ble_eq_true rfl, Nat.le_of_ble_eq_true rfl⟩ ⟨Nat.le_of_ble_eq_true rfl, Nat.le_of_ble_eq_true rfl⟩ dX10_cell_12 rfl (Nat.le_of_ble_eq_true rfl)) ?_
  rw [up2_ne (by omega), up2_ne (by omega), up2_ne (by omega)]
  rw [show fPk (I 46 2) (I 46 3) (x) (I 48 (x).toNatClampNeg) = 1 by simp [fPk, ht]]
  refine jx_istore_n (lv1 := [_, _, _, _]) C dX10_cell_15 (by decide) rfl ?_
  refine jx_iload_n C dX10_cell_16 rfl ?_
  refine jx_if_neT (tgt := 33) C dX10_cell_17 (by decide) (by decide) ?_
  refine jx_iload_n C dX10_cell_33 rfl ?_
  refine jx_if_neT (tgt := 49) C dX10_cell_34 (by decide) (by decide) ?_
  refine jx_aload_n C dX10_cell_49 rfl ?_
  refine jx_get C fl_10_40_9 dX10_cell_50 (by decide) gg_0 rfl ?_
  refine jx_iload_n C dX10_cell_53 rfl ?_
  refine jx_one C (jr_V C (c_4_tell (f := 1) (by decide) (by decide)) vw_10_62 (by decide) gg_63 rfl rfl ⟨Nat.le_of_ble_eq_true rfl, Nat.le_of_ble_eq_true rfl⟩ ⟨Nat.le_of_ble_eq_true rfl, Nat.le_of_ble_eq_true rfl⟩ dX10_cell_54 rfl (Nat.le_of_ble_eq_true rfl)) ?_
  exact jx_iret C dX10_cell_57 ⟨rfl, rfl, rfl, rfl⟩
set_option maxRecDepth 100000 in
set_option maxHeartbeats 4000000 in
theorem c_10_cell2 {l : Launch} {D : va_G} {K : Nat → ClassId} {A : Nat → Nat} {I : TI} {U : TU} {P : TP} {x y : Int32} {n : Nat} (hn : I 46 3 = nI n) (h24 : n ≤ 24) (ht : ¬ I 46 2 = 0) (hp : ¬ inR (I 46 3) x) : MM l yX10_cell cX10_cell 4 (some .int) 5 D K A (I) (U) (P) [.ref (A 0), .int x, .int y] (XE (some (.int (0))) (tel (bg I) 2) (U) (P)) := by
  refine MM.go (own := RX10) (lv0 := [some (.ref (A 0)), some (.int x), some (.int y), none]) rfl (by decide) rfl (Nat.le_of_ble_eq_true rfl) rfl ?_
  intro p e s m args below meth c C
  refine jx_aload_n C dX10_cell_0 rfl ?_
  refine jx_get C fl_10_40_9 dX10_cell_1 (by decide) gg_0 rfl ?_
  refine jx_void C (jr_V C (c_4_begin) vw_10_59 (by decide) gg_63 rfl rfl ⟨Nat.le_of_ble_eq_true rfl, Nat.le_of_ble_eq_true rfl⟩ ⟨Nat.le_of_ble_eq_true rfl, Nat.le_of_ble_eq_true rfl⟩ dX10_cell_4 rfl (Nat.le_of_ble_eq_true rfl)) ?_
  refine jx_aload_n C dX10_cell_7 rfl ?_
  refine jx_get C fl_10_26_9 dX10_cell_8 (by decide) gg_0 rfl ?_
  refine jx_iload_n C dX10_cell_11 rfl ?_
  refine jx_one C (jr_V C (c_1_pickFault (by rw [up2_ne (by omega)]; exact hn) h24) vw_10_133 (by decide) gg_46 rfl rfl ⟨Nat.le_of_ble_eq_true rfl, Nat.le_of_ble_eq_true rfl⟩ ⟨Nat.le_of_ble_eq_true rfl, Nat.le_of_ble_eq_true rfl⟩ dX10_cell_12 rfl (Nat.le_of_ble_eq_true rfl)) ?_
  rw [up2_ne (by omega), up2_ne (by omega), up2_ne (by omega)]
  rw [show fPk (I 46 2) (I 46 3) (x) (I 48 (x).toNatClampNeg) = 2 by simp only [fPk, if_neg ht, if_neg hp]]
  refine jx_istore_n (lv1 := [_, _, _, _]) C dX10_cell_15 (by decide) rfl ?_
  refine jx_iload_n C dX10_cell_16 rfl ?_
  refine jx_if_neT (tgt := 33) C dX10_cell_17 (by decide) (by decide) ?_
  refine jx_iload_n C dX10_cell_33 rfl ?_
  refine jx_if_neT (tgt := 49) C dX10_cell_34 (by decide) (by decide) ?_
  refine jx_aload_n C dX10_cell_49 rfl ?_
  refine jx_get C fl_10_40_9 dX10_cell_50 (by decide) gg_0 rfl ?_
  refine jx_iload_n C dX10_cell_53 rfl ?_
  refine jx_one C (jr_V C (c_4_tell (f := 2) (by decide) (by decide)) vw_10_62 (by decide) gg_63 rfl rfl ⟨Nat.le_of_ble_eq_true rfl, Nat.le_of_ble_eq_true rfl⟩ ⟨Nat.le_of_ble_eq_true rfl, Nat.le_of_ble_eq_true rfl⟩ dX10_cell_54 rfl (Nat.le_of_ble_eq_true rfl)) ?_
  exact jx_iret C dX10_cell_57 ⟨rfl, rfl, rfl, rfl⟩
set_option maxRecDepth 100000 in
set_option maxHeartbeats 4000000 in
theorem c_10_cell3 {l : Launch} {D : va_G} {K : Nat → ClassId} {A : Nat → Nat} {I : TI} {U : TU} {P : TP} {x y : Int32} {n : Nat} (hn : I 46 3 = nI n) (h24 : n ≤ 24) (ht : ¬ I 46 2 = 0) (hp : inR (I 46 3) x) (hr : I 48 x.toNatClampNeg = -1) : MM l yX10_cell cX10_cell 4 (some .int) 5 D K A (I) (U) (P) [.ref (A 0), .int x, .int y] (XE (some (.int (0))) (tel (bg I) 1) (U) (P)) := by
  refine MM.go (own := RX10) (lv0 := [some (.ref (A 0)), some (.int x), some (.int y), none]) rfl (by decide) rfl (Nat.le_of_ble_eq_true rfl) rfl ?_
  intro p e s m args below meth c C
  refine jx_aload_n C dX10_cell_0 rfl ?_
  refine jx_get C fl_10_40_9 dX10_cell_1 (by decide) gg_0 rfl ?_
  refine jx_void C (jr_V C (c_4_begin) vw_10_59 (by decide) gg_63 rfl rfl ⟨Nat.le_of_ble_eq_true rfl, Nat.le_of_ble_eq_true rfl⟩ ⟨Nat.le_of_ble_eq_true rfl, Nat.le_of_ble_eq_true rfl⟩ dX10_cell_4 rfl (Nat.le_of_ble_eq_true rfl)) ?_
  refine jx_aload_n C dX10_cell_7 rfl ?_
  refine jx_get C fl_10_26_9 dX10_cell_8 (by decide) gg_0 rfl ?_
  refine jx_iload_n C dX10_cell_11 rfl ?_
  refine jx_one C (jr_V C (c_1_pickFault (by rw [up2_ne (by omega)]; exact hn) h24) vw_10_133 (by decide) gg_46 rfl rfl ⟨Nat.le_of_ble_eq_true rfl, Nat.le_of_ble_eq_true rfl⟩ ⟨Nat.le_of_ble_eq_true rfl, Nat.le_of_ble_eq_true rfl⟩ dX10_cell_12 rfl (Nat.le_of_ble_eq_true rfl)) ?_
  rw [up2_ne (by omega), up2_ne (by omega), up2_ne (by omega)]
  rw [show fPk (I 46 2) (I 46 3) (x) (I 48 (x).toNatClampNeg) = 1 by simp only [fPk, if_neg ht, if_pos hp, if_pos hr]]
  refine jx_istore_n (lv1 := [_, _, _, _]) C dX10_cell_15 (by decide) rfl ?_
  refine jx_iload_n C dX10_cell_16 rfl ?_
  refine jx_if_neT (tgt := 33) C dX10_cell_17 (by decide) (by decide) ?_
  refine jx_iload_n C dX10_cell_33 rfl ?_
  refine jx_if_neT (tgt := 49) C dX10_cell_34 (by decide) (by decide) ?_
  refine jx_aload_n C dX10_cell_49 rfl ?_
  refine jx_get C fl_10_40_9 dX10_cell_50 (by decide) gg_0 rfl ?_
  refine jx_iload_n C dX10_cell_53 rfl ?_
  refine jx_one C (jr_V C (c_4_tell (f := 1) (by decide) (by decide)) vw_10_62 (by decide) gg_63 rfl rfl ⟨Nat.le_of_ble_eq_true rfl, Nat.le_of_ble_eq_true rfl⟩ ⟨Nat.le_of_ble_eq_true rfl, Nat.le_of_ble_eq_true rfl⟩ dX10_cell_54 rfl (Nat.le_of_ble_eq_true rfl)) ?_
  exact jx_iret C dX10_cell_57 ⟨rfl, rfl, rfl, rfl⟩
set_option maxRecDepth 100000 in
set_option maxHeartbeats 4000000 in
theorem c_10_cell4 {l : Launch} {D : va_G} {K : Nat → ClassId} {A : Nat → Nat} {I : TI} {U : TU} {P : TP} {j : Nat} {y : Int32} {n : Nat} (hn : I 46 3 = nI n) (h24 : n ≤ 24) (ht : ¬ I 46 2 = 0) (hj : j < n) {r : Nat} (hr : I 48 j = nI r) (hr24 : r < 24) (hc : ¬ inR (I 46 4) y) : MM l yX10_cell cX10_cell 4 (some .int) 5 D K A (I) (U) (P) [.ref (A 0), .int (nI j), .int y] (XE (some (.int (0))) (tel (bg I) 2) (U) (P)) := by
  have hp : inR (I 46 3) (nI j) := hn ▸ inR_nI (by omega) hj
  refine MM.go (own := RX10) (lv0 := [some (.ref (A 0)), some (.int (nI j)), some (.int y), none]) rfl (by decide) rfl (Nat.le_of_ble_eq_true rfl) rfl ?_
  intro p e s m args below meth c C
  refine jx_aload_n C dX10_cell_0 rfl ?_
  refine jx_get C fl_10_40_9 dX10_cell_1 (by decide) gg_0 rfl ?_
  refine jx_void C (jr_V C (c_4_begin) vw_10_59 (by decide) gg_63 rfl rfl ⟨Nat.le_of_ble_eq_true rfl, Nat.le_of_ble_eq_true rfl⟩ ⟨Nat.le_of_ble_eq_true rfl, Nat.le_of_ble_eq_true rfl⟩ dX10_cell_4 rfl (Nat.le_of_ble_eq_true rfl)) ?_
  refine jx_aload_n C dX10_cell_7 rfl ?_
  refine jx_get C fl_10_26_9 dX10_cell_8 (by decide) gg_0 rfl ?_
  refine jx_iload_n C dX10_cell_11 rfl ?_
  refine jx_one C (jr_V C (c_1_pickFault (by rw [up2_ne (by omega)]; exact hn) h24) vw_10_133 (by decide) gg_46 rfl rfl ⟨Nat.le_of_ble_eq_true rfl, Nat.le_of_ble_eq_true rfl⟩ ⟨Nat.le_of_ble_eq_true rfl, Nat.le_of_ble_eq_true rfl⟩ dX10_cell_12 rfl (Nat.le_of_ble_eq_true rfl)) ?_
  rw [up2_ne (by omega), up2_ne (by omega), up2_ne (by omega)]
  rw [show fPk (I 46 2) (I 46 3) (nI j) (I 48 (nI j).toNatClampNeg) = 0 by simp only [fPk, if_neg ht, if_pos hp, nI_clamp (show j < 2 ^ 31 by omega)]; rw [hr, if_neg (nI_m1 (by omega))]]
  refine jx_istore_n (lv1 := [_, _, _, _]) C dX10_cell_15 (by decide) rfl ?_
  refine jx_iload_n C dX10_cell_16 rfl ?_
  refine jx_if_neF (tgt := 33) C dX10_cell_17 (by decide) (by decide) ?_
  refine jx_aload_n C dX10_cell_20 rfl ?_
  refine jx_get C fl_10_26_9 dX10_cell_21 (by decide) gg_0 rfl ?_
  refine jx_iload_n C dX10_cell_24 rfl ?_
  refine jx_one C (jr_V C (c_1_hasCell) vw_10_136 (by decide) gg_46 rfl rfl ⟨Nat.le_of_ble_eq_true rfl, Nat.le_of_ble_eq_true rfl⟩ ⟨Nat.le_of_ble_eq_true rfl, Nat.le_of_ble_eq_true rfl⟩ dX10_cell_25 rfl (Nat.le_of_ble_eq_true rfl)) ?_
  rw [up2_ne (by omega), bI_f hc]
  refine jx_if_neF (tgt := 33) C dX10_cell_28 (by decide) (by decide) ?_
  refine jx_iconst (v := 2) C dX10_cell_31 (by decide) ?_
  refine jx_istore_n (lv1 := [_, _, _, _]) C dX10_cell_32 (by decide) rfl ?_
  refine jx_iload_n C dX10_cell_33 rfl ?_
  refine jx_if_neT (tgt := 49) C dX10_cell_34 (by decide) (by decide) ?_
  refine jx_aload_n C dX10_cell_49 rfl ?_
  refine jx_get C fl_10_40_9 dX10_cell_50 (by decide) gg_0 rfl ?_
  refine jx_iload_n C dX10_cell_53 rfl ?_
  refine jx_one C (jr_V C (c_4_tell (f := 2) (by decide) (by decide)) vw_10_62 (by decide) gg_63 rfl rfl ⟨Nat.le_of_ble_eq_true rfl, Nat.le_of_ble_eq_true rfl⟩ ⟨Nat.le_of_ble_eq_true rfl, Nat.le_of_ble_eq_true rfl⟩ dX10_cell_54 rfl (Nat.le_of_ble_eq_true rfl)) ?_
  exact jx_iret C dX10_cell_57 ⟨rfl, rfl, rfl, rfl⟩
set_option maxRecDepth 100000 in
set_option maxHeartbeats 4000000 in
theorem c_10_cell {l : Launch} {D : va_G} {K : Nat → ClassId} {A : Nat → Nat} {I : TI} {U : TU} {P : TP} {j u : Nat} {n : Nat} (hn : I 46 3 = nI n) (h24 : n ≤ 24) (ht : ¬ I 46 2 = 0) (hj : j < n) {r : Nat} (hr : I 48 j = nI r) (hr24 : r < 24) {w : Nat} (hw : I 46 4 = nI w) (hw24 : w ≤ 24) (hu : u < w) : MM l yX10_cell cX10_cell 4 (some .int) 5 D K A (I) (U) (P) [.ref (A 0), .int (nI j), .int (nI u)] (XE (some (.int (I 47 (24 * r + u)))) (bg I) (U) (P)) := by
  have hc : inR (I 46 4) (nI u) := hw ▸ inR_nI (by omega) hu
  have hp : inR (I 46 3) (nI j) := hn ▸ inR_nI (by omega) hj
  refine MM.go (own := RX10) (lv0 := [some (.ref (A 0)), some (.int (nI j)), some (.int (nI u)), none]) rfl (by decide) rfl (Nat.le_of_ble_eq_true rfl) rfl ?_
  intro p e s m args below meth c C
  refine jx_aload_n C dX10_cell_0 rfl ?_
  refine jx_get C fl_10_40_9 dX10_cell_1 (by decide) gg_0 rfl ?_
  refine jx_void C (jr_V C (c_4_begin) vw_10_59 (by decide) gg_63 rfl rfl ⟨Nat.le_of_ble_eq_true rfl, Nat.le_of_ble_eq_true rfl⟩ ⟨Nat.le_of_ble_eq_true rfl, Nat.le_of_ble_eq_true rfl⟩ dX10_cell_4 rfl (Nat.le_of_ble_eq_true rfl)) ?_
  refine jx_aload_n C dX10_cell_7 rfl ?_
  refine jx_get C fl_10_26_9 dX10_cell_8 (by decide) gg_0 rfl ?_
  refine jx_iload_n C dX10_cell_11 rfl ?_
  refine jx_one C (jr_V C (c_1_pickFault (by rw [up2_ne (by omega)]; exact hn) h24) vw_10_133 (by decide) gg_46 rfl rfl ⟨Nat.le_of_ble_eq_true rfl, Nat.le_of_ble_eq_true rfl⟩ ⟨Nat.le_of_ble_eq_true rfl, Nat.le_of_ble_eq_true rfl⟩ dX10_cell_12 rfl (Nat.le_of_ble_eq_true rfl)) ?_
  rw [up2_ne (by omega), up2_ne (by omega), up2_ne (by omega)]
  rw [show fPk (I 46 2) (I 46 3) (nI j) (I 48 (nI j).toNatClampNeg) = 0 by simp only [fPk, if_neg ht, if_pos hp, nI_clamp (show j < 2 ^ 31 by omega)]; rw [hr, if_neg (nI_m1 (by omega))]]
  refine jx_istore_n (lv1 := [_, _, _, _]) C dX10_cell_15 (by decide) rfl ?_
  refine jx_iload_n C dX10_cell_16 rfl ?_
  refine jx_if_neF (tgt := 33) C dX10_cell_17 (by decide) (by decide) ?_
  refine jx_aload_n C dX10_cell_20 rfl ?_
  refine jx_get C fl_10_26_9 dX10_cell_21 (by decide) gg_0 rfl ?_
  refine jx_iload_n C dX10_cell_24 rfl ?_
  refine jx_one C (jr_V C (c_1_hasCell) vw_10_136 (by decide) gg_46 rfl rfl ⟨Nat.le_of_ble_eq_true rfl, Nat.le_of_ble_eq_true rfl⟩ ⟨Nat.le_of_ble_eq_true rfl, Nat.le_of_ble_eq_true rfl⟩ dX10_cell_25 rfl (Nat.le_of_ble_eq_true rfl)) ?_
  rw [up2_ne (by omega), bI_t hc]
  refine jx_if_neT (tgt := 33) C dX10_cell_28 (by decide) (by decide) ?_
  refine jx_iload_n C dX10_cell_33 rfl ?_
  refine jx_if_neF (tgt := 49) C dX10_cell_34 (by decide) (by decide) ?_
  refine jx_aload_n C dX10_cell_37 rfl ?_
  refine jx_get C fl_10_26_9 dX10_cell_38 (by decide) gg_0 rfl ?_
  refine jx_iload_n C dX10_cell_41 rfl ?_
  refine jx_iload_n C dX10_cell_42 rfl ?_
  refine jx_one C (jr_V C (c_1_get (by rw [up2_ne (by omega)]; exact hn) h24 hj (by rw [up2_ne (by omega)]; exact hr) hr24 (by rw [up2_ne (by omega)]; exact hw) hw24 hu) vw_10_139 (by decide) gg_46 rfl rfl ⟨Nat.le_of_ble_eq_true rfl, Nat.le_of_ble_eq_true rfl⟩ ⟨Nat.le_of_ble_eq_true rfl, Nat.le_of_ble_eq_true rfl⟩ dX10_cell_43 rfl (Nat.le_of_ble_eq_true rfl)) ?_
  rw [up2_ne (by omega)]
  refine jx_goto (tgt := 57) C dX10_cell_46 (by decide) ?_
  exact jx_iret C dX10_cell_57 ⟨rfl, rfl, rfl, rfl⟩
set_option maxRecDepth 100000 in
set_option maxHeartbeats 4000000 in
theorem c_10_cardX1 {l : Launch} {D : va_G} {K : Nat → ClassId} {A : Nat → Nat} {I : TI} {U : TU} {P : TP} {kd f s0 x v : Int32} (hx : ¬ inK kd) : MM l yX10_card cX10_card 6 (some .int) 5 D K A (I) (U) (P) [.ref (A 0), .int kd, .int f, .int s0, .int x, .int v] (XE (some (.int ((-2147483648)))) (I) (U) (P)) := by
  refine MM.go (own := RX10) (lv0 := [some (.ref (A 0)), some (.int kd), some (.int f), some (.int s0), some (.int x), some (.int v)]) rfl (by decide) rfl (Nat.le_of_ble_eq_true rfl) rfl ?_
  intro p e s m args below meth c C
  refine jx_iload_n C dX10_card_0 rfl ?_
  refine jx_one C (jr_S C (c_10_isAct) sw_10_100 rfl ⟨Nat.le_of_ble_eq_true rfl, Nat.le_of_ble_eq_true rfl⟩ ⟨Nat.le_of_ble_eq_true rfl, Nat.le_of_ble_eq_true rfl⟩ dX10_card_1 rfl (Nat.le_of_ble_eq_true rfl)) ?_
  rw [bI_f hx]
  refine jx_if_eqT (tgt := 25) C dX10_card_4 (by decide) (by decide) ?_
  refine jx_ldc C dX10_card_25 qw_215 ?_
  exact jx_iret C dX10_card_27 ⟨rfl, rfl, rfl, rfl⟩
set_option maxRecDepth 100000 in
set_option maxHeartbeats 4000000 in
theorem c_10_cardX2 {l : Launch} {D : va_G} {K : Nat → ClassId} {A : Nat → Nat} {I : TI} {U : TU} {P : TP} {kd x v : Int32} (hk : inK kd) {f s0 : Int32} (hx : ¬ inL f s0) : MM l yX10_card cX10_card 6 (some .int) 5 D K A (I) (U) (P) [.ref (A 0), .int kd, .int f, .int s0, .int x, .int v] (XE (some (.int ((-2147483648)))) (I) (U) (P)) := by
  refine MM.go (own := RX10) (lv0 := [some (.ref (A 0)), some (.int kd), some (.int f), some (.int s0), some (.int x), some (.int v)]) rfl (by decide) rfl (Nat.le_of_ble_eq_true rfl) rfl ?_
  intro p e s m args below meth c C
  refine jx_iload_n C dX10_card_0 rfl ?_
  refine jx_one C (jr_S C (c_10_isAct) sw_10_100 rfl ⟨Nat.le_of_ble_eq_true rfl, Nat.le_of_ble_eq_true rfl⟩ ⟨Nat.le_of_ble_eq_true rfl, Nat.le_of_ble_eq_true rfl⟩ dX10_card_1 rfl (Nat.le_of_ble_eq_true rfl)) ?_
  rw [bI_t hk]
  refine jx_if_eqF (tgt := 25) C dX10_card_4 (by decide) (by decide) ?_
  refine jx_iload_n C dX10_card_7 rfl ?_
  refine jx_iload_n C dX10_card_8 rfl ?_
  refine jx_one C (jr_S C (c_8_isLane) sw_10_54 rfl ⟨Nat.le_of_ble_eq_true rfl, Nat.le_of_ble_eq_true rfl⟩ ⟨Nat.le_of_ble_eq_true rfl, Nat.le_of_ble_eq_true rfl⟩ dX10_card_9 rfl (Nat.le_of_ble_eq_true rfl)) ?_
  rw [bI_f hx]
  refine jx_if_eqT (tgt := 25) C dX10_card_12 (by decide) (by decide) ?_
  refine jx_ldc C dX10_card_25 qw_215 ?_
  exact jx_iret C dX10_card_27 ⟨rfl, rfl, rfl, rfl⟩
set_option maxRecDepth 100000 in
set_option maxHeartbeats 4000000 in
theorem c_10_cardX3 {l : Launch} {D : va_G} {K : Nat → ClassId} {A : Nat → Nat} {I : TI} {U : TU} {P : TP} {kd f s0 x v : Int32} (hk : inK kd) (hl : inL f s0) (h : I 49 1 = 12) : MM l yX10_card cX10_card 6 (some .int) 5 D K A (I) (U) (P) [.ref (A 0), .int kd, .int f, .int s0, .int x, .int v] (XE (some (.int ((-2147483648)))) (I) (U) (P)) := by
  refine MM.go (own := RX10) (lv0 := [some (.ref (A 0)), some (.int kd), some (.int f), some (.int s0), some (.int x), some (.int v)]) rfl (by decide) rfl (Nat.le_of_ble_eq_true rfl) rfl ?_
  intro p e s m args below meth c C
  refine jx_iload_n C dX10_card_0 rfl ?_
  refine jx_one C (jr_S C (c_10_isAct) sw_10_100 rfl ⟨Nat.le_of_ble_eq_true rfl, Nat.le_of_ble_eq_true rfl⟩ ⟨Nat.le_of_ble_eq_true rfl, Nat.le_of_ble_eq_true rfl⟩ dX10_card_1 rfl (Nat.le_of_ble_eq_true rfl)) ?_
  rw [bI_t hk]
  refine jx_if_eqF (tgt := 25) C dX10_card_4 (by decide) (by decide) ?_
  refine jx_iload_n C dX10_card_7 rfl ?_
  refine jx_iload_n C dX10_card_8 rfl ?_
  refine jx_one C (jr_S C (c_8_isLane) sw_10_54 rfl ⟨Nat.le_of_ble_eq_true rfl, Nat.le_of_ble_eq_true rfl⟩ ⟨Nat.le_of_ble_eq_true rfl, Nat.le_of_ble_eq_true rfl⟩ dX10_card_9 rfl (Nat.le_of_ble_eq_true rfl)) ?_
  rw [bI_t hl]
  refine jx_if_eqF (tgt := 25) C dX10_card_12 (by decide) (by decide) ?_
  refine jx_aload_n C dX10_card_15 rfl ?_
  refine jx_get C fl_10_33_9 dX10_card_16 (by decide) gg_0 rfl ?_
  refine jx_one C (jr_V C (c_2_isFull) vw_10_147 (by decide) gg_49 rfl rfl ⟨Nat.le_of_ble_eq_true rfl, Nat.le_of_ble_eq_true rfl⟩ ⟨Nat.le_of_ble_eq_true rfl, Nat.le_of_ble_eq_true rfl⟩ dX10_card_19 rfl (Nat.le_of_ble_eq_true rfl)) ?_
  rw [bI_t h]
  refine jx_if_eqF (tgt := 28) C dX10_card_22 (by decide) (by decide) ?_
  refine jx_ldc C dX10_card_25 qw_215 ?_
  exact jx_iret C dX10_card_27 ⟨rfl, rfl, rfl, rfl⟩
set_option maxRecDepth 100000 in
set_option maxHeartbeats 4000000 in
theorem c_10_card {l : Launch} {D : va_G} {K : Nat → ClassId} {A : Nat → Nat} {I : TI} {U : TU} {P : TP} {kd f s0 x v : Int32} (hk : inK kd) (hl : inL f s0) {co : Nat} (hco : I 49 1 = nI co) (h12 : co < 12) : MM l yX10_card cX10_card 6 (some .int) 5 D K A (I) (U) (P) [.ref (A 0), .int kd, .int f, .int s0, .int x, .int v] (XE (some (.int (nI (co + 1)))) (up2 (up2 (up2 (up2 (up2 (up2 I (51 + co) 0 kd) (51 + co) 1 f) (51 + co) 2 s0) (51 + co) 3 x) (51 + co) 4 v) 49 1 (nI (co + 1))) (U) (P)) := by
  refine MM.go (own := RX10) (lv0 := [some (.ref (A 0)), some (.int kd), some (.int f), some (.int s0), some (.int x), some (.int v)]) rfl (by decide) rfl (Nat.le_of_ble_eq_true rfl) rfl ?_
  intro p e s m args below meth c C
  refine jx_iload_n C dX10_card_0 rfl ?_
  refine jx_one C (jr_S C (c_10_isAct) sw_10_100 rfl ⟨Nat.le_of_ble_eq_true rfl, Nat.le_of_ble_eq_true rfl⟩ ⟨Nat.le_of_ble_eq_true rfl, Nat.le_of_ble_eq_true rfl⟩ dX10_card_1 rfl (Nat.le_of_ble_eq_true rfl)) ?_
  rw [bI_t hk]
  refine jx_if_eqF (tgt := 25) C dX10_card_4 (by decide) (by decide) ?_
  refine jx_iload_n C dX10_card_7 rfl ?_
  refine jx_iload_n C dX10_card_8 rfl ?_
  refine jx_one C (jr_S C (c_8_isLane) sw_10_54 rfl ⟨Nat.le_of_ble_eq_true rfl, Nat.le_of_ble_eq_true rfl⟩ ⟨Nat.le_of_ble_eq_true rfl, Nat.le_of_ble_eq_true rfl⟩ dX10_card_9 rfl (Nat.le_of_ble_eq_true rfl)) ?_
  rw [bI_t hl]
  refine jx_if_eqF (tgt := 25) C dX10_card_12 (by decide) (by decide) ?_
  refine jx_aload_n C dX10_card_15 rfl ?_
  refine jx_get C fl_10_33_9 dX10_card_16 (by decide) gg_0 rfl ?_
  refine jx_one C (jr_V C (c_2_isFull) vw_10_147 (by decide) gg_49 rfl rfl ⟨Nat.le_of_ble_eq_true rfl, Nat.le_of_ble_eq_true rfl⟩ ⟨Nat.le_of_ble_eq_true rfl, Nat.le_of_ble_eq_true rfl⟩ dX10_card_19 rfl (Nat.le_of_ble_eq_true rfl)) ?_
  rw [bI_f (show ¬ I 49 1 = 12 by rw [hco, show (12 : Int32) = nI 12 from rfl, nI_eq (by omega) (by decide)]; omega)]
  refine jx_if_eqT (tgt := 28) C dX10_card_22 (by decide) (by decide) ?_
  refine jx_aload_n C dX10_card_28 rfl ?_
  refine jx_get C fl_10_33_9 dX10_card_29 (by decide) gg_0 rfl ?_
  refine jx_iload_n C dX10_card_32 rfl ?_
  refine jx_iload_n C dX10_card_33 rfl ?_
  refine jx_iload_n C dX10_card_34 rfl ?_
  refine jx_iload C dX10_card_35 rfl ?_
  refine jx_iload C dX10_card_37 rfl ?_
  refine jx_void C (jr_V C (c_2_add hco h12) vw_10_148 (by decide) gg_49 rfl rfl ⟨Nat.le_of_ble_eq_true rfl, Nat.le_of_ble_eq_true rfl⟩ ⟨Nat.le_of_ble_eq_true rfl, Nat.le_of_ble_eq_true rfl⟩ dX10_card_39 rfl (Nat.le_of_ble_eq_true rfl)) ?_
  refine jx_aload_n C dX10_card_42 rfl ?_
  refine jx_get C fl_10_33_9 dX10_card_43 (by decide) gg_0 rfl ?_
  refine jx_one C (jr_V C (c_2_count) vw_10_152 (by decide) gg_49 rfl rfl ⟨Nat.le_of_ble_eq_true rfl, Nat.le_of_ble_eq_true rfl⟩ ⟨Nat.le_of_ble_eq_true rfl, Nat.le_of_ble_eq_true rfl⟩ dX10_card_46 rfl (Nat.le_of_ble_eq_true rfl)) ?_
  rw [up2_same]
  exact jx_iret C dX10_card_49 ⟨rfl, rfl, rfl, rfl⟩
set_option maxRecDepth 100000 in
set_option maxHeartbeats 4000000 in
theorem c_10_unhook {l : Launch} {D : va_G} {K : Nat → ClassId} {A : Nat → Nat} {I : TI} {U : TU} {P : TP}  : MM l yX10_unhook cX10_unhook 2 (some .int) 5 D K A (I) (U) (P) [.ref (A 0)] (XE (some (.int (I 49 1))) (up2 I 49 1 0) (U) (P)) := by
  refine MM.go (own := RX10) (lv0 := [some (.ref (A 0)), none]) rfl (by decide) rfl (Nat.le_of_ble_eq_true rfl) rfl ?_
  intro p e s m args below meth c C
  refine jx_aload_n C dX10_unhook_0 rfl ?_
  refine jx_get C fl_10_33_9 dX10_unhook_1 (by decide) gg_0 rfl ?_
  refine jx_one C (jr_V C (c_2_count) vw_10_152 (by decide) gg_49 rfl rfl ⟨Nat.le_of_ble_eq_true rfl, Nat.le_of_ble_eq_true rfl⟩ ⟨Nat.le_of_ble_eq_true rfl, Nat.le_of_ble_eq_true rfl⟩ dX10_unhook_4 rfl (Nat.le_of_ble_eq_true rfl)) ?_
  refine jx_istore_n (lv1 := [_, _]) C dX10_unhook_7 (by decide) rfl ?_
  refine jx_aload_n C dX10_unhook_8 rfl ?_
  refine jx_get C fl_10_33_9 dX10_unhook_9 (by decide) gg_0 rfl ?_
  refine jx_void C (jr_V C (c_2_clear) vw_10_153 (by decide) gg_49 rfl rfl ⟨Nat.le_of_ble_eq_true rfl, Nat.le_of_ble_eq_true rfl⟩ ⟨Nat.le_of_ble_eq_true rfl, Nat.le_of_ble_eq_true rfl⟩ dX10_unhook_12 rfl (Nat.le_of_ble_eq_true rfl)) ?_
  refine jx_iload_n C dX10_unhook_15 rfl ?_
  exact jx_iret C dX10_unhook_16 ⟨rfl, rfl, rfl, rfl⟩
set_option maxRecDepth 100000 in
set_option maxHeartbeats 4000000 in
theorem c_10_keeperX {l : Launch} {D : va_G} {K : Nat → ClassId} {A : Nat → Nat} {I : TI} {U : TU} {P : TP} {v : Int32} (h : ¬ v &&& (-63) = 0) : MM l yX10_keeper cX10_keeper 2 (some .boolean) 5 D K A (I) (U) (P) [.ref (A 0), .int v] (XE (some (.int (0))) (I) (U) (P)) := by
  refine MM.go (own := RX10) (lv0 := [some (.ref (A 0)), some (.int v)]) rfl (by decide) rfl (Nat.le_of_ble_eq_true rfl) rfl ?_
  intro p e s m args below meth c C
  refine jx_iload_n C dX10_keeper_0 rfl ?_
  refine jx_bipush (v := (-63)) C dX10_keeper_1 (by decide) ?_
  refine jx_iand C dX10_keeper_3 ?_
  refine jx_if_eqF (tgt := 9) C dX10_keeper_4 h (by decide) ?_
  refine jx_iconst (v := 0) C dX10_keeper_7 (by decide) ?_
  exact jx_zret C dX10_keeper_8 rfl ⟨rfl, rfl, rfl, rfl⟩
set_option maxRecDepth 100000 in
set_option maxHeartbeats 4000000 in
theorem c_10_keeper {l : Launch} {D : va_G} {K : Nat → ClassId} {A : Nat → Nat} {I : TI} {U : TU} {P : TP} {v : Int32} (h : v &&& (-63) = 0) : MM l yX10_keeper cX10_keeper 2 (some .boolean) 5 D K A (I) (U) (P) [.ref (A 0), .int v] (XE (some (.int (1))) (up2 I 0 5 v) (U) (P)) := by
  refine MM.go (own := RX10) (lv0 := [some (.ref (A 0)), some (.int v)]) rfl (by decide) rfl (Nat.le_of_ble_eq_true rfl) rfl ?_
  intro p e s m args below meth c C
  refine jx_iload_n C dX10_keeper_0 rfl ?_
  refine jx_bipush (v := (-63)) C dX10_keeper_1 (by decide) ?_
  refine jx_iand C dX10_keeper_3 ?_
  refine jx_if_eqT (tgt := 9) C dX10_keeper_4 (by decide) h ?_
  refine jx_aload_n C dX10_keeper_9 rfl ?_
  refine jx_iload_n C dX10_keeper_10 rfl ?_
  refine jx_putI C fp_10_44_9 dX10_keeper_11 (by decide) gg_0 (Nat.le_of_ble_eq_true rfl) rfl ?_
  refine jx_iconst (v := 1) C dX10_keeper_14 (by decide) ?_
  exact jx_zret C dX10_keeper_15 rfl ⟨rfl, rfl, rfl, rfl⟩
set_option maxRecDepth 100000 in
set_option maxHeartbeats 4000000 in
theorem c_10_toldF {l : Launch} {D : va_G} {K : Nat → ClassId} {A : Nat → Nat} {I : TI} {U : TU} {P : TP} {f : Nat} (h1 : 1 ≤ f) (h2 : f ≤ 5) : MM l yX10_told cX10_told 2 (some .int) 5 D K A (I) (U) (P) [.ref (A 0), .int (nI f)] (XE (some (.int (I 64 f))) (I) (U) (P)) := by
  refine MM.go (own := RX10) (lv0 := [some (.ref (A 0)), some (.int (nI f))]) rfl (by decide) rfl (Nat.le_of_ble_eq_true rfl) rfl ?_
  intro p e s m args below meth c C
  refine jx_iload_n C dX10_told_0 rfl ?_
  refine jx_iconst (v := 1) C dX10_told_1 (by decide) ?_
  refine jx_ic_ltF (tgt := 19) C dX10_told_2 (nI_nlt (a := f) (b := 1) (by omega) (by omega)) (by decide) ?_
  refine jx_iload_n C dX10_told_5 rfl ?_
  refine jx_iconst (v := 5) C dX10_told_6 (by decide) ?_
  refine jx_ic_gtF (tgt := 19) C dX10_told_7 (nI_nlt (a := 5) (b := f) (by omega) (by decide)) (by decide) ?_
  refine jx_aload_n C dX10_told_10 rfl ?_
  refine jx_get C fl_10_40_9 dX10_told_11 (by decide) gg_0 rfl ?_
  refine jx_iload_n C dX10_told_14 rfl ?_
  refine jx_one C (jr_V C (c_4_countOf h1 h2) vw_10_183 (by decide) gg_63 rfl rfl ⟨Nat.le_of_ble_eq_true rfl, Nat.le_of_ble_eq_true rfl⟩ ⟨Nat.le_of_ble_eq_true rfl, Nat.le_of_ble_eq_true rfl⟩ dX10_told_15 rfl (Nat.le_of_ble_eq_true rfl)) ?_
  exact jx_iret C dX10_told_18 ⟨rfl, rfl, rfl, rfl⟩
set_option maxRecDepth 100000 in
set_option maxHeartbeats 4000000 in
theorem c_10_told0 {l : Launch} {D : va_G} {K : Nat → ClassId} {A : Nat → Nat} {I : TI} {U : TU} {P : TP}  : MM l yX10_told cX10_told 2 (some .int) 5 D K A (I) (U) (P) [.ref (A 0), .int 0] (XE (some (.int (I 63 1))) (I) (U) (P)) := by
  refine MM.go (own := RX10) (lv0 := [some (.ref (A 0)), some (.int 0)]) rfl (by decide) rfl (Nat.le_of_ble_eq_true rfl) rfl ?_
  intro p e s m args below meth c C
  refine jx_iload_n C dX10_told_0 rfl ?_
  refine jx_iconst (v := 1) C dX10_told_1 (by decide) ?_
  refine jx_ic_ltT (tgt := 19) C dX10_told_2 (by decide) (by decide) ?_
  refine jx_iload_n C dX10_told_19 rfl ?_
  refine jx_tableIn (tgt := 76) C dX10_told_20 (by decide) (by decide) (off := 56) rfl (by decide) ?_
  refine jx_aload_n C dX10_told_76 rfl ?_
  refine jx_get C fl_10_40_9 dX10_told_77 (by decide) gg_0 rfl ?_
  refine jx_one C (jr_V C (c_4_latest) vw_10_177 (by decide) gg_63 rfl rfl ⟨Nat.le_of_ble_eq_true rfl, Nat.le_of_ble_eq_true rfl⟩ ⟨Nat.le_of_ble_eq_true rfl, Nat.le_of_ble_eq_true rfl⟩ dX10_told_80 rfl (Nat.le_of_ble_eq_true rfl)) ?_
  exact jx_iret C dX10_told_83 ⟨rfl, rfl, rfl, rfl⟩
set_option maxRecDepth 100000 in
set_option maxHeartbeats 4000000 in
theorem c_10_told6 {l : Launch} {D : va_G} {K : Nat → ClassId} {A : Nat → Nat} {I : TI} {U : TU} {P : TP}  : MM l yX10_told cX10_told 2 (some .int) 5 D K A (I) (U) (P) [.ref (A 0), .int 6] (XE (some (.int (I 44 2))) (I) (U) (P)) := by
  refine MM.go (own := RX10) (lv0 := [some (.ref (A 0)), some (.int 6)]) rfl (by decide) rfl (Nat.le_of_ble_eq_true rfl) rfl ?_
  intro p e s m args below meth c C
  refine jx_iload_n C dX10_told_0 rfl ?_
  refine jx_iconst (v := 1) C dX10_told_1 (by decide) ?_
  refine jx_ic_ltF (tgt := 19) C dX10_told_2 (by decide) (by decide) ?_
  refine jx_iload_n C dX10_told_5 rfl ?_
  refine jx_iconst (v := 5) C dX10_told_6 (by decide) ?_
  refine jx_ic_gtT (tgt := 19) C dX10_told_7 (by decide) (by decide) ?_
  refine jx_iload_n C dX10_told_19 rfl ?_
  refine jx_tableIn (tgt := 84) C dX10_told_20 (by decide) (by decide) (off := 64) rfl (by decide) ?_
  refine jx_aload_n C dX10_told_84 rfl ?_
  refine jx_get C fl_10_19_9 dX10_told_85 (by decide) gg_0 rfl ?_
  refine jx_one C (jr_V C (c_6_count) vw_10_99 (by decide) gg_44 rfl rfl ⟨Nat.le_of_ble_eq_true rfl, Nat.le_of_ble_eq_true rfl⟩ ⟨Nat.le_of_ble_eq_true rfl, Nat.le_of_ble_eq_true rfl⟩ dX10_told_88 rfl (Nat.le_of_ble_eq_true rfl)) ?_
  exact jx_iret C dX10_told_91 ⟨rfl, rfl, rfl, rfl⟩
set_option maxRecDepth 100000 in
set_option maxHeartbeats 4000000 in
theorem c_10_told7 {l : Launch} {D : va_G} {K : Nat → ClassId} {A : Nat → Nat} {I : TI} {U : TU} {P : TP}  : MM l yX10_told cX10_told 2 (some .int) 5 D K A (I) (U) (P) [.ref (A 0), .int 7] (XE (some (.int (I 49 1))) (I) (U) (P)) := by
  refine MM.go (own := RX10) (lv0 := [some (.ref (A 0)), some (.int 7)]) rfl (by decide) rfl (Nat.le_of_ble_eq_true rfl) rfl ?_
  intro p e s m args below meth c C
  refine jx_iload_n C dX10_told_0 rfl ?_
  refine jx_iconst (v := 1) C dX10_told_1 (by decide) ?_
  refine jx_ic_ltF (tgt := 19) C dX10_told_2 (by decide) (by decide) ?_
  refine jx_iload_n C dX10_told_5 rfl ?_
  refine jx_iconst (v := 5) C dX10_told_6 (by decide) ?_
  refine jx_ic_gtT (tgt := 19) C dX10_told_7 (by decide) (by decide) ?_
  refine jx_iload_n C dX10_told_19 rfl ?_
  refine jx_tableIn (tgt := 92) C dX10_told_20 (by decide) (by decide) (off := 72) rfl (by decide) ?_
  refine jx_aload_n C dX10_told_92 rfl ?_
  refine jx_get C fl_10_33_9 dX10_told_93 (by decide) gg_0 rfl ?_
  refine jx_one C (jr_V C (c_2_count) vw_10_152 (by decide) gg_49 rfl rfl ⟨Nat.le_of_ble_eq_true rfl, Nat.le_of_ble_eq_true rfl⟩ ⟨Nat.le_of_ble_eq_true rfl, Nat.le_of_ble_eq_true rfl⟩ dX10_told_96 rfl (Nat.le_of_ble_eq_true rfl)) ?_
  exact jx_iret C dX10_told_99 ⟨rfl, rfl, rfl, rfl⟩
set_option maxRecDepth 100000 in
set_option maxHeartbeats 4000000 in
theorem c_10_told8 {l : Launch} {D : va_G} {K : Nat → ClassId} {A : Nat → Nat} {I : TI} {U : TU} {P : TP}  : MM l yX10_told cX10_told 2 (some .int) 5 D K A (I) (U) (P) [.ref (A 0), .int 8] (XE (some (.int (I 0 6))) (I) (U) (P)) := by
  refine MM.go (own := RX10) (lv0 := [some (.ref (A 0)), some (.int 8)]) rfl (by decide) rfl (Nat.le_of_ble_eq_true rfl) rfl ?_
  intro p e s m args below meth c C
  refine jx_iload_n C dX10_told_0 rfl ?_
  refine jx_iconst (v := 1) C dX10_told_1 (by decide) ?_
  refine jx_ic_ltF (tgt := 19) C dX10_told_2 (by decide) (by decide) ?_
  refine jx_iload_n C dX10_told_5 rfl ?_
  refine jx_iconst (v := 5) C dX10_told_6 (by decide) ?_
  refine jx_ic_gtT (tgt := 19) C dX10_told_7 (by decide) (by decide) ?_
  refine jx_iload_n C dX10_told_19 rfl ?_
  refine jx_tableIn (tgt := 100) C dX10_told_20 (by decide) (by decide) (off := 80) rfl (by decide) ?_
  refine jx_aload_n C dX10_told_100 rfl ?_
  refine jx_get C fl_10_48_9 dX10_told_101 (by decide) gg_0 rfl ?_
  exact jx_iret C dX10_told_104 ⟨rfl, rfl, rfl, rfl⟩
set_option maxRecDepth 100000 in
set_option maxHeartbeats 4000000 in
theorem c_10_told9 {l : Launch} {D : va_G} {K : Nat → ClassId} {A : Nat → Nat} {I : TI} {U : TU} {P : TP}  : MM l yX10_told cX10_told 2 (some .int) 5 D K A (I) (U) (P) [.ref (A 0), .int 9] (XE (some (.int (I 0 7))) (I) (U) (P)) := by
  refine MM.go (own := RX10) (lv0 := [some (.ref (A 0)), some (.int 9)]) rfl (by decide) rfl (Nat.le_of_ble_eq_true rfl) rfl ?_
  intro p e s m args below meth c C
  refine jx_iload_n C dX10_told_0 rfl ?_
  refine jx_iconst (v := 1) C dX10_told_1 (by decide) ?_
  refine jx_ic_ltF (tgt := 19) C dX10_told_2 (by decide) (by decide) ?_
  refine jx_iload_n C dX10_told_5 rfl ?_
  refine jx_iconst (v := 5) C dX10_told_6 (by decide) ?_
  refine jx_ic_gtT (tgt := 19) C dX10_told_7 (by decide) (by decide) ?_
  refine jx_iload_n C dX10_told_19 rfl ?_
  refine jx_tableIn (tgt := 105) C dX10_told_20 (by decide) (by decide) (off := 85) rfl (by decide) ?_
  refine jx_aload_n C dX10_told_105 rfl ?_
  refine jx_get C fl_10_51_9 dX10_told_106 (by decide) gg_0 rfl ?_
  exact jx_iret C dX10_told_109 ⟨rfl, rfl, rfl, rfl⟩
set_option maxRecDepth 100000 in
set_option maxHeartbeats 4000000 in
theorem c_10_toldL {l : Launch} {D : va_G} {K : Nat → ClassId} {A : Nat → Nat} {I : TI} {U : TU} {P : TP} {v : Int32} (h : v < 1) (h0 : v.toInt < 0) : MM l yX10_told cX10_told 2 (some .int) 5 D K A (I) (U) (P) [.ref (A 0), .int v] (XE (some (.int ((-2147483648)))) (I) (U) (P)) := by
  refine MM.go (own := RX10) (lv0 := [some (.ref (A 0)), some (.int v)]) rfl (by decide) rfl (Nat.le_of_ble_eq_true rfl) rfl ?_
  intro p e s m args below meth c C
  refine jx_iload_n C dX10_told_0 rfl ?_
  refine jx_iconst (v := 1) C dX10_told_1 (by decide) ?_
  refine jx_ic_ltT (tgt := 19) C dX10_told_2 (by decide) h ?_
  refine jx_iload_n C dX10_told_19 rfl ?_
  refine jx_tableOut (tgt := 110) C dX10_told_20 (Or.inl h0) (by decide) ?_
  refine jx_ldc C dX10_told_110 qw_215 ?_
  exact jx_iret C dX10_told_112 ⟨rfl, rfl, rfl, rfl⟩
set_option maxRecDepth 100000 in
set_option maxHeartbeats 4000000 in
theorem c_10_toldH {l : Launch} {D : va_G} {K : Nat → ClassId} {A : Nat → Nat} {I : TI} {U : TU} {P : TP} {v : Int32} (h : ¬ v < 1) (h5 : 5 < v) (h0 : 9 < v.toInt) : MM l yX10_told cX10_told 2 (some .int) 5 D K A (I) (U) (P) [.ref (A 0), .int v] (XE (some (.int ((-2147483648)))) (I) (U) (P)) := by
  refine MM.go (own := RX10) (lv0 := [some (.ref (A 0)), some (.int v)]) rfl (by decide) rfl (Nat.le_of_ble_eq_true rfl) rfl ?_
  intro p e s m args below meth c C
  refine jx_iload_n C dX10_told_0 rfl ?_
  refine jx_iconst (v := 1) C dX10_told_1 (by decide) ?_
  refine jx_ic_ltF (tgt := 19) C dX10_told_2 h (by decide) ?_
  refine jx_iload_n C dX10_told_5 rfl ?_
  refine jx_iconst (v := 5) C dX10_told_6 (by decide) ?_
  refine jx_ic_gtT (tgt := 19) C dX10_told_7 (by decide) h5 ?_
  refine jx_iload_n C dX10_told_19 rfl ?_
  refine jx_tableOut (tgt := 110) C dX10_told_20 (Or.inr h0) (by decide) ?_
  refine jx_ldc C dX10_told_110 qw_215 ?_
  exact jx_iret C dX10_told_112 ⟨rfl, rfl, rfl, rfl⟩
