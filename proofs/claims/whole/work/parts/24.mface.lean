/-! the reference: its face, but for weave() and run() -/
set_option maxRecDepth 100000 in
set_option maxHeartbeats 4000000 in
theorem c_11_cutX {l : Launch} {D : va_G} {K : Nat → ClassId} {A : Nat → Nat} {I : TI} {U : TU} {P : TP} {f s0 : Int32} (hx : ¬ inL f s0) : MM l yX11_cut cX11_cut 5 (some .int) 5 D K A (I) (U) (P) [.ref (A 65), .int f, .int s0] (XE (some (.int ((-2147483648)))) (I) (U) (P)) := by
  refine MM.go (own := RX11) (lv0 := [some (.ref (A 65)), some (.int f), some (.int s0), none, none]) rfl (by decide) rfl (Nat.le_of_ble_eq_true rfl) rfl ?_
  intro p e s m args below meth c C
  refine jx_iload_n C dX11_cut_0 rfl ?_
  refine jx_iload_n C dX11_cut_1 rfl ?_
  refine jx_one C (jr_S C (c_11_isLane) sw_11_46 rfl ⟨Nat.le_of_ble_eq_true rfl, Nat.le_of_ble_eq_true rfl⟩ ⟨Nat.le_of_ble_eq_true rfl, Nat.le_of_ble_eq_true rfl⟩ dX11_cut_2 rfl (Nat.le_of_ble_eq_true rfl)) ?_
  rw [bI_f hx]
  refine jx_if_neF (tgt := 11) C dX11_cut_5 (by decide) (by decide) ?_
  refine jx_ldc C dX11_cut_8 qw_633 ?_
  exact jx_iret C dX11_cut_10 ⟨rfl, rfl, rfl, rfl⟩
set_option maxRecDepth 100000 in
set_option maxHeartbeats 4000000 in
theorem c_11_cutN {l : Launch} {D : va_G} {K : Nat → ClassId} {A : Nat → Nat} {I : TI} {U : TU} {P : TP} {a b : Nat} (ha : a < 4) (hb : b < 5) (h : I 66 (5 * a + b) = -1) : MM l yX11_cut cX11_cut 5 (some .int) 5 D K A (I) (U) (P) [.ref (A 65), .int (nI a), .int (nI b)] (XE (some (.int (0))) (up2 I 66 (5 * a + b) (-1)) (U) (P)) := by
  refine MM.go (own := RX11) (lv0 := [some (.ref (A 65)), some (.int (nI a)), some (.int (nI b)), none, none]) rfl (by decide) rfl (Nat.le_of_ble_eq_true rfl) rfl ?_
  intro p e s m args below meth c C
  refine jx_iload_n C dX11_cut_0 rfl ?_
  refine jx_iload_n C dX11_cut_1 rfl ?_
  refine jx_one C (jr_S C (c_11_isLane) sw_11_46 rfl ⟨Nat.le_of_ble_eq_true rfl, Nat.le_of_ble_eq_true rfl⟩ ⟨Nat.le_of_ble_eq_true rfl, Nat.le_of_ble_eq_true rfl⟩ dX11_cut_2 rfl (Nat.le_of_ble_eq_true rfl)) ?_
  rw [bI_t ⟨inF_nI ha, inS_nI hb⟩]
  refine jx_if_neT (tgt := 11) C dX11_cut_5 (by decide) (by decide) ?_
  refine jx_iconst (v := 5) C dX11_cut_11 (by decide) ?_
  refine jx_iload_n C dX11_cut_12 rfl ?_
  refine jx_imul C dX11_cut_13 ?_
  refine jx_iload_n C dX11_cut_14 rfl ?_
  refine jx_iadd C dX11_cut_15 ?_
  refine jx_istore_n (lv1 := [_, _, _, _, _]) C dX11_cut_16 (by decide) rfl ?_
  refine jx_aload_n C dX11_cut_17 rfl ?_
  refine jx_get C fl_11_7_10 dX11_cut_18 (by decide) gg_65 rfl ?_
  refine jx_iload_n C dX11_cut_21 rfl ?_
  refine jx_iald (5 * a + b) C dX11_cut_22 (by decide) gg_66 (pl5' a b) (by omega) (by decide) ?_
  refine jx_iconst (v := (-1)) C dX11_cut_23 (by decide) ?_
  refine jx_ic_neF (tgt := 31) C dX11_cut_24 h (by decide) ?_
  refine jx_iconst (v := 0) C dX11_cut_27 (by decide) ?_
  refine jx_goto (tgt := 32) C dX11_cut_28 (by decide) ?_
  refine jx_istore (lv1 := [_, _, _, _, _]) C dX11_cut_32 (by decide) rfl ?_
  refine jx_aload_n C dX11_cut_34 rfl ?_
  refine jx_get C fl_11_7_10 dX11_cut_35 (by decide) gg_65 rfl ?_
  refine jx_iload_n C dX11_cut_38 rfl ?_
  refine jx_iconst (v := (-1)) C dX11_cut_39 (by decide) ?_
  refine jx_iastI (5 * a + b) C dX11_cut_40 (by decide) (fun _ => gg_66) (pl5' a b) (by omega) (by decide) ?_
  refine jx_iload C dX11_cut_41 rfl ?_
  exact jx_iret C dX11_cut_43 ⟨rfl, rfl, rfl, rfl⟩
set_option maxRecDepth 100000 in
set_option maxHeartbeats 4000000 in
theorem c_11_cutS {l : Launch} {D : va_G} {K : Nat → ClassId} {A : Nat → Nat} {I : TI} {U : TU} {P : TP} {a b : Nat} (ha : a < 4) (hb : b < 5) (h : ¬ I 66 (5 * a + b) = -1) : MM l yX11_cut cX11_cut 5 (some .int) 5 D K A (I) (U) (P) [.ref (A 65), .int (nI a), .int (nI b)] (XE (some (.int (1))) (up2 I 66 (5 * a + b) (-1)) (U) (P)) := by
  refine MM.go (own := RX11) (lv0 := [some (.ref (A 65)), some (.int (nI a)), some (.int (nI b)), none, none]) rfl (by decide) rfl (Nat.le_of_ble_eq_true rfl) rfl ?_
  intro p e s m args below meth c C
  refine jx_iload_n C dX11_cut_0 rfl ?_
  refine jx_iload_n C dX11_cut_1 rfl ?_
  refine jx_one C (jr_S C (c_11_isLane) sw_11_46 rfl ⟨Nat.le_of_ble_eq_true rfl, Nat.le_of_ble_eq_true rfl⟩ ⟨Nat.le_of_ble_eq_true rfl, Nat.le_of_ble_eq_true rfl⟩ dX11_cut_2 rfl (Nat.le_of_ble_eq_true rfl)) ?_
  rw [bI_t ⟨inF_nI ha, inS_nI hb⟩]
  refine jx_if_neT (tgt := 11) C dX11_cut_5 (by decide) (by decide) ?_
  refine jx_iconst (v := 5) C dX11_cut_11 (by decide) ?_
  refine jx_iload_n C dX11_cut_12 rfl ?_
  refine jx_imul C dX11_cut_13 ?_
  refine jx_iload_n C dX11_cut_14 rfl ?_
  refine jx_iadd C dX11_cut_15 ?_
  refine jx_istore_n (lv1 := [_, _, _, _, _]) C dX11_cut_16 (by decide) rfl ?_
  refine jx_aload_n C dX11_cut_17 rfl ?_
  refine jx_get C fl_11_7_10 dX11_cut_18 (by decide) gg_65 rfl ?_
  refine jx_iload_n C dX11_cut_21 rfl ?_
  refine jx_iald (5 * a + b) C dX11_cut_22 (by decide) gg_66 (pl5' a b) (by omega) (by decide) ?_
  refine jx_iconst (v := (-1)) C dX11_cut_23 (by decide) ?_
  refine jx_ic_neT (tgt := 31) C dX11_cut_24 (by decide) h ?_
  refine jx_iconst (v := 1) C dX11_cut_31 (by decide) ?_
  refine jx_istore (lv1 := [_, _, _, _, _]) C dX11_cut_32 (by decide) rfl ?_
  refine jx_aload_n C dX11_cut_34 rfl ?_
  refine jx_get C fl_11_7_10 dX11_cut_35 (by decide) gg_65 rfl ?_
  refine jx_iload_n C dX11_cut_38 rfl ?_
  refine jx_iconst (v := (-1)) C dX11_cut_39 (by decide) ?_
  refine jx_iastI (5 * a + b) C dX11_cut_40 (by decide) (fun _ => gg_66) (pl5' a b) (by omega) (by decide) ?_
  refine jx_iload C dX11_cut_41 rfl ?_
  exact jx_iret C dX11_cut_43 ⟨rfl, rfl, rfl, rfl⟩
set_option maxRecDepth 100000 in
set_option maxHeartbeats 4000000 in
theorem c_11_tieX1 {l : Launch} {D : va_G} {K : Nat → ClassId} {A : Nat → Nat} {I : TI} {U : TU} {P : TP} {f s0 : Int32} (hx : ¬ inL f s0) {n : Int32} : MM l yX11_tie cX11_tie 5 (some .int) 5 D K A (I) (U) (P) [.ref (A 65), .int f, .int s0, .int n] (XE (some (.int ((-2147483648)))) (I) (U) (P)) := by
  refine MM.go (own := RX11) (lv0 := [some (.ref (A 65)), some (.int f), some (.int s0), some (.int n), none]) rfl (by decide) rfl (Nat.le_of_ble_eq_true rfl) rfl ?_
  intro p e s m args below meth c C
  refine jx_iload_n C dX11_tie_0 rfl ?_
  refine jx_iload_n C dX11_tie_1 rfl ?_
  refine jx_one C (jr_S C (c_11_isLane) sw_11_46 rfl ⟨Nat.le_of_ble_eq_true rfl, Nat.le_of_ble_eq_true rfl⟩ ⟨Nat.le_of_ble_eq_true rfl, Nat.le_of_ble_eq_true rfl⟩ dX11_tie_2 rfl (Nat.le_of_ble_eq_true rfl)) ?_
  rw [bI_f hx]
  refine jx_if_eqT (tgt := 15) C dX11_tie_5 (by decide) (by decide) ?_
  refine jx_ldc C dX11_tie_15 qw_633 ?_
  exact jx_iret C dX11_tie_17 ⟨rfl, rfl, rfl, rfl⟩
set_option maxRecDepth 100000 in
set_option maxHeartbeats 4000000 in
theorem c_11_tieX2 {l : Launch} {D : va_G} {K : Nat → ClassId} {A : Nat → Nat} {I : TI} {U : TU} {P : TP} {a b : Nat} (ha : a < 4) (hb : b < 5) {n : Int32} (hx : ¬ inF n) : MM l yX11_tie cX11_tie 5 (some .int) 5 D K A (I) (U) (P) [.ref (A 65), .int (nI a), .int (nI b), .int n] (XE (some (.int ((-2147483648)))) (I) (U) (P)) := by
  refine MM.go (own := RX11) (lv0 := [some (.ref (A 65)), some (.int (nI a)), some (.int (nI b)), some (.int n), none]) rfl (by decide) rfl (Nat.le_of_ble_eq_true rfl) rfl ?_
  intro p e s m args below meth c C
  refine jx_iload_n C dX11_tie_0 rfl ?_
  refine jx_iload_n C dX11_tie_1 rfl ?_
  refine jx_one C (jr_S C (c_11_isLane) sw_11_46 rfl ⟨Nat.le_of_ble_eq_true rfl, Nat.le_of_ble_eq_true rfl⟩ ⟨Nat.le_of_ble_eq_true rfl, Nat.le_of_ble_eq_true rfl⟩ dX11_tie_2 rfl (Nat.le_of_ble_eq_true rfl)) ?_
  rw [bI_t ⟨inF_nI ha, inS_nI hb⟩]
  refine jx_if_eqF (tgt := 15) C dX11_tie_5 (by decide) (by decide) ?_
  refine jx_iload_n C dX11_tie_8 rfl ?_
  refine jx_one C (jr_S C (c_11_isFrame) sw_11_38 rfl ⟨Nat.le_of_ble_eq_true rfl, Nat.le_of_ble_eq_true rfl⟩ ⟨Nat.le_of_ble_eq_true rfl, Nat.le_of_ble_eq_true rfl⟩ dX11_tie_9 rfl (Nat.le_of_ble_eq_true rfl)) ?_
  rw [bI_f hx]
  refine jx_if_neF (tgt := 18) C dX11_tie_12 (by decide) (by decide) ?_
  refine jx_ldc C dX11_tie_15 qw_633 ?_
  exact jx_iret C dX11_tie_17 ⟨rfl, rfl, rfl, rfl⟩
set_option maxRecDepth 100000 in
set_option maxHeartbeats 4000000 in
theorem c_11_tieN {l : Launch} {D : va_G} {K : Nat → ClassId} {A : Nat → Nat} {I : TI} {U : TU} {P : TP} {a b : Nat} (ha : a < 4) (hb : b < 5) {o2 : Nat} (hc : o2 < 4) (h : I 66 (5 * o2 + b) = -1) : MM l yX11_tie cX11_tie 5 (some .int) 5 D K A (I) (U) (P) [.ref (A 65), .int (nI a), .int (nI b), .int (nI o2)] (XE (some (.int (0))) (mbg (up2 I 66 (5 * a + b) (I 66 (5 * o2 + b)))) (U) (P)) := by
  refine MM.go (own := RX11) (lv0 := [some (.ref (A 65)), some (.int (nI a)), some (.int (nI b)), some (.int (nI o2)), none]) rfl (by decide) rfl (Nat.le_of_ble_eq_true rfl) rfl ?_
  intro p e s m args below meth c C
  refine jx_iload_n C dX11_tie_0 rfl ?_
  refine jx_iload_n C dX11_tie_1 rfl ?_
  refine jx_one C (jr_S C (c_11_isLane) sw_11_46 rfl ⟨Nat.le_of_ble_eq_true rfl, Nat.le_of_ble_eq_true rfl⟩ ⟨Nat.le_of_ble_eq_true rfl, Nat.le_of_ble_eq_true rfl⟩ dX11_tie_2 rfl (Nat.le_of_ble_eq_true rfl)) ?_
  rw [bI_t ⟨inF_nI ha, inS_nI hb⟩]
  refine jx_if_eqF (tgt := 15) C dX11_tie_5 (by decide) (by decide) ?_
  refine jx_iload_n C dX11_tie_8 rfl ?_
  refine jx_one C (jr_S C (c_11_isFrame) sw_11_38 rfl ⟨Nat.le_of_ble_eq_true rfl, Nat.le_of_ble_eq_true rfl⟩ ⟨Nat.le_of_ble_eq_true rfl, Nat.le_of_ble_eq_true rfl⟩ dX11_tie_9 rfl (Nat.le_of_ble_eq_true rfl)) ?_
  rw [bI_t (inF_nI hc)]
  refine jx_if_neT (tgt := 18) C dX11_tie_12 (by decide) (by decide) ?_
  refine jx_aload_n C dX11_tie_18 rfl ?_
  refine jx_get C fl_11_7_10 dX11_tie_19 (by decide) gg_65 rfl ?_
  refine jx_iconst (v := 5) C dX11_tie_22 (by decide) ?_
  refine jx_iload_n C dX11_tie_23 rfl ?_
  refine jx_imul C dX11_tie_24 ?_
  refine jx_iload_n C dX11_tie_25 rfl ?_
  refine jx_iadd C dX11_tie_26 ?_
  refine jx_iald (5 * o2 + b) C dX11_tie_27 (by decide) gg_66 (pl5' o2 b) (by omega) (by decide) ?_
  refine jx_istore (lv1 := [_, _, _, _, _]) C dX11_tie_28 (by decide) rfl ?_
  refine jx_aload_n C dX11_tie_30 rfl ?_
  refine jx_get C fl_11_7_10 dX11_tie_31 (by decide) gg_65 rfl ?_
  refine jx_iconst (v := 5) C dX11_tie_34 (by decide) ?_
  refine jx_iload_n C dX11_tie_35 rfl ?_
  refine jx_imul C dX11_tie_36 ?_
  refine jx_iload_n C dX11_tie_37 rfl ?_
  refine jx_iadd C dX11_tie_38 ?_
  refine jx_iload C dX11_tie_39 rfl ?_
  refine jx_iastI (5 * a + b) C dX11_tie_41 (by decide) (fun _ => gg_66) (pl5' a b) (by omega) (by decide) ?_
  refine jx_aload_n C dX11_tie_42 rfl ?_
  refine jx_iload C dX11_tie_43 rfl ?_
  refine jx_iconst (v := (-1)) C dX11_tie_45 (by decide) ?_
  refine jx_ic_neF (tgt := 53) C dX11_tie_46 h (by decide) ?_
  refine jx_iconst (v := 0) C dX11_tie_49 (by decide) ?_
  refine jx_goto (tgt := 60) C dX11_tie_50 (by decide) ?_
  refine jx_one C (jr_V C (c_11_good) vw_11_58 (by decide) gg_65 rfl rfl ⟨Nat.le_of_ble_eq_true rfl, Nat.le_of_ble_eq_true rfl⟩ ⟨Nat.le_of_ble_eq_true rfl, Nat.le_of_ble_eq_true rfl⟩ dX11_tie_60 rfl (Nat.le_of_ble_eq_true rfl)) ?_
  exact jx_iret C dX11_tie_63 ⟨rfl, rfl, rfl, rfl⟩
set_option maxRecDepth 100000 in
set_option maxHeartbeats 4000000 in
theorem c_11_tieS {l : Launch} {D : va_G} {K : Nat → ClassId} {A : Nat → Nat} {I : TI} {U : TU} {P : TP} {a b : Nat} (ha : a < 4) (hb : b < 5) {o2 r : Nat} (hc : o2 < 4) (h : I 66 (5 * o2 + b) = nI r) (hr : r < 20) : MM l yX11_tie cX11_tie 5 (some .int) 5 D K A (I) (U) (P) [.ref (A 65), .int (nI a), .int (nI b), .int (nI o2)] (XE (some (.int (I 67 r))) (mbg (up2 I 66 (5 * a + b) (I 66 (5 * o2 + b)))) (U) (P)) := by
  refine MM.go (own := RX11) (lv0 := [some (.ref (A 65)), some (.int (nI a)), some (.int (nI b)), some (.int (nI o2)), none]) rfl (by decide) rfl (Nat.le_of_ble_eq_true rfl) rfl ?_
  intro p e s m args below meth c C
  refine jx_iload_n C dX11_tie_0 rfl ?_
  refine jx_iload_n C dX11_tie_1 rfl ?_
  refine jx_one C (jr_S C (c_11_isLane) sw_11_46 rfl ⟨Nat.le_of_ble_eq_true rfl, Nat.le_of_ble_eq_true rfl⟩ ⟨Nat.le_of_ble_eq_true rfl, Nat.le_of_ble_eq_true rfl⟩ dX11_tie_2 rfl (Nat.le_of_ble_eq_true rfl)) ?_
  rw [bI_t ⟨inF_nI ha, inS_nI hb⟩]
  refine jx_if_eqF (tgt := 15) C dX11_tie_5 (by decide) (by decide) ?_
  refine jx_iload_n C dX11_tie_8 rfl ?_
  refine jx_one C (jr_S C (c_11_isFrame) sw_11_38 rfl ⟨Nat.le_of_ble_eq_true rfl, Nat.le_of_ble_eq_true rfl⟩ ⟨Nat.le_of_ble_eq_true rfl, Nat.le_of_ble_eq_true rfl⟩ dX11_tie_9 rfl (Nat.le_of_ble_eq_true rfl)) ?_
  rw [bI_t (inF_nI hc)]
  refine jx_if_neT (tgt := 18) C dX11_tie_12 (by decide) (by decide) ?_
  refine jx_aload_n C dX11_tie_18 rfl ?_
  refine jx_get C fl_11_7_10 dX11_tie_19 (by decide) gg_65 rfl ?_
  refine jx_iconst (v := 5) C dX11_tie_22 (by decide) ?_
  refine jx_iload_n C dX11_tie_23 rfl ?_
  refine jx_imul C dX11_tie_24 ?_
  refine jx_iload_n C dX11_tie_25 rfl ?_
  refine jx_iadd C dX11_tie_26 ?_
  refine jx_iald (5 * o2 + b) C dX11_tie_27 (by decide) gg_66 (pl5' o2 b) (by omega) (by decide) ?_
  refine jx_istore (lv1 := [_, _, _, _, _]) C dX11_tie_28 (by decide) rfl ?_
  refine jx_aload_n C dX11_tie_30 rfl ?_
  refine jx_get C fl_11_7_10 dX11_tie_31 (by decide) gg_65 rfl ?_
  refine jx_iconst (v := 5) C dX11_tie_34 (by decide) ?_
  refine jx_iload_n C dX11_tie_35 rfl ?_
  refine jx_imul C dX11_tie_36 ?_
  refine jx_iload_n C dX11_tie_37 rfl ?_
  refine jx_iadd C dX11_tie_38 ?_
  refine jx_iload C dX11_tie_39 rfl ?_
  refine jx_iastI (5 * a + b) C dX11_tie_41 (by decide) (fun _ => gg_66) (pl5' a b) (by omega) (by decide) ?_
  refine jx_aload_n C dX11_tie_42 rfl ?_
  refine jx_iload C dX11_tie_43 rfl ?_
  refine jx_iconst (v := (-1)) C dX11_tie_45 (by decide) ?_
  refine jx_ic_neT (tgt := 53) C dX11_tie_46 (by decide) (by rw [h]; exact nI_m1 (by omega)) ?_
  refine jx_aload_n C dX11_tie_53 rfl ?_
  refine jx_get C fl_11_13_10 dX11_tie_54 (by decide) gg_65 rfl ?_
  refine jx_iload C dX11_tie_57 rfl ?_
  refine jx_iald (r) C dX11_tie_59 (by decide) gg_67 h hr (by decide) ?_
  rw [up2_ne (by omega)]
  refine jx_one C (jr_V C (c_11_good) vw_11_58 (by decide) gg_65 rfl rfl ⟨Nat.le_of_ble_eq_true rfl, Nat.le_of_ble_eq_true rfl⟩ ⟨Nat.le_of_ble_eq_true rfl, Nat.le_of_ble_eq_true rfl⟩ dX11_tie_60 rfl (Nat.le_of_ble_eq_true rfl)) ?_
  exact jx_iret C dX11_tie_63 ⟨rfl, rfl, rfl, rfl⟩
set_option maxRecDepth 100000 in
set_option maxHeartbeats 4000000 in
theorem c_11_endsX {l : Launch} {D : va_G} {K : Nat → ClassId} {A : Nat → Nat} {I : TI} {U : TU} {P : TP} {f s0 : Int32} (hx : ¬ inL f s0) : MM l yX11_ends cX11_ends 4 (some .int) 5 D K A (I) (U) (P) [.ref (A 65), .int f, .int s0] (XE (some (.int ((-2147483648)))) (I) (U) (P)) := by
  refine MM.go (own := RX11) (lv0 := [some (.ref (A 65)), some (.int f), some (.int s0), none]) rfl (by decide) rfl (Nat.le_of_ble_eq_true rfl) rfl ?_
  intro p e s m args below meth c C
  refine jx_iload_n C dX11_ends_0 rfl ?_
  refine jx_iload_n C dX11_ends_1 rfl ?_
  refine jx_one C (jr_S C (c_11_isLane) sw_11_46 rfl ⟨Nat.le_of_ble_eq_true rfl, Nat.le_of_ble_eq_true rfl⟩ ⟨Nat.le_of_ble_eq_true rfl, Nat.le_of_ble_eq_true rfl⟩ dX11_ends_2 rfl (Nat.le_of_ble_eq_true rfl)) ?_
  rw [bI_f hx]
  refine jx_if_neF (tgt := 11) C dX11_ends_5 (by decide) (by decide) ?_
  refine jx_ldc C dX11_ends_8 qw_633 ?_
  exact jx_iret C dX11_ends_10 ⟨rfl, rfl, rfl, rfl⟩
set_option maxRecDepth 100000 in
set_option maxHeartbeats 4000000 in
theorem c_11_endsN {l : Launch} {D : va_G} {K : Nat → ClassId} {A : Nat → Nat} {I : TI} {U : TU} {P : TP} {a b : Nat} (ha : a < 4) (hb : b < 5) (h : I 66 (5 * a + b) = -1) : MM l yX11_ends cX11_ends 4 (some .int) 5 D K A (I) (U) (P) [.ref (A 65), .int (nI a), .int (nI b)] (XE (some (.int (0))) (mtel I 1) (U) (P)) := by
  refine MM.go (own := RX11) (lv0 := [some (.ref (A 65)), some (.int (nI a)), some (.int (nI b)), none]) rfl (by decide) rfl (Nat.le_of_ble_eq_true rfl) rfl ?_
  intro p e s m args below meth c C
  refine jx_iload_n C dX11_ends_0 rfl ?_
  refine jx_iload_n C dX11_ends_1 rfl ?_
  refine jx_one C (jr_S C (c_11_isLane) sw_11_46 rfl ⟨Nat.le_of_ble_eq_true rfl, Nat.le_of_ble_eq_true rfl⟩ ⟨Nat.le_of_ble_eq_true rfl, Nat.le_of_ble_eq_true rfl⟩ dX11_ends_2 rfl (Nat.le_of_ble_eq_true rfl)) ?_
  rw [bI_t ⟨inF_nI ha, inS_nI hb⟩]
  refine jx_if_neT (tgt := 11) C dX11_ends_5 (by decide) (by decide) ?_
  refine jx_aload_n C dX11_ends_11 rfl ?_
  refine jx_get C fl_11_7_10 dX11_ends_12 (by decide) gg_65 rfl ?_
  refine jx_iconst (v := 5) C dX11_ends_15 (by decide) ?_
  refine jx_iload_n C dX11_ends_16 rfl ?_
  refine jx_imul C dX11_ends_17 ?_
  refine jx_iload_n C dX11_ends_18 rfl ?_
  refine jx_iadd C dX11_ends_19 ?_
  refine jx_iald (5 * a + b) C dX11_ends_20 (by decide) gg_66 (pl5' a b) (by omega) (by decide) ?_
  refine jx_istore_n (lv1 := [_, _, _, _]) C dX11_ends_21 (by decide) rfl ?_
  refine jx_iload_n C dX11_ends_22 rfl ?_
  refine jx_iconst (v := (-1)) C dX11_ends_23 (by decide) ?_
  refine jx_ic_neF (tgt := 35) C dX11_ends_24 h (by decide) ?_
  refine jx_aload_n C dX11_ends_27 rfl ?_
  refine jx_iconst (v := 1) C dX11_ends_28 (by decide) ?_
  refine jx_one C (jr_V C (c_11_bad (f := 1) (by decide)) vw_11_51 (by decide) gg_65 rfl rfl ⟨Nat.le_of_ble_eq_true rfl, Nat.le_of_ble_eq_true rfl⟩ ⟨Nat.le_of_ble_eq_true rfl, Nat.le_of_ble_eq_true rfl⟩ dX11_ends_29 rfl (Nat.le_of_ble_eq_true rfl)) ?_
  refine jx_goto (tgt := 45) C dX11_ends_32 (by decide) ?_
  exact jx_iret C dX11_ends_45 ⟨rfl, rfl, rfl, rfl⟩
set_option maxRecDepth 100000 in
set_option maxHeartbeats 4000000 in
theorem c_11_endsS {l : Launch} {D : va_G} {K : Nat → ClassId} {A : Nat → Nat} {I : TI} {U : TU} {P : TP} {a b : Nat} (ha : a < 4) (hb : b < 5) {r : Nat} (h : I 66 (5 * a + b) = nI r) (hr : r < 20) : MM l yX11_ends cX11_ends 4 (some .int) 5 D K A (I) (U) (P) [.ref (A 65), .int (nI a), .int (nI b)] (XE (some (.int (I 67 r))) (mbg I) (U) (P)) := by
  refine MM.go (own := RX11) (lv0 := [some (.ref (A 65)), some (.int (nI a)), some (.int (nI b)), none]) rfl (by decide) rfl (Nat.le_of_ble_eq_true rfl) rfl ?_
  intro p e s m args below meth c C
  refine jx_iload_n C dX11_ends_0 rfl ?_
  refine jx_iload_n C dX11_ends_1 rfl ?_
  refine jx_one C (jr_S C (c_11_isLane) sw_11_46 rfl ⟨Nat.le_of_ble_eq_true rfl, Nat.le_of_ble_eq_true rfl⟩ ⟨Nat.le_of_ble_eq_true rfl, Nat.le_of_ble_eq_true rfl⟩ dX11_ends_2 rfl (Nat.le_of_ble_eq_true rfl)) ?_
  rw [bI_t ⟨inF_nI ha, inS_nI hb⟩]
  refine jx_if_neT (tgt := 11) C dX11_ends_5 (by decide) (by decide) ?_
  refine jx_aload_n C dX11_ends_11 rfl ?_
  refine jx_get C fl_11_7_10 dX11_ends_12 (by decide) gg_65 rfl ?_
  refine jx_iconst (v := 5) C dX11_ends_15 (by decide) ?_
  refine jx_iload_n C dX11_ends_16 rfl ?_
  refine jx_imul C dX11_ends_17 ?_
  refine jx_iload_n C dX11_ends_18 rfl ?_
  refine jx_iadd C dX11_ends_19 ?_
  refine jx_iald (5 * a + b) C dX11_ends_20 (by decide) gg_66 (pl5' a b) (by omega) (by decide) ?_
  refine jx_istore_n (lv1 := [_, _, _, _]) C dX11_ends_21 (by decide) rfl ?_
  refine jx_iload_n C dX11_ends_22 rfl ?_
  refine jx_iconst (v := (-1)) C dX11_ends_23 (by decide) ?_
  refine jx_ic_neT (tgt := 35) C dX11_ends_24 (by decide) (by rw [h]; exact nI_m1 (by omega)) ?_
  refine jx_aload_n C dX11_ends_35 rfl ?_
  refine jx_aload_n C dX11_ends_36 rfl ?_
  refine jx_get C fl_11_13_10 dX11_ends_37 (by decide) gg_65 rfl ?_
  refine jx_iload_n C dX11_ends_40 rfl ?_
  refine jx_iald (r) C dX11_ends_41 (by decide) gg_67 h hr (by decide) ?_
  refine jx_one C (jr_V C (c_11_good) vw_11_58 (by decide) gg_65 rfl rfl ⟨Nat.le_of_ble_eq_true rfl, Nat.le_of_ble_eq_true rfl⟩ ⟨Nat.le_of_ble_eq_true rfl, Nat.le_of_ble_eq_true rfl⟩ dX11_ends_42 rfl (Nat.le_of_ble_eq_true rfl)) ?_
  exact jx_iret C dX11_ends_45 ⟨rfl, rfl, rfl, rfl⟩
set_option maxRecDepth 100000 in
set_option maxHeartbeats 4000000 in
theorem c_11_spoolX {l : Launch} {D : va_G} {K : Nat → ClassId} {A : Nat → Nat} {I : TI} {U : TU} {P : TP} {v : Int32} (h : I 65 5 = 16) : MM l yX11_spool cX11_spool 2 (some .int) 5 D K A (I) (U) (P) [.ref (A 65), .int v] (XE (some (.int ((-2147483648)))) (I) (U) (P)) := by
  refine MM.go (own := RX11) (lv0 := [some (.ref (A 65)), some (.int v)]) rfl (by decide) rfl (Nat.le_of_ble_eq_true rfl) rfl ?_
  intro p e s m args below meth c C
  refine jx_aload_n C dX11_spool_0 rfl ?_
  refine jx_get C fl_11_61_10 dX11_spool_1 (by decide) gg_65 rfl ?_
  refine jx_bipush (v := 16) C dX11_spool_4 (by decide) ?_
  refine jx_ic_neF (tgt := 12) C dX11_spool_6 h (by decide) ?_
  refine jx_ldc C dX11_spool_9 qw_633 ?_
  exact jx_iret C dX11_spool_11 ⟨rfl, rfl, rfl, rfl⟩
set_option maxRecDepth 100000 in
set_option maxHeartbeats 4000000 in
theorem c_11_spool {l : Launch} {D : va_G} {K : Nat → ClassId} {A : Nat → Nat} {I : TI} {U : TU} {P : TP} {v : Int32} {co : Nat} (hco : I 65 5 = nI co) (h2 : co < 16) : MM l yX11_spool cX11_spool 2 (some .int) 5 D K A (I) (U) (P) [.ref (A 65), .int v] (XE (some (.int (nI (co + 1)))) (up2 (up2 I 70 co v) 65 5 (nI (co + 1))) (U) (P)) := by
  refine MM.go (own := RX11) (lv0 := [some (.ref (A 65)), some (.int v)]) rfl (by decide) rfl (Nat.le_of_ble_eq_true rfl) rfl ?_
  intro p e s m args below meth c C
  refine jx_aload_n C dX11_spool_0 rfl ?_
  refine jx_get C fl_11_61_10 dX11_spool_1 (by decide) gg_65 rfl ?_
  refine jx_bipush (v := 16) C dX11_spool_4 (by decide) ?_
  refine jx_ic_neT (tgt := 12) C dX11_spool_6 (by decide) (by rw [hco, show (16 : Int32) = nI 16 from rfl, nI_eq (by omega) (by decide)]; omega) ?_
  refine jx_aload_n C dX11_spool_12 rfl ?_
  refine jx_get C fl_11_23_10 dX11_spool_13 (by decide) gg_65 rfl ?_
  refine jx_aload_n C dX11_spool_16 rfl ?_
  refine jx_get C fl_11_61_10 dX11_spool_17 (by decide) gg_65 rfl ?_
  refine jx_iload_n C dX11_spool_20 rfl ?_
  refine jx_iastI (co) C dX11_spool_21 (by decide) (fun _ => gg_70) hco h2 (by decide) ?_
  refine jx_aload_n C dX11_spool_22 rfl ?_
  refine jx_dup C dX11_spool_23 rfl ?_
  refine jx_get C fl_11_61_10 dX11_spool_24 (by decide) gg_65 rfl ?_
  refine jx_iconst (v := 1) C dX11_spool_27 (by decide) ?_
  refine jx_iadd C dX11_spool_28 ?_
  rw [up2_ne (by omega), hco, nI_1]
  refine jx_putI C fp_11_61_10 dX11_spool_29 (by decide) gg_65 (Nat.le_of_ble_eq_true rfl) rfl ?_
  refine jx_aload_n C dX11_spool_32 rfl ?_
  refine jx_get C fl_11_61_10 dX11_spool_33 (by decide) gg_65 rfl ?_
  rw [up2_same]
  exact jx_iret C dX11_spool_36 ⟨rfl, rfl, rfl, rfl⟩
set_option maxRecDepth 100000 in
set_option maxHeartbeats 4000000 in
theorem c_11_actX1a {l : Launch} {D : va_G} {K : Nat → ClassId} {A : Nat → Nat} {I : TI} {U : TU} {P : TP} {kd f s0 x v : Int32} (h : kd < 0) : MM l yX11_act cX11_act 6 (some .int) 5 D K A (I) (U) (P) [.ref (A 65), .int kd, .int f, .int s0, .int x, .int v] (XE (some (.int ((-2147483648)))) (I) (U) (P)) := by
  refine MM.go (own := RX11) (lv0 := [some (.ref (A 65)), some (.int kd), some (.int f), some (.int s0), some (.int x), some (.int v)]) rfl (by decide) rfl (Nat.le_of_ble_eq_true rfl) rfl ?_
  intro p e s m args below meth c C
  refine jx_iload_n C dX11_act_0 rfl ?_
  refine jx_if_ltT (tgt := 17) C dX11_act_1 (by decide) h ?_
  refine jx_ldc C dX11_act_17 qw_633 ?_
  exact jx_iret C dX11_act_19 ⟨rfl, rfl, rfl, rfl⟩
set_option maxRecDepth 100000 in
set_option maxHeartbeats 4000000 in
theorem c_11_actX1b {l : Launch} {D : va_G} {K : Nat → ClassId} {A : Nat → Nat} {I : TI} {U : TU} {P : TP} {kd f s0 x v : Int32} (h : ¬ kd < 0) (h2 : 4 < kd) : MM l yX11_act cX11_act 6 (some .int) 5 D K A (I) (U) (P) [.ref (A 65), .int kd, .int f, .int s0, .int x, .int v] (XE (some (.int ((-2147483648)))) (I) (U) (P)) := by
  refine MM.go (own := RX11) (lv0 := [some (.ref (A 65)), some (.int kd), some (.int f), some (.int s0), some (.int x), some (.int v)]) rfl (by decide) rfl (Nat.le_of_ble_eq_true rfl) rfl ?_
  intro p e s m args below meth c C
  refine jx_iload_n C dX11_act_0 rfl ?_
  refine jx_if_ltF (tgt := 17) C dX11_act_1 h (by decide) ?_
  refine jx_iload_n C dX11_act_4 rfl ?_
  refine jx_iconst (v := 4) C dX11_act_5 (by decide) ?_
  refine jx_ic_gtT (tgt := 17) C dX11_act_6 (by decide) h2 ?_
  refine jx_ldc C dX11_act_17 qw_633 ?_
  exact jx_iret C dX11_act_19 ⟨rfl, rfl, rfl, rfl⟩
set_option maxRecDepth 100000 in
set_option maxHeartbeats 4000000 in
theorem c_11_actX2 {l : Launch} {D : va_G} {K : Nat → ClassId} {A : Nat → Nat} {I : TI} {U : TU} {P : TP} {kd x v : Int32} (hk : inK kd) {f s0 : Int32} (hx : ¬ inL f s0) : MM l yX11_act cX11_act 6 (some .int) 5 D K A (I) (U) (P) [.ref (A 65), .int kd, .int f, .int s0, .int x, .int v] (XE (some (.int ((-2147483648)))) (I) (U) (P)) := by
  refine MM.go (own := RX11) (lv0 := [some (.ref (A 65)), some (.int kd), some (.int f), some (.int s0), some (.int x), some (.int v)]) rfl (by decide) rfl (Nat.le_of_ble_eq_true rfl) rfl ?_
  intro p e s m args below meth c C
  refine jx_iload_n C dX11_act_0 rfl ?_
  refine jx_if_ltF (tgt := 17) C dX11_act_1 hk.1 (by decide) ?_
  refine jx_iload_n C dX11_act_4 rfl ?_
  refine jx_iconst (v := 4) C dX11_act_5 (by decide) ?_
  refine jx_ic_gtF (tgt := 17) C dX11_act_6 hk.2 (by decide) ?_
  refine jx_iload_n C dX11_act_9 rfl ?_
  refine jx_iload_n C dX11_act_10 rfl ?_
  refine jx_one C (jr_S C (c_11_isLane) sw_11_46 rfl ⟨Nat.le_of_ble_eq_true rfl, Nat.le_of_ble_eq_true rfl⟩ ⟨Nat.le_of_ble_eq_true rfl, Nat.le_of_ble_eq_true rfl⟩ dX11_act_11 rfl (Nat.le_of_ble_eq_true rfl)) ?_
  rw [bI_f hx]
  refine jx_if_neF (tgt := 20) C dX11_act_14 (by decide) (by decide) ?_
  refine jx_ldc C dX11_act_17 qw_633 ?_
  exact jx_iret C dX11_act_19 ⟨rfl, rfl, rfl, rfl⟩
set_option maxRecDepth 100000 in
set_option maxHeartbeats 4000000 in
theorem c_11_act {l : Launch} {D : va_G} {K : Nat → ClassId} {A : Nat → Nat} {I : TI} {U : TU} {P : TP} {kd : Nat} {x v : Int32} (hk : kd < 5) {a b : Nat} (ha : a < 4) (hb : b < 5) (hs : mokS I) (ok : okR I) (hN : mokN I) (hU : mokU U) : MM l yX11_act cX11_act 6 (some .int) 5 D K A (I) (U) (P) [.ref (A 65), .int (nI kd), .int (nI a), .int (nI b), .int x, .int v] (XE (some (.int (dn kd (5 * a + b) b x v I U).1)) (dn kd (5 * a + b) b x v I U).2.1 (dn kd (5 * a + b) b x v I U).2.2 P) := by
  refine MM.go (own := RX11) (lv0 := [some (.ref (A 65)), some (.int (nI kd)), some (.int (nI a)), some (.int (nI b)), some (.int x), some (.int v)]) rfl (by decide) rfl (Nat.le_of_ble_eq_true rfl) rfl ?_
  intro p e s m args below meth c C
  refine jx_iload_n C dX11_act_0 rfl ?_
  refine jx_if_ltF (tgt := 17) C dX11_act_1 (inK_nI hk).1 (by decide) ?_
  refine jx_iload_n C dX11_act_4 rfl ?_
  refine jx_iconst (v := 4) C dX11_act_5 (by decide) ?_
  refine jx_ic_gtF (tgt := 17) C dX11_act_6 (inK_nI hk).2 (by decide) ?_
  refine jx_iload_n C dX11_act_9 rfl ?_
  refine jx_iload_n C dX11_act_10 rfl ?_
  refine jx_one C (jr_S C (c_11_isLane) sw_11_46 rfl ⟨Nat.le_of_ble_eq_true rfl, Nat.le_of_ble_eq_true rfl⟩ ⟨Nat.le_of_ble_eq_true rfl, Nat.le_of_ble_eq_true rfl⟩ dX11_act_11 rfl (Nat.le_of_ble_eq_true rfl)) ?_
  rw [bI_t ⟨inF_nI ha, inS_nI hb⟩]
  refine jx_if_neT (tgt := 20) C dX11_act_14 (by decide) (by decide) ?_
  refine jx_aload_n C dX11_act_20 rfl ?_
  refine jx_iload_n C dX11_act_21 rfl ?_
  refine jx_iload_n C dX11_act_22 rfl ?_
  refine jx_iload_n C dX11_act_23 rfl ?_
  refine jx_iload C dX11_act_24 rfl ?_
  refine jx_iload C dX11_act_26 rfl ?_
  refine jx_one C (jr_V C (c_11_done hk ha hb hs ok hN hU) vw_11_100 (by decide) gg_65 rfl rfl ⟨Nat.le_of_ble_eq_true rfl, Nat.le_of_ble_eq_true rfl⟩ ⟨Nat.le_of_ble_eq_true rfl, Nat.le_of_ble_eq_true rfl⟩ dX11_act_28 rfl (Nat.le_of_ble_eq_true rfl)) ?_
  exact jx_iret C dX11_act_31 ⟨rfl, rfl, rfl, rfl⟩
set_option maxRecDepth 100000 in
set_option maxHeartbeats 4000000 in
theorem c_11_swapX {l : Launch} {D : va_G} {K : Nat → ClassId} {A : Nat → Nat} {I : TI} {U : TU} {P : TP} {f s0 : Int32} (hx : ¬ inL f s0) {x y : Int32} : MM l yX11_swap cX11_swap 12 (some .int) 5 D K A (I) (U) (P) [.ref (A 65), .int f, .int s0, .int x, .int y] (XE (some (.int ((-2147483648)))) (I) (U) (P)) := by
  refine MM.go (own := RX11) (lv0 := [some (.ref (A 65)), some (.int f), some (.int s0), some (.int x), some (.int y), none, none, none, none, none, none, none]) rfl (by decide) rfl (Nat.le_of_ble_eq_true rfl) rfl ?_
  intro p e s m args below meth c C
  refine jx_iload_n C dX11_swap_0 rfl ?_
  refine jx_iload_n C dX11_swap_1 rfl ?_
  refine jx_one C (jr_S C (c_11_isLane) sw_11_46 rfl ⟨Nat.le_of_ble_eq_true rfl, Nat.le_of_ble_eq_true rfl⟩ ⟨Nat.le_of_ble_eq_true rfl, Nat.le_of_ble_eq_true rfl⟩ dX11_swap_2 rfl (Nat.le_of_ble_eq_true rfl)) ?_
  rw [bI_f hx]
  refine jx_if_neF (tgt := 11) C dX11_swap_5 (by decide) (by decide) ?_
  refine jx_ldc C dX11_swap_8 qw_633 ?_
  exact jx_iret C dX11_swap_10 ⟨rfl, rfl, rfl, rfl⟩
set_option maxRecDepth 100000 in
set_option maxHeartbeats 4000000 in
theorem c_11_swapO1 {l : Launch} {D : va_G} {K : Nat → ClassId} {A : Nat → Nat} {I : TI} {U : TU} {P : TP} {a b : Nat} (ha : a < 4) (hb : b < 5) {x y : Int32} (ok : okR I) (hf : ¬ mlf I (5 * a + b) x = 0) : MM l yX11_swap cX11_swap 12 (some .int) 5 D K A (I) (U) (P) [.ref (A 65), .int (nI a), .int (nI b), .int x, .int y] (XE (some (.int (0))) (mtel I (mlf I (5 * a + b) x)) (U) (P)) := by
  refine MM.go (own := RX11) (lv0 := [some (.ref (A 65)), some (.int (nI a)), some (.int (nI b)), some (.int x), some (.int y), none, none, none, none, none, none, none]) rfl (by decide) rfl (Nat.le_of_ble_eq_true rfl) rfl ?_
  intro p e s m args below meth c C
  refine jx_iload_n C dX11_swap_0 rfl ?_
  refine jx_iload_n C dX11_swap_1 rfl ?_
  refine jx_one C (jr_S C (c_11_isLane) sw_11_46 rfl ⟨Nat.le_of_ble_eq_true rfl, Nat.le_of_ble_eq_true rfl⟩ ⟨Nat.le_of_ble_eq_true rfl, Nat.le_of_ble_eq_true rfl⟩ dX11_swap_2 rfl (Nat.le_of_ble_eq_true rfl)) ?_
  rw [bI_t ⟨inF_nI ha, inS_nI hb⟩]
  refine jx_if_neT (tgt := 11) C dX11_swap_5 (by decide) (by decide) ?_
  refine jx_iconst (v := 5) C dX11_swap_11 (by decide) ?_
  refine jx_iload_n C dX11_swap_12 rfl ?_
  refine jx_imul C dX11_swap_13 ?_
  refine jx_iload_n C dX11_swap_14 rfl ?_
  refine jx_iadd C dX11_swap_15 ?_
  rw [pl5']
  refine jx_istore (lv1 := [_, _, _, _, _, _, _, _, _, _, _, _]) C dX11_swap_16 (by decide) rfl ?_
  refine jx_aload_n C dX11_swap_18 rfl ?_
  refine jx_iload C dX11_swap_19 rfl ?_
  refine jx_iload_n C dX11_swap_21 rfl ?_
  refine jx_one C (jr_V C (c_11_wrong (by omega) ok) vw_11_84 (by decide) gg_65 rfl rfl ⟨Nat.le_of_ble_eq_true rfl, Nat.le_of_ble_eq_true rfl⟩ ⟨Nat.le_of_ble_eq_true rfl, Nat.le_of_ble_eq_true rfl⟩ dX11_swap_22 rfl (Nat.le_of_ble_eq_true rfl)) ?_
  refine jx_istore (lv1 := [_, _, _, _, _, _, _, _, _, _, _, _]) C dX11_swap_25 (by decide) rfl ?_
  refine jx_iload C dX11_swap_27 rfl ?_
  refine jx_if_neT (tgt := 42) C dX11_swap_29 (by decide) (fun q => hf ((nI_eq0 (Nat.lt_of_le_of_lt mlf_le (by decide))).mp q)) ?_
  refine jx_iload C dX11_swap_42 rfl ?_
  refine jx_if_eqF (tgt := 54) C dX11_swap_44 (fun q => hf ((nI_eq0 (Nat.lt_of_le_of_lt mlf_le (by decide))).mp q)) (by decide) ?_
  refine jx_aload_n C dX11_swap_47 rfl ?_
  refine jx_iload C dX11_swap_48 rfl ?_
  refine jx_one C (jr_V C (c_11_bad (Nat.le_trans mlf_le (by decide))) vw_11_51 (by decide) gg_65 rfl rfl ⟨Nat.le_of_ble_eq_true rfl, Nat.le_of_ble_eq_true rfl⟩ ⟨Nat.le_of_ble_eq_true rfl, Nat.le_of_ble_eq_true rfl⟩ dX11_swap_50 rfl (Nat.le_of_ble_eq_true rfl)) ?_
  exact jx_iret C dX11_swap_53 ⟨rfl, rfl, rfl, rfl⟩
set_option maxRecDepth 100000 in
set_option maxHeartbeats 4000000 in
theorem c_11_swapO2 {l : Launch} {D : va_G} {K : Nat → ClassId} {A : Nat → Nat} {I : TI} {U : TU} {P : TP} {a b : Nat} (ha : a < 4) (hb : b < 5) {x y : Int32} (ok : okR I) (hx : mlf I (5 * a + b) x = 0) (hf : ¬ mlf I (5 * a + b) y = 0) : MM l yX11_swap cX11_swap 12 (some .int) 5 D K A (I) (U) (P) [.ref (A 65), .int (nI a), .int (nI b), .int x, .int y] (XE (some (.int (0))) (mtel I (mlf I (5 * a + b) y)) (U) (P)) := by
  refine MM.go (own := RX11) (lv0 := [some (.ref (A 65)), some (.int (nI a)), some (.int (nI b)), some (.int x), some (.int y), none, none, none, none, none, none, none]) rfl (by decide) rfl (Nat.le_of_ble_eq_true rfl) rfl ?_
  intro p e s m args below meth c C
  refine jx_iload_n C dX11_swap_0 rfl ?_
  refine jx_iload_n C dX11_swap_1 rfl ?_
  refine jx_one C (jr_S C (c_11_isLane) sw_11_46 rfl ⟨Nat.le_of_ble_eq_true rfl, Nat.le_of_ble_eq_true rfl⟩ ⟨Nat.le_of_ble_eq_true rfl, Nat.le_of_ble_eq_true rfl⟩ dX11_swap_2 rfl (Nat.le_of_ble_eq_true rfl)) ?_
  rw [bI_t ⟨inF_nI ha, inS_nI hb⟩]
  refine jx_if_neT (tgt := 11) C dX11_swap_5 (by decide) (by decide) ?_
  refine jx_iconst (v := 5) C dX11_swap_11 (by decide) ?_
  refine jx_iload_n C dX11_swap_12 rfl ?_
  refine jx_imul C dX11_swap_13 ?_
  refine jx_iload_n C dX11_swap_14 rfl ?_
  refine jx_iadd C dX11_swap_15 ?_
  rw [pl5']
  refine jx_istore (lv1 := [_, _, _, _, _, _, _, _, _, _, _, _]) C dX11_swap_16 (by decide) rfl ?_
  refine jx_aload_n C dX11_swap_18 rfl ?_
  refine jx_iload C dX11_swap_19 rfl ?_
  refine jx_iload_n C dX11_swap_21 rfl ?_
  refine jx_one C (jr_V C (c_11_wrong (by omega) ok) vw_11_84 (by decide) gg_65 rfl rfl ⟨Nat.le_of_ble_eq_true rfl, Nat.le_of_ble_eq_true rfl⟩ ⟨Nat.le_of_ble_eq_true rfl, Nat.le_of_ble_eq_true rfl⟩ dX11_swap_22 rfl (Nat.le_of_ble_eq_true rfl)) ?_
  rw [hx]
  refine jx_istore (lv1 := [_, _, _, _, _, _, _, _, _, _, _, _]) C dX11_swap_25 (by decide) rfl ?_
  refine jx_iload C dX11_swap_27 rfl ?_
  refine jx_if_neF (tgt := 42) C dX11_swap_29 rfl (by decide) ?_
  refine jx_aload_n C dX11_swap_32 rfl ?_
  refine jx_iload C dX11_swap_33 rfl ?_
  refine jx_iload C dX11_swap_35 rfl ?_
  refine jx_one C (jr_V C (c_11_wrong (by omega) ok) vw_11_84 (by decide) gg_65 rfl rfl ⟨Nat.le_of_ble_eq_true rfl, Nat.le_of_ble_eq_true rfl⟩ ⟨Nat.le_of_ble_eq_true rfl, Nat.le_of_ble_eq_true rfl⟩ dX11_swap_37 rfl (Nat.le_of_ble_eq_true rfl)) ?_
  refine jx_istore (lv1 := [_, _, _, _, _, _, _, _, _, _, _, _]) C dX11_swap_40 (by decide) rfl ?_
  refine jx_iload C dX11_swap_42 rfl ?_
  refine jx_if_eqF (tgt := 54) C dX11_swap_44 (fun q => hf ((nI_eq0 (Nat.lt_of_le_of_lt mlf_le (by decide))).mp q)) (by decide) ?_
  refine jx_aload_n C dX11_swap_47 rfl ?_
  refine jx_iload C dX11_swap_48 rfl ?_
  refine jx_one C (jr_V C (c_11_bad (Nat.le_trans mlf_le (by decide))) vw_11_51 (by decide) gg_65 rfl rfl ⟨Nat.le_of_ble_eq_true rfl, Nat.le_of_ble_eq_true rfl⟩ ⟨Nat.le_of_ble_eq_true rfl, Nat.le_of_ble_eq_true rfl⟩ dX11_swap_50 rfl (Nat.le_of_ble_eq_true rfl)) ?_
  exact jx_iret C dX11_swap_53 ⟨rfl, rfl, rfl, rfl⟩
/-- two ends of a row change places, in both rows -/
def mswI (i j : Nat) (I : TI) : TI := up2 (up2 I 68 i (I 68 j)) 68 j (I 68 i)
def mswU (i j : Nat) (U : TU) : TU := up2 (up2 U 69 i (U 69 j)) 69 j (U 69 i)
set_option maxRecDepth 100000 in
set_option maxHeartbeats 4000000 in
theorem c_11_swap {l : Launch} {D : va_G} {K : Nat → ClassId} {A : Nat → Nat} {I : TI} {U : TU} {P : TP} {a b : Nat} (ha : a < 4) (hb : b < 5) {r n m0 : Nat} (ok : okR I) (hx : mlf I (5 * a + b) (nI n) = 0) (hy : mlf I (5 * a + b) (nI m0) = 0) (hr : I 66 (5 * a + b) = nI r) (hr20 : r < 20) (hn : n < 24) (hm : m0 < 24) (hh : b = 2 → hd32 (U 69 (24 * r + n))) : MM l yX11_swap cX11_swap 12 (some .int) 5 D K A (I) (U) (P) [.ref (A 65), .int (nI a), .int (nI b), .int (nI n), .int (nI m0)] (XE (some (.int (mtl I U b (24 * r + n)))) (mbg (mswI (24 * r + n) (24 * r + m0) I)) (mswU (24 * r + n) (24 * r + m0) U) (P)) := by
  refine MM.go (own := RX11) (lv0 := [some (.ref (A 65)), some (.int (nI a)), some (.int (nI b)), some (.int (nI n)), some (.int (nI m0)), none, none, none, none, none, none, none]) rfl (by decide) rfl (Nat.le_of_ble_eq_true rfl) rfl ?_
  intro p e s m args below meth c C
  refine jx_iload_n C dX11_swap_0 rfl ?_
  refine jx_iload_n C dX11_swap_1 rfl ?_
  refine jx_one C (jr_S C (c_11_isLane) sw_11_46 rfl ⟨Nat.le_of_ble_eq_true rfl, Nat.le_of_ble_eq_true rfl⟩ ⟨Nat.le_of_ble_eq_true rfl, Nat.le_of_ble_eq_true rfl⟩ dX11_swap_2 rfl (Nat.le_of_ble_eq_true rfl)) ?_
  rw [bI_t ⟨inF_nI ha, inS_nI hb⟩]
  refine jx_if_neT (tgt := 11) C dX11_swap_5 (by decide) (by decide) ?_
  refine jx_iconst (v := 5) C dX11_swap_11 (by decide) ?_
  refine jx_iload_n C dX11_swap_12 rfl ?_
  refine jx_imul C dX11_swap_13 ?_
  refine jx_iload_n C dX11_swap_14 rfl ?_
  refine jx_iadd C dX11_swap_15 ?_
  rw [pl5']
  refine jx_istore (lv1 := [_, _, _, _, _, _, _, _, _, _, _, _]) C dX11_swap_16 (by decide) rfl ?_
  refine jx_aload_n C dX11_swap_18 rfl ?_
  refine jx_iload C dX11_swap_19 rfl ?_
  refine jx_iload_n C dX11_swap_21 rfl ?_
  refine jx_one C (jr_V C (c_11_wrong (by omega) ok) vw_11_84 (by decide) gg_65 rfl rfl ⟨Nat.le_of_ble_eq_true rfl, Nat.le_of_ble_eq_true rfl⟩ ⟨Nat.le_of_ble_eq_true rfl, Nat.le_of_ble_eq_true rfl⟩ dX11_swap_22 rfl (Nat.le_of_ble_eq_true rfl)) ?_
  rw [hx]
  refine jx_istore (lv1 := [_, _, _, _, _, _, _, _, _, _, _, _]) C dX11_swap_25 (by decide) rfl ?_
  refine jx_iload C dX11_swap_27 rfl ?_
  refine jx_if_neF (tgt := 42) C dX11_swap_29 rfl (by decide) ?_
  refine jx_aload_n C dX11_swap_32 rfl ?_
  refine jx_iload C dX11_swap_33 rfl ?_
  refine jx_iload C dX11_swap_35 rfl ?_
  refine jx_one C (jr_V C (c_11_wrong (by omega) ok) vw_11_84 (by decide) gg_65 rfl rfl ⟨Nat.le_of_ble_eq_true rfl, Nat.le_of_ble_eq_true rfl⟩ ⟨Nat.le_of_ble_eq_true rfl, Nat.le_of_ble_eq_true rfl⟩ dX11_swap_37 rfl (Nat.le_of_ble_eq_true rfl)) ?_
  rw [hy]
  refine jx_istore (lv1 := [_, _, _, _, _, _, _, _, _, _, _, _]) C dX11_swap_40 (by decide) rfl ?_
  refine jx_iload C dX11_swap_42 rfl ?_
  refine jx_if_eqT (tgt := 54) C dX11_swap_44 (by decide) rfl ?_
  refine jx_bipush (v := 24) C dX11_swap_54 (by decide) ?_
  refine jx_aload_n C dX11_swap_56 rfl ?_
  refine jx_get C fl_11_7_10 dX11_swap_57 (by decide) gg_65 rfl ?_
  refine jx_iload C dX11_swap_60 rfl ?_
  refine jx_iald (5 * a + b) C dX11_swap_62 (by decide) gg_66 rfl (by omega) (by decide) ?_
  rw [hr]
  refine jx_imul C dX11_swap_63 ?_
  refine jx_iload_n C dX11_swap_64 rfl ?_
  refine jx_iadd C dX11_swap_65 ?_
  rw [ix24']
  refine jx_istore (lv1 := [_, _, _, _, _, _, _, _, _, _, _, _]) C dX11_swap_66 (by decide) rfl ?_
  refine jx_bipush (v := 24) C dX11_swap_68 (by decide) ?_
  refine jx_aload_n C dX11_swap_70 rfl ?_
  refine jx_get C fl_11_7_10 dX11_swap_71 (by decide) gg_65 rfl ?_
  refine jx_iload C dX11_swap_74 rfl ?_
  refine jx_iald (5 * a + b) C dX11_swap_76 (by decide) gg_66 rfl (by omega) (by decide) ?_
  rw [hr]
  refine jx_imul C dX11_swap_77 ?_
  refine jx_iload C dX11_swap_78 rfl ?_
  refine jx_iadd C dX11_swap_80 ?_
  rw [ix24']
  refine jx_istore (lv1 := [_, _, _, _, _, _, _, _, _, _, _, _]) C dX11_swap_81 (by decide) rfl ?_
  refine jx_aload_n C dX11_swap_83 rfl ?_
  refine jx_iload_n C dX11_swap_84 rfl ?_
  refine jx_iload C dX11_swap_85 rfl ?_
  refine jx_one C (jr_V C (c_11_tells hb (by omega) hh) vw_11_97 (by decide) gg_65 rfl rfl ⟨Nat.le_of_ble_eq_true rfl, Nat.le_of_ble_eq_true rfl⟩ ⟨Nat.le_of_ble_eq_true rfl, Nat.le_of_ble_eq_true rfl⟩ dX11_swap_87 rfl (Nat.le_of_ble_eq_true rfl)) ?_
  refine jx_istore (lv1 := [_, _, _, _, _, _, _, _, _, _, _, _]) C dX11_swap_90 (by decide) rfl ?_
  refine jx_aload_n C dX11_swap_92 rfl ?_
  refine jx_get C fl_11_16_10 dX11_swap_93 (by decide) gg_65 rfl ?_
  refine jx_iload C dX11_swap_96 rfl ?_
  refine jx_iald (24 * r + n) C dX11_swap_98 (by decide) gg_68 rfl (by omega) (by decide) ?_
  refine jx_istore (lv1 := [_, _, _, _, _, _, _, _, _, _, _, _]) C dX11_swap_99 (by decide) rfl ?_
  refine jx_aload_n C dX11_swap_101 rfl ?_
  refine jx_get C fl_11_16_10 dX11_swap_102 (by decide) gg_65 rfl ?_
  refine jx_iload C dX11_swap_105 rfl ?_
  refine jx_aload_n C dX11_swap_107 rfl ?_
  refine jx_get C fl_11_16_10 dX11_swap_108 (by decide) gg_65 rfl ?_
  refine jx_iload C dX11_swap_111 rfl ?_
  refine jx_iald (24 * r + m0) C dX11_swap_113 (by decide) gg_68 rfl (by omega) (by decide) ?_
  refine jx_iastI (24 * r + n) C dX11_swap_114 (by decide) (fun _ => gg_68) rfl (by omega) (by decide) ?_
  refine jx_aload_n C dX11_swap_115 rfl ?_
  refine jx_get C fl_11_16_10 dX11_swap_116 (by decide) gg_65 rfl ?_
  refine jx_iload C dX11_swap_119 rfl ?_
  refine jx_iload C dX11_swap_121 rfl ?_
  refine jx_iastI (24 * r + m0) C dX11_swap_123 (by decide) (fun _ => gg_68) rfl (by omega) (by decide) ?_
  refine jx_aload_n C dX11_swap_124 rfl ?_
  refine jx_get C fl_11_19_10 dX11_swap_125 (by decide) gg_65 rfl ?_
  refine jx_iload C dX11_swap_128 rfl ?_
  refine jx_fald (24 * r + n) C dX11_swap_130 (by decide) gg_69 rfl (by omega) (by decide) ?_
  refine jx_fstore (lv1 := [_, _, _, _, _, _, _, _, _, _, _, _]) C dX11_swap_131 (by decide) rfl ?_
  refine jx_aload_n C dX11_swap_133 rfl ?_
  refine jx_get C fl_11_19_10 dX11_swap_134 (by decide) gg_65 rfl ?_
  refine jx_iload C dX11_swap_137 rfl ?_
  refine jx_aload_n C dX11_swap_139 rfl ?_
  refine jx_get C fl_11_19_10 dX11_swap_140 (by decide) gg_65 rfl ?_
  refine jx_iload C dX11_swap_143 rfl ?_
  refine jx_fald (24 * r + m0) C dX11_swap_145 (by decide) gg_69 rfl (by omega) (by decide) ?_
  refine jx_fastU (24 * r + n) C dX11_swap_146 (by decide) (fun _ => gg_69) rfl (by omega) (by decide) ?_
  refine jx_aload_n C dX11_swap_147 rfl ?_
  refine jx_get C fl_11_19_10 dX11_swap_148 (by decide) gg_65 rfl ?_
  refine jx_iload C dX11_swap_151 rfl ?_
  refine jx_fload C dX11_swap_153 rfl ?_
  refine jx_fastU (24 * r + m0) C dX11_swap_155 (by decide) (fun _ => gg_69) rfl (by omega) (by decide) ?_
  refine jx_aload_n C dX11_swap_156 rfl ?_
  refine jx_iload C dX11_swap_157 rfl ?_
  refine jx_one C (jr_V C (c_11_good) vw_11_58 (by decide) gg_65 rfl rfl ⟨Nat.le_of_ble_eq_true rfl, Nat.le_of_ble_eq_true rfl⟩ ⟨Nat.le_of_ble_eq_true rfl, Nat.le_of_ble_eq_true rfl⟩ dX11_swap_159 rfl (Nat.le_of_ble_eq_true rfl)) ?_
  exact jx_iret C dX11_swap_162 ⟨rfl, rfl, rfl, rfl⟩
set_option maxRecDepth 100000 in
set_option maxHeartbeats 4000000 in
theorem c_11_clothX1 {l : Launch} {D : va_G} {K : Nat → ClassId} {A : Nat → Nat} {I : TI} {U : TU} {P : TP} {n w : Int32} (h : 24 < n) : MM l yX11_cloth cX11_cloth 4 (some .int) 5 D K A (I) (U) (P) [.ref (A 65), .int n, .int w] (XE (some (.int ((-2147483648)))) (I) (U) (P)) := by
  refine MM.go (own := RX11) (lv0 := [some (.ref (A 65)), some (.int n), some (.int w), none]) rfl (by decide) rfl (Nat.le_of_ble_eq_true rfl) rfl ?_
  intro p e s m args below meth c C
  refine jx_iload_n C dX11_cloth_0 rfl ?_
  refine jx_bipush (v := 24) C dX11_cloth_1 (by decide) ?_
  refine jx_ic_gtT (tgt := 12) C dX11_cloth_3 (by decide) h ?_
  refine jx_ldc C dX11_cloth_12 qw_633 ?_
  exact jx_iret C dX11_cloth_14 ⟨rfl, rfl, rfl, rfl⟩
set_option maxRecDepth 100000 in
set_option maxHeartbeats 4000000 in
theorem c_11_clothX2 {l : Launch} {D : va_G} {K : Nat → ClassId} {A : Nat → Nat} {I : TI} {U : TU} {P : TP} {n w : Int32} (h : ¬ 24 < n) (h2 : ¬ w ≤ 24) : MM l yX11_cloth cX11_cloth 4 (some .int) 5 D K A (I) (U) (P) [.ref (A 65), .int n, .int w] (XE (some (.int ((-2147483648)))) (I) (U) (P)) := by
  refine MM.go (own := RX11) (lv0 := [some (.ref (A 65)), some (.int n), some (.int w), none]) rfl (by decide) rfl (Nat.le_of_ble_eq_true rfl) rfl ?_
  intro p e s m args below meth c C
  refine jx_iload_n C dX11_cloth_0 rfl ?_
  refine jx_bipush (v := 24) C dX11_cloth_1 (by decide) ?_
  refine jx_ic_gtF (tgt := 12) C dX11_cloth_3 h (by decide) ?_
  refine jx_iload_n C dX11_cloth_6 rfl ?_
  refine jx_bipush (v := 24) C dX11_cloth_7 (by decide) ?_
  refine jx_ic_leF (tgt := 15) C dX11_cloth_9 h2 (by decide) ?_
  refine jx_ldc C dX11_cloth_12 qw_633 ?_
  exact jx_iret C dX11_cloth_14 ⟨rfl, rfl, rfl, rfl⟩
set_option maxRecDepth 100000 in
set_option maxHeartbeats 4000000 in
theorem c_11_clothZ1 {l : Launch} {D : va_G} {K : Nat → ClassId} {A : Nat → Nat} {I : TI} {U : TU} {P : TP} {n w : Int32} (h : ¬ 24 < n) (h2 : w ≤ 24) (hz : n < 0) : MM l yX11_cloth cX11_cloth 4 (some .int) 5 D K A (I) (U) (P) [.ref (A 65), .int n, .int w] (XE (some (.int (0))) (mtel I 3) (U) (P)) := by
  refine MM.go (own := RX11) (lv0 := [some (.ref (A 65)), some (.int n), some (.int w), none]) rfl (by decide) rfl (Nat.le_of_ble_eq_true rfl) rfl ?_
  intro p e s m args below meth c C
  refine jx_iload_n C dX11_cloth_0 rfl ?_
  refine jx_bipush (v := 24) C dX11_cloth_1 (by decide) ?_
  refine jx_ic_gtF (tgt := 12) C dX11_cloth_3 h (by decide) ?_
  refine jx_iload_n C dX11_cloth_6 rfl ?_
  refine jx_bipush (v := 24) C dX11_cloth_7 (by decide) ?_
  refine jx_ic_leT (tgt := 15) C dX11_cloth_9 (by decide) h2 ?_
  refine jx_iload_n C dX11_cloth_15 rfl ?_
  refine jx_if_ltT (tgt := 23) C dX11_cloth_16 (by decide) hz ?_
  refine jx_aload_n C dX11_cloth_23 rfl ?_
  refine jx_iconst (v := 3) C dX11_cloth_24 (by decide) ?_
  refine jx_one C (jr_V C (c_11_bad (f := 3) (by decide)) vw_11_51 (by decide) gg_65 rfl rfl ⟨Nat.le_of_ble_eq_true rfl, Nat.le_of_ble_eq_true rfl⟩ ⟨Nat.le_of_ble_eq_true rfl, Nat.le_of_ble_eq_true rfl⟩ dX11_cloth_25 rfl (Nat.le_of_ble_eq_true rfl)) ?_
  exact jx_iret C dX11_cloth_28 ⟨rfl, rfl, rfl, rfl⟩
set_option maxRecDepth 100000 in
set_option maxHeartbeats 4000000 in
theorem c_11_clothZ2 {l : Launch} {D : va_G} {K : Nat → ClassId} {A : Nat → Nat} {I : TI} {U : TU} {P : TP} {n w : Int32} (h : ¬ 24 < n) (h2 : w ≤ 24) (hz : ¬ n < 0) (hy : ¬ 0 ≤ w) : MM l yX11_cloth cX11_cloth 4 (some .int) 5 D K A (I) (U) (P) [.ref (A 65), .int n, .int w] (XE (some (.int (0))) (mtel I 3) (U) (P)) := by
  refine MM.go (own := RX11) (lv0 := [some (.ref (A 65)), some (.int n), some (.int w), none]) rfl (by decide) rfl (Nat.le_of_ble_eq_true rfl) rfl ?_
  intro p e s m args below meth c C
  refine jx_iload_n C dX11_cloth_0 rfl ?_
  refine jx_bipush (v := 24) C dX11_cloth_1 (by decide) ?_
  refine jx_ic_gtF (tgt := 12) C dX11_cloth_3 h (by decide) ?_
  refine jx_iload_n C dX11_cloth_6 rfl ?_
  refine jx_bipush (v := 24) C dX11_cloth_7 (by decide) ?_
  refine jx_ic_leT (tgt := 15) C dX11_cloth_9 (by decide) h2 ?_
  refine jx_iload_n C dX11_cloth_15 rfl ?_
  refine jx_if_ltF (tgt := 23) C dX11_cloth_16 hz (by decide) ?_
  refine jx_iload_n C dX11_cloth_19 rfl ?_
  refine jx_if_geF (tgt := 29) C dX11_cloth_20 hy (by decide) ?_
  refine jx_aload_n C dX11_cloth_23 rfl ?_
  refine jx_iconst (v := 3) C dX11_cloth_24 (by decide) ?_
  refine jx_one C (jr_V C (c_11_bad (f := 3) (by decide)) vw_11_51 (by decide) gg_65 rfl rfl ⟨Nat.le_of_ble_eq_true rfl, Nat.le_of_ble_eq_true rfl⟩ ⟨Nat.le_of_ble_eq_true rfl, Nat.le_of_ble_eq_true rfl⟩ dX11_cloth_25 rfl (Nat.le_of_ble_eq_true rfl)) ?_
  exact jx_iret C dX11_cloth_28 ⟨rfl, rfl, rfl, rfl⟩
def mclK (I : TI) (n w q k : Nat) : TI := fun x y => if x = 65 ∧ y = 6 then 1 else if x = 65 ∧ y = 7 then nI n else if x = 65 ∧ y = 8 then nI w else if x = 71 ∧ y < q then nI y else if x = 72 ∧ y < k then 0 else I x y
def mcl (I : TI) (n w : Nat) : TI := mclK I n w n 576
theorem mclK_0 {I : TI} {n w : Nat} : up2 (up2 (up2 I 65 6 1) 65 7 (nI n)) 65 8 (nI w) = mclK I n w 0 0 := by
  funext x y
  by_cases h65 : x = 65
  · subst h65
    by_cases h6 : y = 6
    · subst h6; simp [up2, mclK]
    · by_cases h7 : y = 7
      · subst h7; simp [up2, mclK]
      · by_cases h8 : y = 8
        · subst h8; simp [up2, mclK]
        · simp [up2, mclK, h6, h7, h8]
  · simp [up2, mclK, h65]
theorem mclK_q {I : TI} {n w q : Nat} : up2 (mclK I n w q 0) 71 q (nI q) = mclK I n w (q + 1) 0 := by
  funext x y
  simp only [up2, mclK]
  by_cases hx : x = 71
  · subst hx
    by_cases hy : y = q
    · subst hy; simp
    · by_cases hy2 : y < q
      · simp [hy, hy2, show y < q + 1 by omega]
      · simp [hy, hy2, show ¬ y < q + 1 by omega]
  · simp [hx]
theorem mclK_k {I : TI} {n w k : Nat} : up2 (mclK I n w n k) 72 k 0 = mclK I n w n (k + 1) := by
  funext x y
  simp only [up2, mclK]
  by_cases hx : x = 72
  · subst hx
    by_cases hy : y = k
    · subst hy; simp
    · by_cases hy2 : y < k
      · simp [hy, hy2, show y < k + 1 by omega]
      · simp [hy, hy2, show ¬ y < k + 1 by omega]
  · simp [hx]
set_option maxRecDepth 100000 in
set_option maxHeartbeats 4000000 in
theorem lp_11_cloth2 {p : Program} {l : Launch} {e : Env} {R : Room} {s : State} {m : MethodId} {args : Array Value} {below : List Frame} {meth : Method} {c : Code} {D : va_G} {K : Nat → ClassId} {A : Nat → Nat} {Ax : Nat → Prop} {Q : State → Prop} {U : TU} {P : TP} {I : TI} {n w : Nat} (C : CX p s m args meth c RX11 cX11_cloth 4 (some .int) D K Ax) (hz : GJ p l e R s m args below meth c 4 D Ax Q 75 A (gg A K (mcl I n w) (U) (P)) 0 0 86 [some (.ref (A 65)), some (.int (nI n)), some (.int (nI w)), some (.int (nI (576)))] []) : ∀ f k : Nat, k + f = 576 → GJ p l e R s m args below meth c 4 D Ax Q 75 A (gg A K (mclK I n w n k) (U) (P)) 0 0 66 [some (.ref (A 65)), some (.int (nI n)), some (.int (nI w)), some (.int (nI (k)))] [] := by
  intro f
  induction f with
  | zero =>
    intro k hk
    obtain rfl : k = 576 := by omega
    refine jx_iload_n C dX11_cloth_66 rfl ?_
    refine jx_sipush (v := 576) C dX11_cloth_67 (by decide) ?_
    refine jx_ic_geT (tgt := 86) C dX11_cloth_70 (by decide) (by decide) ?_
    exact hz
  | succ f ih =>
    intro k hk
    refine jx_iload_n C dX11_cloth_66 rfl ?_
    refine jx_sipush (v := 576) C dX11_cloth_67 (by decide) ?_
    refine jx_ic_geF (tgt := 86) C dX11_cloth_70 (nI_ge (b := 576) (by omega) (by decide)) (by decide) ?_
    refine jx_aload_n C dX11_cloth_73 rfl ?_
    refine jx_get C fl_11_29_10 dX11_cloth_74 (by decide) gg_65 rfl ?_
    refine jx_iload_n C dX11_cloth_77 rfl ?_
    refine jx_iconst (v := 0) C dX11_cloth_78 (by decide) ?_
    refine jx_iastI (k) C dX11_cloth_79 (by decide) (fun _ => gg_72) rfl (by omega) (by decide) ?_
    rw [mclK_k]
    refine jx_iinc (lv1 := [_, _, _, _]) C dX11_cloth_80 rfl (nI_1 k) rfl ?_
    refine jx_goto (tgt := 66) C dX11_cloth_83 (by decide) ?_
    exact ih (k + 1) (by omega)
set_option maxRecDepth 100000 in
set_option maxHeartbeats 4000000 in
theorem lp_11_cloth1 {p : Program} {l : Launch} {e : Env} {R : Room} {s : State} {m : MethodId} {args : Array Value} {below : List Frame} {meth : Method} {c : Code} {D : va_G} {K : Nat → ClassId} {A : Nat → Nat} {Ax : Nat → Prop} {Q : State → Prop} {U : TU} {P : TP} {I : TI} {n w : Nat} (C : CX p s m args meth c RX11 cX11_cloth 4 (some .int) D K Ax) (hn : n ≤ 24) (hz : GJ p l e R s m args below meth c 4 D Ax Q 75 A (gg A K (mclK I n w n 0) (U) (P)) 0 0 64 [some (.ref (A 65)), some (.int (nI n)), some (.int (nI w)), some (.int (nI (n)))] []) : ∀ f q : Nat, q + f = n → GJ p l e R s m args below meth c 4 D Ax Q 75 A (gg A K (mclK I n w q 0) (U) (P)) 0 0 46 [some (.ref (A 65)), some (.int (nI n)), some (.int (nI w)), some (.int (nI (q)))] [] := by
  intro f
  induction f with
  | zero =>
    intro q hq
    obtain rfl : q = n := by omega
    refine jx_iload_n C dX11_cloth_46 rfl ?_
    refine jx_iload_n C dX11_cloth_47 rfl ?_
    refine jx_ic_geT (tgt := 64) C dX11_cloth_48 (by decide) (nI_le (Nat.le_refl _) (by omega)) ?_
    exact hz
  | succ f ih =>
    intro q hq
    refine jx_iload_n C dX11_cloth_46 rfl ?_
    refine jx_iload_n C dX11_cloth_47 rfl ?_
    refine jx_ic_geF (tgt := 64) C dX11_cloth_48 (nI_ge (by omega) (by omega)) (by decide) ?_
    refine jx_aload_n C dX11_cloth_51 rfl ?_
    refine jx_get C fl_11_26_10 dX11_cloth_52 (by decide) gg_65 rfl ?_
    refine jx_iload_n C dX11_cloth_55 rfl ?_
    refine jx_iload_n C dX11_cloth_56 rfl ?_
    refine jx_iastI (q) C dX11_cloth_57 (by decide) (fun _ => gg_71) rfl (by omega) (by decide) ?_
    rw [mclK_q]
    refine jx_iinc (lv1 := [_, _, _, _]) C dX11_cloth_58 rfl (nI_1 q) rfl ?_
    refine jx_goto (tgt := 46) C dX11_cloth_61 (by decide) ?_
    exact ih (q + 1) (by omega)
set_option maxRecDepth 100000 in
set_option maxHeartbeats 4000000 in
theorem c_11_cloth {l : Launch} {D : va_G} {K : Nat → ClassId} {A : Nat → Nat} {I : TI} {U : TU} {P : TP} {n w : Nat} (hn : n ≤ 24) (hw : w ≤ 24) : MM l yX11_cloth cX11_cloth 4 (some .int) 5 D K A (I) (U) (P) [.ref (A 65), .int (nI n), .int (nI w)] (XE (some (.int (nI n * nI w))) (mbg (mcl I n w)) (U) (P)) := by
  refine MM.go (own := RX11) (lv0 := [some (.ref (A 65)), some (.int (nI n)), some (.int (nI w)), none]) rfl (by decide) rfl (Nat.le_of_ble_eq_true rfl) rfl ?_
  intro p e s m args below meth c C
  refine jx_iload_n C dX11_cloth_0 rfl ?_
  refine jx_bipush (v := 24) C dX11_cloth_1 (by decide) ?_
  refine jx_ic_gtF (tgt := 12) C dX11_cloth_3 (nI_nlt (a := 24) hn (by decide)) (by decide) ?_
  refine jx_iload_n C dX11_cloth_6 rfl ?_
  refine jx_bipush (v := 24) C dX11_cloth_7 (by decide) ?_
  refine jx_ic_leT (tgt := 15) C dX11_cloth_9 (by decide) (nI_le (b := 24) hw (by decide)) ?_
  refine jx_iload_n C dX11_cloth_15 rfl ?_
  refine jx_if_ltF (tgt := 23) C dX11_cloth_16 (nI_pos (by omega)) (by decide) ?_
  refine jx_iload_n C dX11_cloth_19 rfl ?_
  refine jx_if_geT (tgt := 29) C dX11_cloth_20 (by decide) (nI_pos' (by omega)) ?_
  refine jx_aload_n C dX11_cloth_29 rfl ?_
  refine jx_iconst (v := 1) C dX11_cloth_30 (by decide) ?_
  refine jx_putZ C fp_11_104_10 dX11_cloth_31 rfl rfl (by decide) gg_65 (Nat.le_of_ble_eq_true rfl) rfl ?_
  refine jx_aload_n C dX11_cloth_34 rfl ?_
  refine jx_iload_n C dX11_cloth_35 rfl ?_
  refine jx_putI C fp_11_108_10 dX11_cloth_36 (by decide) gg_65 (Nat.le_of_ble_eq_true rfl) rfl ?_
  refine jx_aload_n C dX11_cloth_39 rfl ?_
  refine jx_iload_n C dX11_cloth_40 rfl ?_
  refine jx_putI C fp_11_111_10 dX11_cloth_41 (by decide) gg_65 (Nat.le_of_ble_eq_true rfl) rfl ?_
  refine jx_iconst (v := 0) C dX11_cloth_44 (by decide) ?_
  refine jx_istore_n (lv1 := [_, _, _, _]) C dX11_cloth_45 (by decide) rfl ?_
  rw [mclK_0]
  refine lp_11_cloth1 C hn ?_ n 0 (by omega)
  refine jx_iconst (v := 0) C dX11_cloth_64 (by decide) ?_
  refine jx_istore_n (lv1 := [_, _, _, _]) C dX11_cloth_65 (by decide) rfl ?_
  refine lp_11_cloth2 C ?_ 576 0 (by omega)
  refine jx_aload_n C dX11_cloth_86 rfl ?_
  refine jx_iload_n C dX11_cloth_87 rfl ?_
  refine jx_iload_n C dX11_cloth_88 rfl ?_
  refine jx_imul C dX11_cloth_89 ?_
  refine jx_one C (jr_V C (c_11_good) vw_11_58 (by decide) gg_65 rfl rfl ⟨Nat.le_of_ble_eq_true rfl, Nat.le_of_ble_eq_true rfl⟩ ⟨Nat.le_of_ble_eq_true rfl, Nat.le_of_ble_eq_true rfl⟩ dX11_cloth_90 rfl (Nat.le_of_ble_eq_true rfl)) ?_
  exact jx_iret C dX11_cloth_93 ⟨rfl, rfl, rfl, rfl⟩
theorem fPl_nI (t n x : Int32) : ∃ f : Nat, f ≤ 2 ∧ fPl t n x = nI f := by
  unfold fPl
  split
  · exact ⟨1, by decide, rfl⟩
  · split
    · exact ⟨0, by decide, rfl⟩
    · exact ⟨2, by decide, rfl⟩
set_option maxRecDepth 100000 in
set_option maxHeartbeats 4000000 in
theorem c_11_wrongPick1 {l : Launch} {D : va_G} {K : Nat → ClassId} {A : Nat → Nat} {I : TI} {U : TU} {P : TP} {x : Int32} (ht : I 65 6 = 0) : MM l yX11_wrongPick cX11_wrongPick 2 (some .int) 0 D K A (I) (U) (P) [.ref (A 65), .int x] (XE (some (.int (1))) (I) (U) (P)) := by
  refine MM.go (own := RX11) (lv0 := [some (.ref (A 65)), some (.int x)]) rfl (by decide) rfl (Nat.le_of_ble_eq_true rfl) rfl ?_
  intro p e s m args below meth c C
  refine jx_aload_n C dX11_wrongPick_0 rfl ?_
  refine jx_get C fl_11_104_10 dX11_wrongPick_1 (by decide) gg_65 rfl ?_
  refine jx_if_neF (tgt := 9) C dX11_wrongPick_4 ht (by decide) ?_
  refine jx_iconst (v := 1) C dX11_wrongPick_7 (by decide) ?_
  exact jx_iret C dX11_wrongPick_8 ⟨rfl, rfl, rfl, rfl⟩
set_option maxRecDepth 100000 in
set_option maxHeartbeats 4000000 in
theorem c_11_wrongPick2a {l : Launch} {D : va_G} {K : Nat → ClassId} {A : Nat → Nat} {I : TI} {U : TU} {P : TP} {x : Int32} (ht : ¬ I 65 6 = 0) (hx : x < 0) : MM l yX11_wrongPick cX11_wrongPick 2 (some .int) 0 D K A (I) (U) (P) [.ref (A 65), .int x] (XE (some (.int (2))) (I) (U) (P)) := by
  refine MM.go (own := RX11) (lv0 := [some (.ref (A 65)), some (.int x)]) rfl (by decide) rfl (Nat.le_of_ble_eq_true rfl) rfl ?_
  intro p e s m args below meth c C
  refine jx_aload_n C dX11_wrongPick_0 rfl ?_
  refine jx_get C fl_11_104_10 dX11_wrongPick_1 (by decide) gg_65 rfl ?_
  refine jx_if_neT (tgt := 9) C dX11_wrongPick_4 (by decide) ht ?_
  refine jx_iload_n C dX11_wrongPick_9 rfl ?_
  refine jx_if_ltT (tgt := 21) C dX11_wrongPick_10 (by decide) hx ?_
  refine jx_iconst (v := 2) C dX11_wrongPick_21 (by decide) ?_
  refine jx_goto (tgt := 26) C dX11_wrongPick_22 (by decide) ?_
  exact jx_iret C dX11_wrongPick_26 ⟨rfl, rfl, rfl, rfl⟩
set_option maxRecDepth 100000 in
set_option maxHeartbeats 4000000 in
theorem c_11_wrongPick2b {l : Launch} {D : va_G} {K : Nat → ClassId} {A : Nat → Nat} {I : TI} {U : TU} {P : TP} {x : Int32} (ht : ¬ I 65 6 = 0) (hx : ¬ x < 0) (hy : ¬ x < I 65 7) : MM l yX11_wrongPick cX11_wrongPick 2 (some .int) 0 D K A (I) (U) (P) [.ref (A 65), .int x] (XE (some (.int (2))) (I) (U) (P)) := by
  refine MM.go (own := RX11) (lv0 := [some (.ref (A 65)), some (.int x)]) rfl (by decide) rfl (Nat.le_of_ble_eq_true rfl) rfl ?_
  intro p e s m args below meth c C
  refine jx_aload_n C dX11_wrongPick_0 rfl ?_
  refine jx_get C fl_11_104_10 dX11_wrongPick_1 (by decide) gg_65 rfl ?_
  refine jx_if_neT (tgt := 9) C dX11_wrongPick_4 (by decide) ht ?_
  refine jx_iload_n C dX11_wrongPick_9 rfl ?_
  refine jx_if_ltF (tgt := 21) C dX11_wrongPick_10 hx (by decide) ?_
  refine jx_iload_n C dX11_wrongPick_13 rfl ?_
  refine jx_aload_n C dX11_wrongPick_14 rfl ?_
  refine jx_get C fl_11_108_10 dX11_wrongPick_15 (by decide) gg_65 rfl ?_
  refine jx_ic_ltF (tgt := 25) C dX11_wrongPick_18 hy (by decide) ?_
  refine jx_iconst (v := 2) C dX11_wrongPick_21 (by decide) ?_
  refine jx_goto (tgt := 26) C dX11_wrongPick_22 (by decide) ?_
  exact jx_iret C dX11_wrongPick_26 ⟨rfl, rfl, rfl, rfl⟩
set_option maxRecDepth 100000 in
set_option maxHeartbeats 4000000 in
theorem c_11_wrongPick0 {l : Launch} {D : va_G} {K : Nat → ClassId} {A : Nat → Nat} {I : TI} {U : TU} {P : TP} {x : Int32} (ht : ¬ I 65 6 = 0) (hx : ¬ x < 0) (hy : x < I 65 7) : MM l yX11_wrongPick cX11_wrongPick 2 (some .int) 0 D K A (I) (U) (P) [.ref (A 65), .int x] (XE (some (.int (0))) (I) (U) (P)) := by
  refine MM.go (own := RX11) (lv0 := [some (.ref (A 65)), some (.int x)]) rfl (by decide) rfl (Nat.le_of_ble_eq_true rfl) rfl ?_
  intro p e s m args below meth c C
  refine jx_aload_n C dX11_wrongPick_0 rfl ?_
  refine jx_get C fl_11_104_10 dX11_wrongPick_1 (by decide) gg_65 rfl ?_
  refine jx_if_neT (tgt := 9) C dX11_wrongPick_4 (by decide) ht ?_
  refine jx_iload_n C dX11_wrongPick_9 rfl ?_
  refine jx_if_ltF (tgt := 21) C dX11_wrongPick_10 hx (by decide) ?_
  refine jx_iload_n C dX11_wrongPick_13 rfl ?_
  refine jx_aload_n C dX11_wrongPick_14 rfl ?_
  refine jx_get C fl_11_108_10 dX11_wrongPick_15 (by decide) gg_65 rfl ?_
  refine jx_ic_ltT (tgt := 25) C dX11_wrongPick_18 (by decide) hy ?_
  refine jx_iconst (v := 0) C dX11_wrongPick_25 (by decide) ?_
  exact jx_iret C dX11_wrongPick_26 ⟨rfl, rfl, rfl, rfl⟩
theorem c_11_wrongPick {l : Launch} {D : va_G} {K : Nat → ClassId} {A : Nat → Nat} {I : TI} {U : TU} {P : TP} {x : Int32} : MM l yX11_wrongPick cX11_wrongPick 2 (some .int) 0 D K A I U P [.ref (A 65), .int x] (XE (some (.int (fPl (I 65 6) (I 65 7) x))) I U P) := by
  by_cases ht : I 65 6 = 0
  · rw [fPl, if_pos ht]
    exact c_11_wrongPick1 ht
  · by_cases hx : x < 0
    · rw [fPl, if_neg ht, if_neg (fun q => q.1 hx)]
      exact c_11_wrongPick2a ht hx
    · by_cases hy : x < I 65 7
      · rw [fPl, if_neg ht, if_pos ⟨hx, Int32.not_le.mpr hy⟩]
        exact c_11_wrongPick0 ht hx hy
      · rw [fPl, if_neg ht, if_neg (fun q => hy (Int32.not_le.mp q.2))]
        exact c_11_wrongPick2b ht hx hy
set_option maxRecDepth 100000 in
set_option maxHeartbeats 4000000 in
theorem c_11_gone1 {l : Launch} {D : va_G} {K : Nat → ClassId} {A : Nat → Nat} {I : TI} {U : TU} {P : TP} {x : Int32} (ht : I 65 6 = 0) : MM l yX11_goneOrWrong cX11_goneOrWrong 3 (some .int) 1 D K A (I) (U) (P) [.ref (A 65), .int x] (XE (some (.int (1))) (I) (U) (P)) := by
  refine MM.go (own := RX11) (lv0 := [some (.ref (A 65)), some (.int x), none]) rfl (by decide) rfl (Nat.le_of_ble_eq_true rfl) rfl ?_
  intro p e s m args below meth c C
  refine jx_aload_n C dX11_goneOrWrong_0 rfl ?_
  refine jx_iload_n C dX11_goneOrWrong_1 rfl ?_
  refine jx_one C (jr_V C (c_11_wrongPick) vw_11_114 (by decide) gg_65 rfl rfl ⟨Nat.le_of_ble_eq_true rfl, Nat.le_of_ble_eq_true rfl⟩ ⟨Nat.le_of_ble_eq_true rfl, Nat.le_of_ble_eq_true rfl⟩ dX11_goneOrWrong_2 rfl (Nat.le_of_ble_eq_true rfl)) ?_
  rw [show fPl (I 65 6) (I 65 7) (x) = 1 by simp [fPl, ht]]
  refine jx_istore_n (lv1 := [_, _, _]) C dX11_goneOrWrong_5 (by decide) rfl ?_
  refine jx_iload_n C dX11_goneOrWrong_6 rfl ?_
  refine jx_if_eqF (tgt := 12) C dX11_goneOrWrong_7 (by decide) (by decide) ?_
  refine jx_iload_n C dX11_goneOrWrong_10 rfl ?_
  exact jx_iret C dX11_goneOrWrong_11 ⟨rfl, rfl, rfl, rfl⟩
set_option maxRecDepth 100000 in
set_option maxHeartbeats 4000000 in
theorem c_11_gone2 {l : Launch} {D : va_G} {K : Nat → ClassId} {A : Nat → Nat} {I : TI} {U : TU} {P : TP} {x : Int32} (ht : ¬ I 65 6 = 0) (hp : ¬ inR (I 65 7) x) : MM l yX11_goneOrWrong cX11_goneOrWrong 3 (some .int) 1 D K A (I) (U) (P) [.ref (A 65), .int x] (XE (some (.int (2))) (I) (U) (P)) := by
  refine MM.go (own := RX11) (lv0 := [some (.ref (A 65)), some (.int x), none]) rfl (by decide) rfl (Nat.le_of_ble_eq_true rfl) rfl ?_
  intro p e s m args below meth c C
  refine jx_aload_n C dX11_goneOrWrong_0 rfl ?_
  refine jx_iload_n C dX11_goneOrWrong_1 rfl ?_
  refine jx_one C (jr_V C (c_11_wrongPick) vw_11_114 (by decide) gg_65 rfl rfl ⟨Nat.le_of_ble_eq_true rfl, Nat.le_of_ble_eq_true rfl⟩ ⟨Nat.le_of_ble_eq_true rfl, Nat.le_of_ble_eq_true rfl⟩ dX11_goneOrWrong_2 rfl (Nat.le_of_ble_eq_true rfl)) ?_
  rw [show fPl (I 65 6) (I 65 7) (x) = 2 by simp only [fPl, if_neg ht, if_neg hp]]
  refine jx_istore_n (lv1 := [_, _, _]) C dX11_goneOrWrong_5 (by decide) rfl ?_
  refine jx_iload_n C dX11_goneOrWrong_6 rfl ?_
  refine jx_if_eqF (tgt := 12) C dX11_goneOrWrong_7 (by decide) (by decide) ?_
  refine jx_iload_n C dX11_goneOrWrong_10 rfl ?_
  exact jx_iret C dX11_goneOrWrong_11 ⟨rfl, rfl, rfl, rfl⟩
set_option maxRecDepth 100000 in
set_option maxHeartbeats 4000000 in
theorem c_11_gone3 {l : Launch} {D : va_G} {K : Nat → ClassId} {A : Nat → Nat} {I : TI} {U : TU} {P : TP} {j : Nat} (ht : ¬ I 65 6 = 0) {n : Nat} (hn : I 65 7 = nI n) (h24 : n ≤ 24) (hj : j < n) (hr : I 71 j = -1) : MM l yX11_goneOrWrong cX11_goneOrWrong 3 (some .int) 1 D K A (I) (U) (P) [.ref (A 65), .int (nI j)] (XE (some (.int (1))) (I) (U) (P)) := by
  have hp : inR (I 65 7) (nI j) := hn ▸ inR_nI (by omega) hj
  refine MM.go (own := RX11) (lv0 := [some (.ref (A 65)), some (.int (nI j)), none]) rfl (by decide) rfl (Nat.le_of_ble_eq_true rfl) rfl ?_
  intro p e s m args below meth c C
  refine jx_aload_n C dX11_goneOrWrong_0 rfl ?_
  refine jx_iload_n C dX11_goneOrWrong_1 rfl ?_
  refine jx_one C (jr_V C (c_11_wrongPick) vw_11_114 (by decide) gg_65 rfl rfl ⟨Nat.le_of_ble_eq_true rfl, Nat.le_of_ble_eq_true rfl⟩ ⟨Nat.le_of_ble_eq_true rfl, Nat.le_of_ble_eq_true rfl⟩ dX11_goneOrWrong_2 rfl (Nat.le_of_ble_eq_true rfl)) ?_
  rw [show fPl (I 65 6) (I 65 7) (nI j) = 0 by simp only [fPl, if_neg ht, if_pos hp]]
  refine jx_istore_n (lv1 := [_, _, _]) C dX11_goneOrWrong_5 (by decide) rfl ?_
  refine jx_iload_n C dX11_goneOrWrong_6 rfl ?_
  refine jx_if_eqT (tgt := 12) C dX11_goneOrWrong_7 (by decide) (by decide) ?_
  refine jx_aload_n C dX11_goneOrWrong_12 rfl ?_
  refine jx_get C fl_11_26_10 dX11_goneOrWrong_13 (by decide) gg_65 rfl ?_
  refine jx_iload_n C dX11_goneOrWrong_16 rfl ?_
  refine jx_iald (j) C dX11_goneOrWrong_17 (by decide) gg_71 rfl (by omega) (by decide) ?_
  refine jx_iconst (v := (-1)) C dX11_goneOrWrong_18 (by decide) ?_
  refine jx_ic_neF (tgt := 26) C dX11_goneOrWrong_19 hr (by decide) ?_
  refine jx_iconst (v := 1) C dX11_goneOrWrong_22 (by decide) ?_
  refine jx_goto (tgt := 27) C dX11_goneOrWrong_23 (by decide) ?_
  exact jx_iret C dX11_goneOrWrong_27 ⟨rfl, rfl, rfl, rfl⟩
set_option maxRecDepth 100000 in
set_option maxHeartbeats 4000000 in
theorem c_11_gone0 {l : Launch} {D : va_G} {K : Nat → ClassId} {A : Nat → Nat} {I : TI} {U : TU} {P : TP} {j : Nat} (ht : ¬ I 65 6 = 0) {n : Nat} (hn : I 65 7 = nI n) (h24 : n ≤ 24) (hj : j < n) (hr : ¬ I 71 j = -1) : MM l yX11_goneOrWrong cX11_goneOrWrong 3 (some .int) 1 D K A (I) (U) (P) [.ref (A 65), .int (nI j)] (XE (some (.int (0))) (I) (U) (P)) := by
  have hp : inR (I 65 7) (nI j) := hn ▸ inR_nI (by omega) hj
  refine MM.go (own := RX11) (lv0 := [some (.ref (A 65)), some (.int (nI j)), none]) rfl (by decide) rfl (Nat.le_of_ble_eq_true rfl) rfl ?_
  intro p e s m args below meth c C
  refine jx_aload_n C dX11_goneOrWrong_0 rfl ?_
  refine jx_iload_n C dX11_goneOrWrong_1 rfl ?_
  refine jx_one C (jr_V C (c_11_wrongPick) vw_11_114 (by decide) gg_65 rfl rfl ⟨Nat.le_of_ble_eq_true rfl, Nat.le_of_ble_eq_true rfl⟩ ⟨Nat.le_of_ble_eq_true rfl, Nat.le_of_ble_eq_true rfl⟩ dX11_goneOrWrong_2 rfl (Nat.le_of_ble_eq_true rfl)) ?_
  rw [show fPl (I 65 6) (I 65 7) (nI j) = 0 by simp only [fPl, if_neg ht, if_pos hp]]
  refine jx_istore_n (lv1 := [_, _, _]) C dX11_goneOrWrong_5 (by decide) rfl ?_
  refine jx_iload_n C dX11_goneOrWrong_6 rfl ?_
  refine jx_if_eqT (tgt := 12) C dX11_goneOrWrong_7 (by decide) (by decide) ?_
  refine jx_aload_n C dX11_goneOrWrong_12 rfl ?_
  refine jx_get C fl_11_26_10 dX11_goneOrWrong_13 (by decide) gg_65 rfl ?_
  refine jx_iload_n C dX11_goneOrWrong_16 rfl ?_
  refine jx_iald (j) C dX11_goneOrWrong_17 (by decide) gg_71 rfl (by omega) (by decide) ?_
  refine jx_iconst (v := (-1)) C dX11_goneOrWrong_18 (by decide) ?_
  refine jx_ic_neT (tgt := 26) C dX11_goneOrWrong_19 (by decide) hr ?_
  refine jx_iconst (v := 0) C dX11_goneOrWrong_26 (by decide) ?_
  exact jx_iret C dX11_goneOrWrong_27 ⟨rfl, rfl, rfl, rfl⟩
set_option maxRecDepth 100000 in
set_option maxHeartbeats 4000000 in
theorem c_11_snip1 {l : Launch} {D : va_G} {K : Nat → ClassId} {A : Nat → Nat} {I : TI} {U : TU} {P : TP} {x : Int32} (ht : I 65 6 = 0) : MM l yX11_snip cX11_snip 4 (some .int) 5 D K A (I) (U) (P) [.ref (A 65), .int x] (XE (some (.int (0))) (mtel I 1) (U) (P)) := by
  refine MM.go (own := RX11) (lv0 := [some (.ref (A 65)), some (.int x), none, none]) rfl (by decide) rfl (Nat.le_of_ble_eq_true rfl) rfl ?_
  intro p e s m args below meth c C
  refine jx_aload_n C dX11_snip_0 rfl ?_
  refine jx_iload_n C dX11_snip_1 rfl ?_
  refine jx_one C (jr_V C (c_11_wrongPick) vw_11_114 (by decide) gg_65 rfl rfl ⟨Nat.le_of_ble_eq_true rfl, Nat.le_of_ble_eq_true rfl⟩ ⟨Nat.le_of_ble_eq_true rfl, Nat.le_of_ble_eq_true rfl⟩ dX11_snip_2 rfl (Nat.le_of_ble_eq_true rfl)) ?_
  rw [show fPl (I 65 6) (I 65 7) (x) = 1 by simp [fPl, ht]]
  refine jx_istore_n (lv1 := [_, _, _, _]) C dX11_snip_5 (by decide) rfl ?_
  refine jx_iload_n C dX11_snip_6 rfl ?_
  refine jx_if_eqF (tgt := 16) C dX11_snip_7 (by decide) (by decide) ?_
  refine jx_aload_n C dX11_snip_10 rfl ?_
  refine jx_iload_n C dX11_snip_11 rfl ?_
  refine jx_one C (jr_V C (c_11_bad (f := 1) (by decide)) vw_11_51 (by decide) gg_65 rfl rfl ⟨Nat.le_of_ble_eq_true rfl, Nat.le_of_ble_eq_true rfl⟩ ⟨Nat.le_of_ble_eq_true rfl, Nat.le_of_ble_eq_true rfl⟩ dX11_snip_12 rfl (Nat.le_of_ble_eq_true rfl)) ?_
  exact jx_iret C dX11_snip_15 ⟨rfl, rfl, rfl, rfl⟩
set_option maxRecDepth 100000 in
set_option maxHeartbeats 4000000 in
theorem c_11_snip2 {l : Launch} {D : va_G} {K : Nat → ClassId} {A : Nat → Nat} {I : TI} {U : TU} {P : TP} {x : Int32} (ht : ¬ I 65 6 = 0) (hp : ¬ inR (I 65 7) x) : MM l yX11_snip cX11_snip 4 (some .int) 5 D K A (I) (U) (P) [.ref (A 65), .int x] (XE (some (.int (0))) (mtel I 2) (U) (P)) := by
  refine MM.go (own := RX11) (lv0 := [some (.ref (A 65)), some (.int x), none, none]) rfl (by decide) rfl (Nat.le_of_ble_eq_true rfl) rfl ?_
  intro p e s m args below meth c C
  refine jx_aload_n C dX11_snip_0 rfl ?_
  refine jx_iload_n C dX11_snip_1 rfl ?_
  refine jx_one C (jr_V C (c_11_wrongPick) vw_11_114 (by decide) gg_65 rfl rfl ⟨Nat.le_of_ble_eq_true rfl, Nat.le_of_ble_eq_true rfl⟩ ⟨Nat.le_of_ble_eq_true rfl, Nat.le_of_ble_eq_true rfl⟩ dX11_snip_2 rfl (Nat.le_of_ble_eq_true rfl)) ?_
  rw [show fPl (I 65 6) (I 65 7) (x) = 2 by simp only [fPl, if_neg ht, if_neg hp]]
  refine jx_istore_n (lv1 := [_, _, _, _]) C dX11_snip_5 (by decide) rfl ?_
  refine jx_iload_n C dX11_snip_6 rfl ?_
  refine jx_if_eqF (tgt := 16) C dX11_snip_7 (by decide) (by decide) ?_
  refine jx_aload_n C dX11_snip_10 rfl ?_
  refine jx_iload_n C dX11_snip_11 rfl ?_
  refine jx_one C (jr_V C (c_11_bad (f := 2) (by decide)) vw_11_51 (by decide) gg_65 rfl rfl ⟨Nat.le_of_ble_eq_true rfl, Nat.le_of_ble_eq_true rfl⟩ ⟨Nat.le_of_ble_eq_true rfl, Nat.le_of_ble_eq_true rfl⟩ dX11_snip_12 rfl (Nat.le_of_ble_eq_true rfl)) ?_
  exact jx_iret C dX11_snip_15 ⟨rfl, rfl, rfl, rfl⟩
set_option maxRecDepth 100000 in
set_option maxHeartbeats 4000000 in
theorem c_11_snipN {l : Launch} {D : va_G} {K : Nat → ClassId} {A : Nat → Nat} {I : TI} {U : TU} {P : TP} {j : Nat} (ht : ¬ I 65 6 = 0) {n : Nat} (hn : I 65 7 = nI n) (h24 : n ≤ 24) (hj : j < n) (hr : I 71 j = -1) : MM l yX11_snip cX11_snip 4 (some .int) 5 D K A (I) (U) (P) [.ref (A 65), .int (nI j)] (XE (some (.int (0))) (mbg (up2 I 71 j (-1))) (U) (P)) := by
  have hp : inR (I 65 7) (nI j) := hn ▸ inR_nI (by omega) hj
  refine MM.go (own := RX11) (lv0 := [some (.ref (A 65)), some (.int (nI j)), none, none]) rfl (by decide) rfl (Nat.le_of_ble_eq_true rfl) rfl ?_
  intro p e s m args below meth c C
  refine jx_aload_n C dX11_snip_0 rfl ?_
  refine jx_iload_n C dX11_snip_1 rfl ?_
  refine jx_one C (jr_V C (c_11_wrongPick) vw_11_114 (by decide) gg_65 rfl rfl ⟨Nat.le_of_ble_eq_true rfl, Nat.le_of_ble_eq_true rfl⟩ ⟨Nat.le_of_ble_eq_true rfl, Nat.le_of_ble_eq_true rfl⟩ dX11_snip_2 rfl (Nat.le_of_ble_eq_true rfl)) ?_
  rw [show fPl (I 65 6) (I 65 7) (nI j) = 0 by simp only [fPl, if_neg ht, if_pos hp]]
  refine jx_istore_n (lv1 := [_, _, _, _]) C dX11_snip_5 (by decide) rfl ?_
  refine jx_iload_n C dX11_snip_6 rfl ?_
  refine jx_if_eqT (tgt := 16) C dX11_snip_7 (by decide) (by decide) ?_
  refine jx_aload_n C dX11_snip_16 rfl ?_
  refine jx_get C fl_11_26_10 dX11_snip_17 (by decide) gg_65 rfl ?_
  refine jx_iload_n C dX11_snip_20 rfl ?_
  refine jx_iald (j) C dX11_snip_21 (by decide) gg_71 rfl (by omega) (by decide) ?_
  refine jx_iconst (v := (-1)) C dX11_snip_22 (by decide) ?_
  refine jx_ic_neF (tgt := 30) C dX11_snip_23 hr (by decide) ?_
  refine jx_iconst (v := 0) C dX11_snip_26 (by decide) ?_
  refine jx_goto (tgt := 31) C dX11_snip_27 (by decide) ?_
  refine jx_istore_n (lv1 := [_, _, _, _]) C dX11_snip_31 (by decide) rfl ?_
  refine jx_aload_n C dX11_snip_32 rfl ?_
  refine jx_get C fl_11_26_10 dX11_snip_33 (by decide) gg_65 rfl ?_
  refine jx_iload_n C dX11_snip_36 rfl ?_
  refine jx_iconst (v := (-1)) C dX11_snip_37 (by decide) ?_
  refine jx_iastI (j) C dX11_snip_38 (by decide) (fun _ => gg_71) rfl (by omega) (by decide) ?_
  refine jx_aload_n C dX11_snip_39 rfl ?_
  refine jx_iload_n C dX11_snip_40 rfl ?_
  refine jx_one C (jr_V C (c_11_good) vw_11_58 (by decide) gg_65 rfl rfl ⟨Nat.le_of_ble_eq_true rfl, Nat.le_of_ble_eq_true rfl⟩ ⟨Nat.le_of_ble_eq_true rfl, Nat.le_of_ble_eq_true rfl⟩ dX11_snip_41 rfl (Nat.le_of_ble_eq_true rfl)) ?_
  exact jx_iret C dX11_snip_44 ⟨rfl, rfl, rfl, rfl⟩
set_option maxRecDepth 100000 in
set_option maxHeartbeats 4000000 in
theorem c_11_snipS {l : Launch} {D : va_G} {K : Nat → ClassId} {A : Nat → Nat} {I : TI} {U : TU} {P : TP} {j : Nat} (ht : ¬ I 65 6 = 0) {n : Nat} (hn : I 65 7 = nI n) (h24 : n ≤ 24) (hj : j < n) (hr : ¬ I 71 j = -1) : MM l yX11_snip cX11_snip 4 (some .int) 5 D K A (I) (U) (P) [.ref (A 65), .int (nI j)] (XE (some (.int (1))) (mbg (up2 I 71 j (-1))) (U) (P)) := by
  have hp : inR (I 65 7) (nI j) := hn ▸ inR_nI (by omega) hj
  refine MM.go (own := RX11) (lv0 := [some (.ref (A 65)), some (.int (nI j)), none, none]) rfl (by decide) rfl (Nat.le_of_ble_eq_true rfl) rfl ?_
  intro p e s m args below meth c C
  refine jx_aload_n C dX11_snip_0 rfl ?_
  refine jx_iload_n C dX11_snip_1 rfl ?_
  refine jx_one C (jr_V C (c_11_wrongPick) vw_11_114 (by decide) gg_65 rfl rfl ⟨Nat.le_of_ble_eq_true rfl, Nat.le_of_ble_eq_true rfl⟩ ⟨Nat.le_of_ble_eq_true rfl, Nat.le_of_ble_eq_true rfl⟩ dX11_snip_2 rfl (Nat.le_of_ble_eq_true rfl)) ?_
  rw [show fPl (I 65 6) (I 65 7) (nI j) = 0 by simp only [fPl, if_neg ht, if_pos hp]]
  refine jx_istore_n (lv1 := [_, _, _, _]) C dX11_snip_5 (by decide) rfl ?_
  refine jx_iload_n C dX11_snip_6 rfl ?_
  refine jx_if_eqT (tgt := 16) C dX11_snip_7 (by decide) (by decide) ?_
  refine jx_aload_n C dX11_snip_16 rfl ?_
  refine jx_get C fl_11_26_10 dX11_snip_17 (by decide) gg_65 rfl ?_
  refine jx_iload_n C dX11_snip_20 rfl ?_
  refine jx_iald (j) C dX11_snip_21 (by decide) gg_71 rfl (by omega) (by decide) ?_
  refine jx_iconst (v := (-1)) C dX11_snip_22 (by decide) ?_
  refine jx_ic_neT (tgt := 30) C dX11_snip_23 (by decide) hr ?_
  refine jx_iconst (v := 1) C dX11_snip_30 (by decide) ?_
  refine jx_istore_n (lv1 := [_, _, _, _]) C dX11_snip_31 (by decide) rfl ?_
  refine jx_aload_n C dX11_snip_32 rfl ?_
  refine jx_get C fl_11_26_10 dX11_snip_33 (by decide) gg_65 rfl ?_
  refine jx_iload_n C dX11_snip_36 rfl ?_
  refine jx_iconst (v := (-1)) C dX11_snip_37 (by decide) ?_
  refine jx_iastI (j) C dX11_snip_38 (by decide) (fun _ => gg_71) rfl (by omega) (by decide) ?_
  refine jx_aload_n C dX11_snip_39 rfl ?_
  refine jx_iload_n C dX11_snip_40 rfl ?_
  refine jx_one C (jr_V C (c_11_good) vw_11_58 (by decide) gg_65 rfl rfl ⟨Nat.le_of_ble_eq_true rfl, Nat.le_of_ble_eq_true rfl⟩ ⟨Nat.le_of_ble_eq_true rfl, Nat.le_of_ble_eq_true rfl⟩ dX11_snip_41 rfl (Nat.le_of_ble_eq_true rfl)) ?_
  exact jx_iret C dX11_snip_44 ⟨rfl, rfl, rfl, rfl⟩
set_option maxRecDepth 100000 in
set_option maxHeartbeats 4000000 in
theorem c_11_hang1 {l : Launch} {D : va_G} {K : Nat → ClassId} {A : Nat → Nat} {I : TI} {U : TU} {P : TP} {x y : Int32} (ht : I 65 6 = 0) : MM l yX11_hang cX11_hang 4 (some .int) 5 D K A (I) (U) (P) [.ref (A 65), .int x, .int y] (XE (some (.int (0))) (mtel I 1) (U) (P)) := by
  refine MM.go (own := RX11) (lv0 := [some (.ref (A 65)), some (.int x), some (.int y), none]) rfl (by decide) rfl (Nat.le_of_ble_eq_true rfl) rfl ?_
  intro p e s m args below meth c C
  refine jx_aload_n C dX11_hang_0 rfl ?_
  refine jx_iload_n C dX11_hang_1 rfl ?_
  refine jx_one C (jr_V C (c_11_wrongPick) vw_11_114 (by decide) gg_65 rfl rfl ⟨Nat.le_of_ble_eq_true rfl, Nat.le_of_ble_eq_true rfl⟩ ⟨Nat.le_of_ble_eq_true rfl, Nat.le_of_ble_eq_true rfl⟩ dX11_hang_2 rfl (Nat.le_of_ble_eq_true rfl)) ?_
  rw [show fPl (I 65 6) (I 65 7) (y) = 1 by simp [fPl, ht]]
  refine jx_istore_n (lv1 := [_, _, _, _]) C dX11_hang_5 (by decide) rfl ?_
  refine jx_iload_n C dX11_hang_6 rfl ?_
  refine jx_if_neT (tgt := 16) C dX11_hang_7 (by decide) (by decide) ?_
  refine jx_iload_n C dX11_hang_16 rfl ?_
  refine jx_if_eqF (tgt := 26) C dX11_hang_17 (by decide) (by decide) ?_
  refine jx_aload_n C dX11_hang_20 rfl ?_
  refine jx_iload_n C dX11_hang_21 rfl ?_
  refine jx_one C (jr_V C (c_11_bad (f := 1) (by decide)) vw_11_51 (by decide) gg_65 rfl rfl ⟨Nat.le_of_ble_eq_true rfl, Nat.le_of_ble_eq_true rfl⟩ ⟨Nat.le_of_ble_eq_true rfl, Nat.le_of_ble_eq_true rfl⟩ dX11_hang_22 rfl (Nat.le_of_ble_eq_true rfl)) ?_
  exact jx_iret C dX11_hang_25 ⟨rfl, rfl, rfl, rfl⟩
set_option maxRecDepth 100000 in
set_option maxHeartbeats 4000000 in
theorem c_11_hang2 {l : Launch} {D : va_G} {K : Nat → ClassId} {A : Nat → Nat} {I : TI} {U : TU} {P : TP} {x y : Int32} (ht : ¬ I 65 6 = 0) (hp : ¬ inR (I 65 7) y) : MM l yX11_hang cX11_hang 4 (some .int) 5 D K A (I) (U) (P) [.ref (A 65), .int x, .int y] (XE (some (.int (0))) (mtel I 2) (U) (P)) := by
  refine MM.go (own := RX11) (lv0 := [some (.ref (A 65)), some (.int x), some (.int y), none]) rfl (by decide) rfl (Nat.le_of_ble_eq_true rfl) rfl ?_
  intro p e s m args below meth c C
  refine jx_aload_n C dX11_hang_0 rfl ?_
  refine jx_iload_n C dX11_hang_1 rfl ?_
  refine jx_one C (jr_V C (c_11_wrongPick) vw_11_114 (by decide) gg_65 rfl rfl ⟨Nat.le_of_ble_eq_true rfl, Nat.le_of_ble_eq_true rfl⟩ ⟨Nat.le_of_ble_eq_true rfl, Nat.le_of_ble_eq_true rfl⟩ dX11_hang_2 rfl (Nat.le_of_ble_eq_true rfl)) ?_
  rw [show fPl (I 65 6) (I 65 7) (y) = 2 by simp only [fPl, if_neg ht, if_neg hp]]
  refine jx_istore_n (lv1 := [_, _, _, _]) C dX11_hang_5 (by decide) rfl ?_
  refine jx_iload_n C dX11_hang_6 rfl ?_
  refine jx_if_neT (tgt := 16) C dX11_hang_7 (by decide) (by decide) ?_
  refine jx_iload_n C dX11_hang_16 rfl ?_
  refine jx_if_eqF (tgt := 26) C dX11_hang_17 (by decide) (by decide) ?_
  refine jx_aload_n C dX11_hang_20 rfl ?_
  refine jx_iload_n C dX11_hang_21 rfl ?_
  refine jx_one C (jr_V C (c_11_bad (f := 2) (by decide)) vw_11_51 (by decide) gg_65 rfl rfl ⟨Nat.le_of_ble_eq_true rfl, Nat.le_of_ble_eq_true rfl⟩ ⟨Nat.le_of_ble_eq_true rfl, Nat.le_of_ble_eq_true rfl⟩ dX11_hang_22 rfl (Nat.le_of_ble_eq_true rfl)) ?_
  exact jx_iret C dX11_hang_25 ⟨rfl, rfl, rfl, rfl⟩
set_option maxRecDepth 100000 in
set_option maxHeartbeats 4000000 in
theorem c_11_hang3 {l : Launch} {D : va_G} {K : Nat → ClassId} {A : Nat → Nat} {I : TI} {U : TU} {P : TP} {x y : Int32} (ht : ¬ I 65 6 = 0) (hy : inR (I 65 7) y) (hp : ¬ inR (I 65 7) x) : MM l yX11_hang cX11_hang 4 (some .int) 5 D K A (I) (U) (P) [.ref (A 65), .int x, .int y] (XE (some (.int (0))) (mtel I 2) (U) (P)) := by
  refine MM.go (own := RX11) (lv0 := [some (.ref (A 65)), some (.int x), some (.int y), none]) rfl (by decide) rfl (Nat.le_of_ble_eq_true rfl) rfl ?_
  intro p e s m args below meth c C
  refine jx_aload_n C dX11_hang_0 rfl ?_
  refine jx_iload_n C dX11_hang_1 rfl ?_
  refine jx_one C (jr_V C (c_11_wrongPick) vw_11_114 (by decide) gg_65 rfl rfl ⟨Nat.le_of_ble_eq_true rfl, Nat.le_of_ble_eq_true rfl⟩ ⟨Nat.le_of_ble_eq_true rfl, Nat.le_of_ble_eq_true rfl⟩ dX11_hang_2 rfl (Nat.le_of_ble_eq_true rfl)) ?_
  rw [show fPl (I 65 6) (I 65 7) (y) = 0 by simp only [fPl, if_neg ht, if_pos hy]]
  refine jx_istore_n (lv1 := [_, _, _, _]) C dX11_hang_5 (by decide) rfl ?_
  refine jx_iload_n C dX11_hang_6 rfl ?_
  refine jx_if_neF (tgt := 16) C dX11_hang_7 (by decide) (by decide) ?_
  refine jx_aload_n C dX11_hang_10 rfl ?_
  refine jx_iload_n C dX11_hang_11 rfl ?_
  refine jx_one C (jr_V C (c_11_wrongPick) vw_11_114 (by decide) gg_65 rfl rfl ⟨Nat.le_of_ble_eq_true rfl, Nat.le_of_ble_eq_true rfl⟩ ⟨Nat.le_of_ble_eq_true rfl, Nat.le_of_ble_eq_true rfl⟩ dX11_hang_12 rfl (Nat.le_of_ble_eq_true rfl)) ?_
  rw [show fPl (I 65 6) (I 65 7) (x) = 2 by simp only [fPl, if_neg ht, if_neg hp]]
  refine jx_istore_n (lv1 := [_, _, _, _]) C dX11_hang_15 (by decide) rfl ?_
  refine jx_iload_n C dX11_hang_16 rfl ?_
  refine jx_if_eqF (tgt := 26) C dX11_hang_17 (by decide) (by decide) ?_
  refine jx_aload_n C dX11_hang_20 rfl ?_
  refine jx_iload_n C dX11_hang_21 rfl ?_
  refine jx_one C (jr_V C (c_11_bad (f := 2) (by decide)) vw_11_51 (by decide) gg_65 rfl rfl ⟨Nat.le_of_ble_eq_true rfl, Nat.le_of_ble_eq_true rfl⟩ ⟨Nat.le_of_ble_eq_true rfl, Nat.le_of_ble_eq_true rfl⟩ dX11_hang_22 rfl (Nat.le_of_ble_eq_true rfl)) ?_
  exact jx_iret C dX11_hang_25 ⟨rfl, rfl, rfl, rfl⟩
set_option maxRecDepth 100000 in
set_option maxHeartbeats 4000000 in
theorem c_11_hangN {l : Launch} {D : va_G} {K : Nat → ClassId} {A : Nat → Nat} {I : TI} {U : TU} {P : TP} {j q : Nat} (ht : ¬ I 65 6 = 0) {n : Nat} (hn : I 65 7 = nI n) (h24 : n ≤ 24) (hj : j < n) (hq : q < n) (hr : I 71 q = -1) : MM l yX11_hang cX11_hang 4 (some .int) 5 D K A (I) (U) (P) [.ref (A 65), .int (nI j), .int (nI q)] (XE (some (.int (0))) (mbg (up2 I 71 j (I 71 q))) (U) (P)) := by
  have hp : inR (I 65 7) (nI j) := hn ▸ inR_nI (by omega) hj
  have hy : inR (I 65 7) (nI q) := hn ▸ inR_nI (by omega) hq
  refine MM.go (own := RX11) (lv0 := [some (.ref (A 65)), some (.int (nI j)), some (.int (nI q)), none]) rfl (by decide) rfl (Nat.le_of_ble_eq_true rfl) rfl ?_
  intro p e s m args below meth c C
  refine jx_aload_n C dX11_hang_0 rfl ?_
  refine jx_iload_n C dX11_hang_1 rfl ?_
  refine jx_one C (jr_V C (c_11_wrongPick) vw_11_114 (by decide) gg_65 rfl rfl ⟨Nat.le_of_ble_eq_true rfl, Nat.le_of_ble_eq_true rfl⟩ ⟨Nat.le_of_ble_eq_true rfl, Nat.le_of_ble_eq_true rfl⟩ dX11_hang_2 rfl (Nat.le_of_ble_eq_true rfl)) ?_
  rw [show fPl (I 65 6) (I 65 7) (nI q) = 0 by simp only [fPl, if_neg ht, if_pos hy]]
  refine jx_istore_n (lv1 := [_, _, _, _]) C dX11_hang_5 (by decide) rfl ?_
  refine jx_iload_n C dX11_hang_6 rfl ?_
  refine jx_if_neF (tgt := 16) C dX11_hang_7 (by decide) (by decide) ?_
  refine jx_aload_n C dX11_hang_10 rfl ?_
  refine jx_iload_n C dX11_hang_11 rfl ?_
  refine jx_one C (jr_V C (c_11_wrongPick) vw_11_114 (by decide) gg_65 rfl rfl ⟨Nat.le_of_ble_eq_true rfl, Nat.le_of_ble_eq_true rfl⟩ ⟨Nat.le_of_ble_eq_true rfl, Nat.le_of_ble_eq_true rfl⟩ dX11_hang_12 rfl (Nat.le_of_ble_eq_true rfl)) ?_
  rw [show fPl (I 65 6) (I 65 7) (nI j) = 0 by simp only [fPl, if_neg ht, if_pos hp]]
  refine jx_istore_n (lv1 := [_, _, _, _]) C dX11_hang_15 (by decide) rfl ?_
  refine jx_iload_n C dX11_hang_16 rfl ?_
  refine jx_if_eqT (tgt := 26) C dX11_hang_17 (by decide) (by decide) ?_
  refine jx_aload_n C dX11_hang_26 rfl ?_
  refine jx_get C fl_11_26_10 dX11_hang_27 (by decide) gg_65 rfl ?_
  refine jx_iload_n C dX11_hang_30 rfl ?_
  refine jx_aload_n C dX11_hang_31 rfl ?_
  refine jx_get C fl_11_26_10 dX11_hang_32 (by decide) gg_65 rfl ?_
  refine jx_iload_n C dX11_hang_35 rfl ?_
  refine jx_iald (q) C dX11_hang_36 (by decide) gg_71 rfl (by omega) (by decide) ?_
  refine jx_iastI (j) C dX11_hang_37 (by decide) (fun _ => gg_71) rfl (by omega) (by decide) ?_
  refine jx_aload_n C dX11_hang_38 rfl ?_
  refine jx_aload_n C dX11_hang_39 rfl ?_
  refine jx_get C fl_11_26_10 dX11_hang_40 (by decide) gg_65 rfl ?_
  refine jx_iload_n C dX11_hang_43 rfl ?_
  refine jx_iald (j) C dX11_hang_44 (by decide) gg_71 rfl (by omega) (by decide) ?_
  refine jx_iconst (v := (-1)) C dX11_hang_45 (by decide) ?_
  rw [up2_same]
  refine jx_ic_neF (tgt := 53) C dX11_hang_46 hr (by decide) ?_
  refine jx_iconst (v := 0) C dX11_hang_49 (by decide) ?_
  refine jx_goto (tgt := 57) C dX11_hang_50 (by decide) ?_
  refine jx_one C (jr_V C (c_11_good) vw_11_58 (by decide) gg_65 rfl rfl ⟨Nat.le_of_ble_eq_true rfl, Nat.le_of_ble_eq_true rfl⟩ ⟨Nat.le_of_ble_eq_true rfl, Nat.le_of_ble_eq_true rfl⟩ dX11_hang_57 rfl (Nat.le_of_ble_eq_true rfl)) ?_
  exact jx_iret C dX11_hang_60 ⟨rfl, rfl, rfl, rfl⟩
set_option maxRecDepth 100000 in
set_option maxHeartbeats 4000000 in
theorem c_11_hangS {l : Launch} {D : va_G} {K : Nat → ClassId} {A : Nat → Nat} {I : TI} {U : TU} {P : TP} {j q : Nat} (ht : ¬ I 65 6 = 0) {n : Nat} (hn : I 65 7 = nI n) (h24 : n ≤ 24) (hj : j < n) (hq : q < n) (hr : ¬ I 71 q = -1) : MM l yX11_hang cX11_hang 4 (some .int) 5 D K A (I) (U) (P) [.ref (A 65), .int (nI j), .int (nI q)] (XE (some (.int (I 65 8))) (mbg (up2 I 71 j (I 71 q))) (U) (P)) := by
  have hp : inR (I 65 7) (nI j) := hn ▸ inR_nI (by omega) hj
  have hy : inR (I 65 7) (nI q) := hn ▸ inR_nI (by omega) hq
  refine MM.go (own := RX11) (lv0 := [some (.ref (A 65)), some (.int (nI j)), some (.int (nI q)), none]) rfl (by decide) rfl (Nat.le_of_ble_eq_true rfl) rfl ?_
  intro p e s m args below meth c C
  refine jx_aload_n C dX11_hang_0 rfl ?_
  refine jx_iload_n C dX11_hang_1 rfl ?_
  refine jx_one C (jr_V C (c_11_wrongPick) vw_11_114 (by decide) gg_65 rfl rfl ⟨Nat.le_of_ble_eq_true rfl, Nat.le_of_ble_eq_true rfl⟩ ⟨Nat.le_of_ble_eq_true rfl, Nat.le_of_ble_eq_true rfl⟩ dX11_hang_2 rfl (Nat.le_of_ble_eq_true rfl)) ?_
  rw [show fPl (I 65 6) (I 65 7) (nI q) = 0 by simp only [fPl, if_neg ht, if_pos hy]]
  refine jx_istore_n (lv1 := [_, _, _, _]) C dX11_hang_5 (by decide) rfl ?_
  refine jx_iload_n C dX11_hang_6 rfl ?_
  refine jx_if_neF (tgt := 16) C dX11_hang_7 (by decide) (by decide) ?_
  refine jx_aload_n C dX11_hang_10 rfl ?_
  refine jx_iload_n C dX11_hang_11 rfl ?_
  refine jx_one C (jr_V C (c_11_wrongPick) vw_11_114 (by decide) gg_65 rfl rfl ⟨Nat.le_of_ble_eq_true rfl, Nat.le_of_ble_eq_true rfl⟩ ⟨Nat.le_of_ble_eq_true rfl, Nat.le_of_ble_eq_true rfl⟩ dX11_hang_12 rfl (Nat.le_of_ble_eq_true rfl)) ?_
  rw [show fPl (I 65 6) (I 65 7) (nI j) = 0 by simp only [fPl, if_neg ht, if_pos hp]]
  refine jx_istore_n (lv1 := [_, _, _, _]) C dX11_hang_15 (by decide) rfl ?_
  refine jx_iload_n C dX11_hang_16 rfl ?_
  refine jx_if_eqT (tgt := 26) C dX11_hang_17 (by decide) (by decide) ?_
  refine jx_aload_n C dX11_hang_26 rfl ?_
  refine jx_get C fl_11_26_10 dX11_hang_27 (by decide) gg_65 rfl ?_
  refine jx_iload_n C dX11_hang_30 rfl ?_
  refine jx_aload_n C dX11_hang_31 rfl ?_
  refine jx_get C fl_11_26_10 dX11_hang_32 (by decide) gg_65 rfl ?_
  refine jx_iload_n C dX11_hang_35 rfl ?_
  refine jx_iald (q) C dX11_hang_36 (by decide) gg_71 rfl (by omega) (by decide) ?_
  refine jx_iastI (j) C dX11_hang_37 (by decide) (fun _ => gg_71) rfl (by omega) (by decide) ?_
  refine jx_aload_n C dX11_hang_38 rfl ?_
  refine jx_aload_n C dX11_hang_39 rfl ?_
  refine jx_get C fl_11_26_10 dX11_hang_40 (by decide) gg_65 rfl ?_
  refine jx_iload_n C dX11_hang_43 rfl ?_
  refine jx_iald (j) C dX11_hang_44 (by decide) gg_71 rfl (by omega) (by decide) ?_
  refine jx_iconst (v := (-1)) C dX11_hang_45 (by decide) ?_
  rw [up2_same]
  refine jx_ic_neT (tgt := 53) C dX11_hang_46 (by decide) hr ?_
  refine jx_aload_n C dX11_hang_53 rfl ?_
  refine jx_get C fl_11_111_10 dX11_hang_54 (by decide) gg_65 rfl ?_
  rw [up2_ne (by omega)]
  refine jx_one C (jr_V C (c_11_good) vw_11_58 (by decide) gg_65 rfl rfl ⟨Nat.le_of_ble_eq_true rfl, Nat.le_of_ble_eq_true rfl⟩ ⟨Nat.le_of_ble_eq_true rfl, Nat.le_of_ble_eq_true rfl⟩ dX11_hang_57 rfl (Nat.le_of_ble_eq_true rfl)) ?_
  exact jx_iret C dX11_hang_60 ⟨rfl, rfl, rfl, rfl⟩
set_option maxRecDepth 100000 in
set_option maxHeartbeats 4000000 in
theorem c_11_cell1 {l : Launch} {D : va_G} {K : Nat → ClassId} {A : Nat → Nat} {I : TI} {U : TU} {P : TP} {x y : Int32} (ht : I 65 6 = 0) : MM l yX11_cell cX11_cell 4 (some .int) 5 D K A (I) (U) (P) [.ref (A 65), .int x, .int y] (XE (some (.int (0))) (mtel I 1) (U) (P)) := by
  refine MM.go (own := RX11) (lv0 := [some (.ref (A 65)), some (.int x), some (.int y), none]) rfl (by decide) rfl (Nat.le_of_ble_eq_true rfl) rfl ?_
  intro p e s m args below meth c C
  refine jx_aload_n C dX11_cell_0 rfl ?_
  refine jx_iload_n C dX11_cell_1 rfl ?_
  refine jx_one C (jr_V C (c_11_gone1 ht) vw_11_117 (by decide) gg_65 rfl rfl ⟨Nat.le_of_ble_eq_true rfl, Nat.le_of_ble_eq_true rfl⟩ ⟨Nat.le_of_ble_eq_true rfl, Nat.le_of_ble_eq_true rfl⟩ dX11_cell_2 rfl (Nat.le_of_ble_eq_true rfl)) ?_
  refine jx_istore_n (lv1 := [_, _, _, _]) C dX11_cell_5 (by decide) rfl ?_
  refine jx_iload_n C dX11_cell_6 rfl ?_
  refine jx_if_neT (tgt := 24) C dX11_cell_7 (by decide) (by decide) ?_
  refine jx_iload_n C dX11_cell_24 rfl ?_
  refine jx_if_eqF (tgt := 34) C dX11_cell_25 (by decide) (by decide) ?_
  refine jx_aload_n C dX11_cell_28 rfl ?_
  refine jx_iload_n C dX11_cell_29 rfl ?_
  refine jx_one C (jr_V C (c_11_bad (f := 1) (by decide)) vw_11_51 (by decide) gg_65 rfl rfl ⟨Nat.le_of_ble_eq_true rfl, Nat.le_of_ble_eq_true rfl⟩ ⟨Nat.le_of_ble_eq_true rfl, Nat.le_of_ble_eq_true rfl⟩ dX11_cell_30 rfl (Nat.le_of_ble_eq_true rfl)) ?_
  exact jx_iret C dX11_cell_33 ⟨rfl, rfl, rfl, rfl⟩
set_option maxRecDepth 100000 in
set_option maxHeartbeats 4000000 in
theorem c_11_cell2 {l : Launch} {D : va_G} {K : Nat → ClassId} {A : Nat → Nat} {I : TI} {U : TU} {P : TP} {x y : Int32} (ht : ¬ I 65 6 = 0) (hp : ¬ inR (I 65 7) x) : MM l yX11_cell cX11_cell 4 (some .int) 5 D K A (I) (U) (P) [.ref (A 65), .int x, .int y] (XE (some (.int (0))) (mtel I 2) (U) (P)) := by
  refine MM.go (own := RX11) (lv0 := [some (.ref (A 65)), some (.int x), some (.int y), none]) rfl (by decide) rfl (Nat.le_of_ble_eq_true rfl) rfl ?_
  intro p e s m args below meth c C
  refine jx_aload_n C dX11_cell_0 rfl ?_
  refine jx_iload_n C dX11_cell_1 rfl ?_
  refine jx_one C (jr_V C (c_11_gone2 ht hp) vw_11_117 (by decide) gg_65 rfl rfl ⟨Nat.le_of_ble_eq_true rfl, Nat.le_of_ble_eq_true rfl⟩ ⟨Nat.le_of_ble_eq_true rfl, Nat.le_of_ble_eq_true rfl⟩ dX11_cell_2 rfl (Nat.le_of_ble_eq_true rfl)) ?_
  refine jx_istore_n (lv1 := [_, _, _, _]) C dX11_cell_5 (by decide) rfl ?_
  refine jx_iload_n C dX11_cell_6 rfl ?_
  refine jx_if_neT (tgt := 24) C dX11_cell_7 (by decide) (by decide) ?_
  refine jx_iload_n C dX11_cell_24 rfl ?_
  refine jx_if_eqF (tgt := 34) C dX11_cell_25 (by decide) (by decide) ?_
  refine jx_aload_n C dX11_cell_28 rfl ?_
  refine jx_iload_n C dX11_cell_29 rfl ?_
  refine jx_one C (jr_V C (c_11_bad (f := 2) (by decide)) vw_11_51 (by decide) gg_65 rfl rfl ⟨Nat.le_of_ble_eq_true rfl, Nat.le_of_ble_eq_true rfl⟩ ⟨Nat.le_of_ble_eq_true rfl, Nat.le_of_ble_eq_true rfl⟩ dX11_cell_30 rfl (Nat.le_of_ble_eq_true rfl)) ?_
  exact jx_iret C dX11_cell_33 ⟨rfl, rfl, rfl, rfl⟩
set_option maxRecDepth 100000 in
set_option maxHeartbeats 4000000 in
theorem c_11_cell3 {l : Launch} {D : va_G} {K : Nat → ClassId} {A : Nat → Nat} {I : TI} {U : TU} {P : TP} {j : Nat} {y : Int32} (ht : ¬ I 65 6 = 0) {n : Nat} (hn : I 65 7 = nI n) (h24 : n ≤ 24) (hj : j < n) (hr : I 71 j = -1) : MM l yX11_cell cX11_cell 4 (some .int) 5 D K A (I) (U) (P) [.ref (A 65), .int (nI j), .int y] (XE (some (.int (0))) (mtel I 1) (U) (P)) := by
  refine MM.go (own := RX11) (lv0 := [some (.ref (A 65)), some (.int (nI j)), some (.int y), none]) rfl (by decide) rfl (Nat.le_of_ble_eq_true rfl) rfl ?_
  intro p e s m args below meth c C
  refine jx_aload_n C dX11_cell_0 rfl ?_
  refine jx_iload_n C dX11_cell_1 rfl ?_
  refine jx_one C (jr_V C (c_11_gone3 ht hn h24 hj hr) vw_11_117 (by decide) gg_65 rfl rfl ⟨Nat.le_of_ble_eq_true rfl, Nat.le_of_ble_eq_true rfl⟩ ⟨Nat.le_of_ble_eq_true rfl, Nat.le_of_ble_eq_true rfl⟩ dX11_cell_2 rfl (Nat.le_of_ble_eq_true rfl)) ?_
  refine jx_istore_n (lv1 := [_, _, _, _]) C dX11_cell_5 (by decide) rfl ?_
  refine jx_iload_n C dX11_cell_6 rfl ?_
  refine jx_if_neT (tgt := 24) C dX11_cell_7 (by decide) (by decide) ?_
  refine jx_iload_n C dX11_cell_24 rfl ?_
  refine jx_if_eqF (tgt := 34) C dX11_cell_25 (by decide) (by decide) ?_
  refine jx_aload_n C dX11_cell_28 rfl ?_
  refine jx_iload_n C dX11_cell_29 rfl ?_
  refine jx_one C (jr_V C (c_11_bad (f := 1) (by decide)) vw_11_51 (by decide) gg_65 rfl rfl ⟨Nat.le_of_ble_eq_true rfl, Nat.le_of_ble_eq_true rfl⟩ ⟨Nat.le_of_ble_eq_true rfl, Nat.le_of_ble_eq_true rfl⟩ dX11_cell_30 rfl (Nat.le_of_ble_eq_true rfl)) ?_
  exact jx_iret C dX11_cell_33 ⟨rfl, rfl, rfl, rfl⟩
set_option maxRecDepth 100000 in
set_option maxHeartbeats 4000000 in
theorem c_11_cell4a {l : Launch} {D : va_G} {K : Nat → ClassId} {A : Nat → Nat} {I : TI} {U : TU} {P : TP} {j : Nat} {y : Int32} (ht : ¬ I 65 6 = 0) {n : Nat} (hn : I 65 7 = nI n) (h24 : n ≤ 24) (hj : j < n) {r : Nat} (hr : I 71 j = nI r) (hr24 : r < 24) (hx : y < 0) : MM l yX11_cell cX11_cell 4 (some .int) 5 D K A (I) (U) (P) [.ref (A 65), .int (nI j), .int y] (XE (some (.int (0))) (mtel I 2) (U) (P)) := by
  refine MM.go (own := RX11) (lv0 := [some (.ref (A 65)), some (.int (nI j)), some (.int y), none]) rfl (by decide) rfl (Nat.le_of_ble_eq_true rfl) rfl ?_
  intro p e s m args below meth c C
  refine jx_aload_n C dX11_cell_0 rfl ?_
  refine jx_iload_n C dX11_cell_1 rfl ?_
  refine jx_one C (jr_V C (c_11_gone0 ht hn h24 hj (by rw [hr]; exact nI_m1 (by omega))) vw_11_117 (by decide) gg_65 rfl rfl ⟨Nat.le_of_ble_eq_true rfl, Nat.le_of_ble_eq_true rfl⟩ ⟨Nat.le_of_ble_eq_true rfl, Nat.le_of_ble_eq_true rfl⟩ dX11_cell_2 rfl (Nat.le_of_ble_eq_true rfl)) ?_
  refine jx_istore_n (lv1 := [_, _, _, _]) C dX11_cell_5 (by decide) rfl ?_
  refine jx_iload_n C dX11_cell_6 rfl ?_
  refine jx_if_neF (tgt := 24) C dX11_cell_7 (by decide) (by decide) ?_
  refine jx_iload_n C dX11_cell_10 rfl ?_
  refine jx_if_ltT (tgt := 22) C dX11_cell_11 (by decide) hx ?_
  refine jx_iconst (v := 2) C dX11_cell_22 (by decide) ?_
  refine jx_istore_n (lv1 := [_, _, _, _]) C dX11_cell_23 (by decide) rfl ?_
  refine jx_iload_n C dX11_cell_24 rfl ?_
  refine jx_if_eqF (tgt := 34) C dX11_cell_25 (by decide) (by decide) ?_
  refine jx_aload_n C dX11_cell_28 rfl ?_
  refine jx_iload_n C dX11_cell_29 rfl ?_
  refine jx_one C (jr_V C (c_11_bad (f := 2) (by decide)) vw_11_51 (by decide) gg_65 rfl rfl ⟨Nat.le_of_ble_eq_true rfl, Nat.le_of_ble_eq_true rfl⟩ ⟨Nat.le_of_ble_eq_true rfl, Nat.le_of_ble_eq_true rfl⟩ dX11_cell_30 rfl (Nat.le_of_ble_eq_true rfl)) ?_
  exact jx_iret C dX11_cell_33 ⟨rfl, rfl, rfl, rfl⟩
set_option maxRecDepth 100000 in
set_option maxHeartbeats 4000000 in
theorem c_11_cell4b {l : Launch} {D : va_G} {K : Nat → ClassId} {A : Nat → Nat} {I : TI} {U : TU} {P : TP} {j : Nat} {y : Int32} (ht : ¬ I 65 6 = 0) {n : Nat} (hn : I 65 7 = nI n) (h24 : n ≤ 24) (hj : j < n) {r : Nat} (hr : I 71 j = nI r) (hr24 : r < 24) (hx : ¬ y < 0) (hy : ¬ y < I 65 8) : MM l yX11_cell cX11_cell 4 (some .int) 5 D K A (I) (U) (P) [.ref (A 65), .int (nI j), .int y] (XE (some (.int (0))) (mtel I 2) (U) (P)) := by
  refine MM.go (own := RX11) (lv0 := [some (.ref (A 65)), some (.int (nI j)), some (.int y), none]) rfl (by decide) rfl (Nat.le_of_ble_eq_true rfl) rfl ?_
  intro p e s m args below meth c C
  refine jx_aload_n C dX11_cell_0 rfl ?_
  refine jx_iload_n C dX11_cell_1 rfl ?_
  refine jx_one C (jr_V C (c_11_gone0 ht hn h24 hj (by rw [hr]; exact nI_m1 (by omega))) vw_11_117 (by decide) gg_65 rfl rfl ⟨Nat.le_of_ble_eq_true rfl, Nat.le_of_ble_eq_true rfl⟩ ⟨Nat.le_of_ble_eq_true rfl, Nat.le_of_ble_eq_true rfl⟩ dX11_cell_2 rfl (Nat.le_of_ble_eq_true rfl)) ?_
  refine jx_istore_n (lv1 := [_, _, _, _]) C dX11_cell_5 (by decide) rfl ?_
  refine jx_iload_n C dX11_cell_6 rfl ?_
  refine jx_if_neF (tgt := 24) C dX11_cell_7 (by decide) (by decide) ?_
  refine jx_iload_n C dX11_cell_10 rfl ?_
  refine jx_if_ltF (tgt := 22) C dX11_cell_11 hx (by decide) ?_
  refine jx_iload_n C dX11_cell_14 rfl ?_
  refine jx_aload_n C dX11_cell_15 rfl ?_
  refine jx_get C fl_11_111_10 dX11_cell_16 (by decide) gg_65 rfl ?_
  refine jx_ic_ltF (tgt := 24) C dX11_cell_19 hy (by decide) ?_
  refine jx_iconst (v := 2) C dX11_cell_22 (by decide) ?_
  refine jx_istore_n (lv1 := [_, _, _, _]) C dX11_cell_23 (by decide) rfl ?_
  refine jx_iload_n C dX11_cell_24 rfl ?_
  refine jx_if_eqF (tgt := 34) C dX11_cell_25 (by decide) (by decide) ?_
  refine jx_aload_n C dX11_cell_28 rfl ?_
  refine jx_iload_n C dX11_cell_29 rfl ?_
  refine jx_one C (jr_V C (c_11_bad (f := 2) (by decide)) vw_11_51 (by decide) gg_65 rfl rfl ⟨Nat.le_of_ble_eq_true rfl, Nat.le_of_ble_eq_true rfl⟩ ⟨Nat.le_of_ble_eq_true rfl, Nat.le_of_ble_eq_true rfl⟩ dX11_cell_30 rfl (Nat.le_of_ble_eq_true rfl)) ?_
  exact jx_iret C dX11_cell_33 ⟨rfl, rfl, rfl, rfl⟩
set_option maxRecDepth 100000 in
set_option maxHeartbeats 4000000 in
theorem c_11_cell {l : Launch} {D : va_G} {K : Nat → ClassId} {A : Nat → Nat} {I : TI} {U : TU} {P : TP} {j u : Nat} (ht : ¬ I 65 6 = 0) {n : Nat} (hn : I 65 7 = nI n) (h24 : n ≤ 24) (hj : j < n) {r : Nat} (hr : I 71 j = nI r) (hr24 : r < 24) {w : Nat} (hw : I 65 8 = nI w) (hw24 : w ≤ 24) (hu : u < w) : MM l yX11_cell cX11_cell 4 (some .int) 5 D K A (I) (U) (P) [.ref (A 65), .int (nI j), .int (nI u)] (XE (some (.int (I 72 (24 * r + u)))) (mbg I) (U) (P)) := by
  refine MM.go (own := RX11) (lv0 := [some (.ref (A 65)), some (.int (nI j)), some (.int (nI u)), none]) rfl (by decide) rfl (Nat.le_of_ble_eq_true rfl) rfl ?_
  intro p e s m args below meth c C
  refine jx_aload_n C dX11_cell_0 rfl ?_
  refine jx_iload_n C dX11_cell_1 rfl ?_
  refine jx_one C (jr_V C (c_11_gone0 ht hn h24 hj (by rw [hr]; exact nI_m1 (by omega))) vw_11_117 (by decide) gg_65 rfl rfl ⟨Nat.le_of_ble_eq_true rfl, Nat.le_of_ble_eq_true rfl⟩ ⟨Nat.le_of_ble_eq_true rfl, Nat.le_of_ble_eq_true rfl⟩ dX11_cell_2 rfl (Nat.le_of_ble_eq_true rfl)) ?_
  refine jx_istore_n (lv1 := [_, _, _, _]) C dX11_cell_5 (by decide) rfl ?_
  refine jx_iload_n C dX11_cell_6 rfl ?_
  refine jx_if_neF (tgt := 24) C dX11_cell_7 (by decide) (by decide) ?_
  refine jx_iload_n C dX11_cell_10 rfl ?_
  refine jx_if_ltF (tgt := 22) C dX11_cell_11 (nI_pos (by omega)) (by decide) ?_
  refine jx_iload_n C dX11_cell_14 rfl ?_
  refine jx_aload_n C dX11_cell_15 rfl ?_
  refine jx_get C fl_11_111_10 dX11_cell_16 (by decide) gg_65 rfl ?_
  refine jx_ic_ltT (tgt := 24) C dX11_cell_19 (by decide) (by rw [hw]; exact nI_lt hu (by omega)) ?_
  refine jx_iload_n C dX11_cell_24 rfl ?_
  refine jx_if_eqT (tgt := 34) C dX11_cell_25 (by decide) (by decide) ?_
  refine jx_aload_n C dX11_cell_34 rfl ?_
  refine jx_aload_n C dX11_cell_35 rfl ?_
  refine jx_get C fl_11_29_10 dX11_cell_36 (by decide) gg_65 rfl ?_
  refine jx_bipush (v := 24) C dX11_cell_39 (by decide) ?_
  refine jx_aload_n C dX11_cell_41 rfl ?_
  refine jx_get C fl_11_26_10 dX11_cell_42 (by decide) gg_65 rfl ?_
  refine jx_iload_n C dX11_cell_45 rfl ?_
  refine jx_iald (j) C dX11_cell_46 (by decide) gg_71 rfl (by omega) (by decide) ?_
  rw [hr]
  refine jx_imul C dX11_cell_47 ?_
  refine jx_iload_n C dX11_cell_48 rfl ?_
  refine jx_iadd C dX11_cell_49 ?_
  refine jx_iald (24 * r + u) C dX11_cell_50 (by decide) gg_72 (ix24' r u) (by omega) (by decide) ?_
  refine jx_one C (jr_V C (c_11_good) vw_11_58 (by decide) gg_65 rfl rfl ⟨Nat.le_of_ble_eq_true rfl, Nat.le_of_ble_eq_true rfl⟩ ⟨Nat.le_of_ble_eq_true rfl, Nat.le_of_ble_eq_true rfl⟩ dX11_cell_51 rfl (Nat.le_of_ble_eq_true rfl)) ?_
  exact jx_iret C dX11_cell_54 ⟨rfl, rfl, rfl, rfl⟩
set_option maxRecDepth 100000 in
set_option maxHeartbeats 4000000 in
theorem c_11_cardX1a {l : Launch} {D : va_G} {K : Nat → ClassId} {A : Nat → Nat} {I : TI} {U : TU} {P : TP} {kd f s0 x v : Int32} (h : kd < 0) : MM l yX11_card cX11_card 7 (some .int) 5 D K A (I) (U) (P) [.ref (A 65), .int kd, .int f, .int s0, .int x, .int v] (XE (some (.int ((-2147483648)))) (I) (U) (P)) := by
  refine MM.go (own := RX11) (lv0 := [some (.ref (A 65)), some (.int kd), some (.int f), some (.int s0), some (.int x), some (.int v), none]) rfl (by decide) rfl (Nat.le_of_ble_eq_true rfl) rfl ?_
  intro p e s m args below meth c C
  refine jx_iload_n C dX11_card_0 rfl ?_
  refine jx_if_ltT (tgt := 26) C dX11_card_1 (by decide) h ?_
  refine jx_ldc C dX11_card_26 qw_633 ?_
  exact jx_iret C dX11_card_28 ⟨rfl, rfl, rfl, rfl⟩
set_option maxRecDepth 100000 in
set_option maxHeartbeats 4000000 in
theorem c_11_cardX1b {l : Launch} {D : va_G} {K : Nat → ClassId} {A : Nat → Nat} {I : TI} {U : TU} {P : TP} {kd f s0 x v : Int32} (h : ¬ kd < 0) (h2 : 4 < kd) : MM l yX11_card cX11_card 7 (some .int) 5 D K A (I) (U) (P) [.ref (A 65), .int kd, .int f, .int s0, .int x, .int v] (XE (some (.int ((-2147483648)))) (I) (U) (P)) := by
  refine MM.go (own := RX11) (lv0 := [some (.ref (A 65)), some (.int kd), some (.int f), some (.int s0), some (.int x), some (.int v), none]) rfl (by decide) rfl (Nat.le_of_ble_eq_true rfl) rfl ?_
  intro p e s m args below meth c C
  refine jx_iload_n C dX11_card_0 rfl ?_
  refine jx_if_ltF (tgt := 26) C dX11_card_1 h (by decide) ?_
  refine jx_iload_n C dX11_card_4 rfl ?_
  refine jx_iconst (v := 4) C dX11_card_5 (by decide) ?_
  refine jx_ic_gtT (tgt := 26) C dX11_card_6 (by decide) h2 ?_
  refine jx_ldc C dX11_card_26 qw_633 ?_
  exact jx_iret C dX11_card_28 ⟨rfl, rfl, rfl, rfl⟩
set_option maxRecDepth 100000 in
set_option maxHeartbeats 4000000 in
theorem c_11_cardX2 {l : Launch} {D : va_G} {K : Nat → ClassId} {A : Nat → Nat} {I : TI} {U : TU} {P : TP} {kd x v : Int32} (hk : inK kd) {f s0 : Int32} (hx : ¬ inL f s0) : MM l yX11_card cX11_card 7 (some .int) 5 D K A (I) (U) (P) [.ref (A 65), .int kd, .int f, .int s0, .int x, .int v] (XE (some (.int ((-2147483648)))) (I) (U) (P)) := by
  refine MM.go (own := RX11) (lv0 := [some (.ref (A 65)), some (.int kd), some (.int f), some (.int s0), some (.int x), some (.int v), none]) rfl (by decide) rfl (Nat.le_of_ble_eq_true rfl) rfl ?_
  intro p e s m args below meth c C
  refine jx_iload_n C dX11_card_0 rfl ?_
  refine jx_if_ltF (tgt := 26) C dX11_card_1 hk.1 (by decide) ?_
  refine jx_iload_n C dX11_card_4 rfl ?_
  refine jx_iconst (v := 4) C dX11_card_5 (by decide) ?_
  refine jx_ic_gtF (tgt := 26) C dX11_card_6 hk.2 (by decide) ?_
  refine jx_iload_n C dX11_card_9 rfl ?_
  refine jx_iload_n C dX11_card_10 rfl ?_
  refine jx_one C (jr_S C (c_11_isLane) sw_11_46 rfl ⟨Nat.le_of_ble_eq_true rfl, Nat.le_of_ble_eq_true rfl⟩ ⟨Nat.le_of_ble_eq_true rfl, Nat.le_of_ble_eq_true rfl⟩ dX11_card_11 rfl (Nat.le_of_ble_eq_true rfl)) ?_
  rw [bI_f hx]
  refine jx_if_eqT (tgt := 26) C dX11_card_14 (by decide) (by decide) ?_
  refine jx_ldc C dX11_card_26 qw_633 ?_
  exact jx_iret C dX11_card_28 ⟨rfl, rfl, rfl, rfl⟩
set_option maxRecDepth 100000 in
set_option maxHeartbeats 4000000 in
theorem c_11_cardX3 {l : Launch} {D : va_G} {K : Nat → ClassId} {A : Nat → Nat} {I : TI} {U : TU} {P : TP} {kd f s0 x v : Int32} (hk : inK kd) (hl : inL f s0) (h : I 65 12 = 12) : MM l yX11_card cX11_card 7 (some .int) 5 D K A (I) (U) (P) [.ref (A 65), .int kd, .int f, .int s0, .int x, .int v] (XE (some (.int ((-2147483648)))) (I) (U) (P)) := by
  refine MM.go (own := RX11) (lv0 := [some (.ref (A 65)), some (.int kd), some (.int f), some (.int s0), some (.int x), some (.int v), none]) rfl (by decide) rfl (Nat.le_of_ble_eq_true rfl) rfl ?_
  intro p e s m args below meth c C
  refine jx_iload_n C dX11_card_0 rfl ?_
  refine jx_if_ltF (tgt := 26) C dX11_card_1 hk.1 (by decide) ?_
  refine jx_iload_n C dX11_card_4 rfl ?_
  refine jx_iconst (v := 4) C dX11_card_5 (by decide) ?_
  refine jx_ic_gtF (tgt := 26) C dX11_card_6 hk.2 (by decide) ?_
  refine jx_iload_n C dX11_card_9 rfl ?_
  refine jx_iload_n C dX11_card_10 rfl ?_
  refine jx_one C (jr_S C (c_11_isLane) sw_11_46 rfl ⟨Nat.le_of_ble_eq_true rfl, Nat.le_of_ble_eq_true rfl⟩ ⟨Nat.le_of_ble_eq_true rfl, Nat.le_of_ble_eq_true rfl⟩ dX11_card_11 rfl (Nat.le_of_ble_eq_true rfl)) ?_
  rw [bI_t hl]
  refine jx_if_eqF (tgt := 26) C dX11_card_14 (by decide) (by decide) ?_
  refine jx_aload_n C dX11_card_17 rfl ?_
  refine jx_get C fl_11_126_10 dX11_card_18 (by decide) gg_65 rfl ?_
  refine jx_bipush (v := 12) C dX11_card_21 (by decide) ?_
  refine jx_ic_neF (tgt := 29) C dX11_card_23 h (by decide) ?_
  refine jx_ldc C dX11_card_26 qw_633 ?_
  exact jx_iret C dX11_card_28 ⟨rfl, rfl, rfl, rfl⟩
theorem ix5 (c k : Nat) : nI (5 * c) + nI k = nI (5 * c + k) := nI_add _ _
set_option maxRecDepth 100000 in
set_option maxHeartbeats 4000000 in
theorem c_11_card {l : Launch} {D : va_G} {K : Nat → ClassId} {A : Nat → Nat} {I : TI} {U : TU} {P : TP} {kd f s0 x v : Int32} (hk : inK kd) (hl : inL f s0) {co : Nat} (hco : I 65 12 = nI co) (h12 : co < 12) : MM l yX11_card cX11_card 7 (some .int) 5 D K A (I) (U) (P) [.ref (A 65), .int kd, .int f, .int s0, .int x, .int v] (XE (some (.int (nI (co + 1)))) (up2 (up2 (up2 (up2 (up2 (up2 I 73 (5 * co) kd) 73 (5 * co + 1) f) 73 (5 * co + 2) s0) 73 (5 * co + 3) x) 73 (5 * co + 4) v) 65 12 (nI (co + 1))) (U) (P)) := by
  refine MM.go (own := RX11) (lv0 := [some (.ref (A 65)), some (.int kd), some (.int f), some (.int s0), some (.int x), some (.int v), none]) rfl (by decide) rfl (Nat.le_of_ble_eq_true rfl) rfl ?_
  intro p e s m args below meth c C
  refine jx_iload_n C dX11_card_0 rfl ?_
  refine jx_if_ltF (tgt := 26) C dX11_card_1 hk.1 (by decide) ?_
  refine jx_iload_n C dX11_card_4 rfl ?_
  refine jx_iconst (v := 4) C dX11_card_5 (by decide) ?_
  refine jx_ic_gtF (tgt := 26) C dX11_card_6 hk.2 (by decide) ?_
  refine jx_iload_n C dX11_card_9 rfl ?_
  refine jx_iload_n C dX11_card_10 rfl ?_
  refine jx_one C (jr_S C (c_11_isLane) sw_11_46 rfl ⟨Nat.le_of_ble_eq_true rfl, Nat.le_of_ble_eq_true rfl⟩ ⟨Nat.le_of_ble_eq_true rfl, Nat.le_of_ble_eq_true rfl⟩ dX11_card_11 rfl (Nat.le_of_ble_eq_true rfl)) ?_
  rw [bI_t hl]
  refine jx_if_eqF (tgt := 26) C dX11_card_14 (by decide) (by decide) ?_
  refine jx_aload_n C dX11_card_17 rfl ?_
  refine jx_get C fl_11_126_10 dX11_card_18 (by decide) gg_65 rfl ?_
  refine jx_bipush (v := 12) C dX11_card_21 (by decide) ?_
  refine jx_ic_neT (tgt := 29) C dX11_card_23 (by decide) (by rw [hco, show (12 : Int32) = nI 12 from rfl, nI_eq (by omega) (by decide)]; omega) ?_
  refine jx_iconst (v := 5) C dX11_card_29 (by decide) ?_
  refine jx_aload_n C dX11_card_30 rfl ?_
  refine jx_get C fl_11_126_10 dX11_card_31 (by decide) gg_65 rfl ?_
  rw [hco]
  refine jx_imul C dX11_card_34 ?_
  rw [show (5 : Int32) * nI co = nI (5 * co) by rw [show (5 : Int32) = nI 5 from rfl, pk_mul]]
  refine jx_istore (lv1 := [_, _, _, _, _, _, _]) C dX11_card_35 (by decide) rfl ?_
  refine jx_aload_n C dX11_card_37 rfl ?_
  refine jx_get C fl_11_32_10 dX11_card_38 (by decide) gg_65 rfl ?_
  refine jx_iload C dX11_card_41 rfl ?_
  refine jx_iload_n C dX11_card_43 rfl ?_
  refine jx_iastI (5 * co) C dX11_card_44 (by decide) (fun _ => gg_73) rfl (by omega) (by decide) ?_
  refine jx_aload_n C dX11_card_45 rfl ?_
  refine jx_get C fl_11_32_10 dX11_card_46 (by decide) gg_65 rfl ?_
  refine jx_iload C dX11_card_49 rfl ?_
  refine jx_iconst (v := 1) C dX11_card_51 (by decide) ?_
  refine jx_iadd C dX11_card_52 ?_
  refine jx_iload_n C dX11_card_53 rfl ?_
  refine jx_iastI (5 * co + 1) C dX11_card_54 (by decide) (fun _ => gg_73) (ix5 co 1) (by omega) (by decide) ?_
  refine jx_aload_n C dX11_card_55 rfl ?_
  refine jx_get C fl_11_32_10 dX11_card_56 (by decide) gg_65 rfl ?_
  refine jx_iload C dX11_card_59 rfl ?_
  refine jx_iconst (v := 2) C dX11_card_61 (by decide) ?_
  refine jx_iadd C dX11_card_62 ?_
  refine jx_iload_n C dX11_card_63 rfl ?_
  refine jx_iastI (5 * co + 2) C dX11_card_64 (by decide) (fun _ => gg_73) (ix5 co 2) (by omega) (by decide) ?_
  refine jx_aload_n C dX11_card_65 rfl ?_
  refine jx_get C fl_11_32_10 dX11_card_66 (by decide) gg_65 rfl ?_
  refine jx_iload C dX11_card_69 rfl ?_
  refine jx_iconst (v := 3) C dX11_card_71 (by decide) ?_
  refine jx_iadd C dX11_card_72 ?_
  refine jx_iload C dX11_card_73 rfl ?_
  refine jx_iastI (5 * co + 3) C dX11_card_75 (by decide) (fun _ => gg_73) (ix5 co 3) (by omega) (by decide) ?_
  refine jx_aload_n C dX11_card_76 rfl ?_
  refine jx_get C fl_11_32_10 dX11_card_77 (by decide) gg_65 rfl ?_
  refine jx_iload C dX11_card_80 rfl ?_
  refine jx_iconst (v := 4) C dX11_card_82 (by decide) ?_
  refine jx_iadd C dX11_card_83 ?_
  refine jx_iload C dX11_card_84 rfl ?_
  refine jx_iastI (5 * co + 4) C dX11_card_86 (by decide) (fun _ => gg_73) (ix5 co 4) (by omega) (by decide) ?_
  refine jx_aload_n C dX11_card_87 rfl ?_
  refine jx_dup C dX11_card_88 rfl ?_
  refine jx_get C fl_11_126_10 dX11_card_89 (by decide) gg_65 rfl ?_
  refine jx_iconst (v := 1) C dX11_card_92 (by decide) ?_
  refine jx_iadd C dX11_card_93 ?_
  rw [up2_ne (by omega), up2_ne (by omega), up2_ne (by omega), up2_ne (by omega), up2_ne (by omega), hco, nI_1]
  refine jx_putI C fp_11_126_10 dX11_card_94 (by decide) gg_65 (Nat.le_of_ble_eq_true rfl) rfl ?_
  refine jx_aload_n C dX11_card_97 rfl ?_
  refine jx_get C fl_11_126_10 dX11_card_98 (by decide) gg_65 rfl ?_
  rw [up2_same]
  exact jx_iret C dX11_card_101 ⟨rfl, rfl, rfl, rfl⟩
set_option maxRecDepth 100000 in
set_option maxHeartbeats 4000000 in
theorem c_11_unhook {l : Launch} {D : va_G} {K : Nat → ClassId} {A : Nat → Nat} {I : TI} {U : TU} {P : TP}  : MM l yX11_unhook cX11_unhook 2 (some .int) 5 D K A (I) (U) (P) [.ref (A 65)] (XE (some (.int (I 65 12))) (up2 I 65 12 0) (U) (P)) := by
  refine MM.go (own := RX11) (lv0 := [some (.ref (A 65)), none]) rfl (by decide) rfl (Nat.le_of_ble_eq_true rfl) rfl ?_
  intro p e s m args below meth c C
  refine jx_aload_n C dX11_unhook_0 rfl ?_
  refine jx_get C fl_11_126_10 dX11_unhook_1 (by decide) gg_65 rfl ?_
  refine jx_istore_n (lv1 := [_, _]) C dX11_unhook_4 (by decide) rfl ?_
  refine jx_aload_n C dX11_unhook_5 rfl ?_
  refine jx_iconst (v := 0) C dX11_unhook_6 (by decide) ?_
  refine jx_putI C fp_11_126_10 dX11_unhook_7 (by decide) gg_65 (Nat.le_of_ble_eq_true rfl) rfl ?_
  refine jx_iload_n C dX11_unhook_10 rfl ?_
  exact jx_iret C dX11_unhook_11 ⟨rfl, rfl, rfl, rfl⟩
set_option maxRecDepth 100000 in
set_option maxHeartbeats 4000000 in
theorem c_11_keeperX {l : Launch} {D : va_G} {K : Nat → ClassId} {A : Nat → Nat} {I : TI} {U : TU} {P : TP} {v : Int32} (h : ¬ v &&& (-63) = 0) : MM l yX11_keeper cX11_keeper 2 (some .boolean) 5 D K A (I) (U) (P) [.ref (A 65), .int v] (XE (some (.int (0))) (I) (U) (P)) := by
  refine MM.go (own := RX11) (lv0 := [some (.ref (A 65)), some (.int v)]) rfl (by decide) rfl (Nat.le_of_ble_eq_true rfl) rfl ?_
  intro p e s m args below meth c C
  refine jx_iload_n C dX11_keeper_0 rfl ?_
  refine jx_bipush (v := (-63)) C dX11_keeper_1 (by decide) ?_
  refine jx_iand C dX11_keeper_3 ?_
  refine jx_if_eqF (tgt := 9) C dX11_keeper_4 h (by decide) ?_
  refine jx_iconst (v := 0) C dX11_keeper_7 (by decide) ?_
  exact jx_zret C dX11_keeper_8 rfl ⟨rfl, rfl, rfl, rfl⟩
set_option maxRecDepth 100000 in
set_option maxHeartbeats 4000000 in
theorem c_11_keeper {l : Launch} {D : va_G} {K : Nat → ClassId} {A : Nat → Nat} {I : TI} {U : TU} {P : TP} {v : Int32} (h : v &&& (-63) = 0) : MM l yX11_keeper cX11_keeper 2 (some .boolean) 5 D K A (I) (U) (P) [.ref (A 65), .int v] (XE (some (.int (1))) (up2 I 65 13 v) (U) (P)) := by
  refine MM.go (own := RX11) (lv0 := [some (.ref (A 65)), some (.int v)]) rfl (by decide) rfl (Nat.le_of_ble_eq_true rfl) rfl ?_
  intro p e s m args below meth c C
  refine jx_iload_n C dX11_keeper_0 rfl ?_
  refine jx_bipush (v := (-63)) C dX11_keeper_1 (by decide) ?_
  refine jx_iand C dX11_keeper_3 ?_
  refine jx_if_eqT (tgt := 9) C dX11_keeper_4 (by decide) h ?_
  refine jx_aload_n C dX11_keeper_9 rfl ?_
  refine jx_iload_n C dX11_keeper_10 rfl ?_
  refine jx_putI C fp_11_129_10 dX11_keeper_11 (by decide) gg_65 (Nat.le_of_ble_eq_true rfl) rfl ?_
  refine jx_iconst (v := 1) C dX11_keeper_14 (by decide) ?_
  exact jx_zret C dX11_keeper_15 rfl ⟨rfl, rfl, rfl, rfl⟩
set_option maxRecDepth 100000 in
set_option maxHeartbeats 4000000 in
theorem c_11_toldF {l : Launch} {D : va_G} {K : Nat → ClassId} {A : Nat → Nat} {I : TI} {U : TU} {P : TP} {f : Nat} (h1 : 1 ≤ f) (h2 : f ≤ 5) : MM l yX11_told cX11_told 2 (some .int) 5 D K A (I) (U) (P) [.ref (A 65), .int (nI f)] (XE (some (.int (I 74 f))) (I) (U) (P)) := by
  refine MM.go (own := RX11) (lv0 := [some (.ref (A 65)), some (.int (nI f))]) rfl (by decide) rfl (Nat.le_of_ble_eq_true rfl) rfl ?_
  intro p e s m args below meth c C
  refine jx_iload_n C dX11_told_0 rfl ?_
  refine jx_if_neT (tgt := 9) C dX11_told_1 (by decide) (nI_ne0 (by omega) (by omega)) ?_
  refine jx_iload_n C dX11_told_9 rfl ?_
  refine jx_if_leF (tgt := 26) C dX11_told_10 (nI_nle (by omega) (by omega)) (by decide) ?_
  refine jx_iload_n C dX11_told_13 rfl ?_
  refine jx_bipush (v := 6) C dX11_told_14 (by decide) ?_
  refine jx_ic_geF (tgt := 26) C dX11_told_16 (nI_ge (b := 6) (by omega) (by decide)) (by decide) ?_
  refine jx_aload_n C dX11_told_19 rfl ?_
  refine jx_get C fl_11_35_10 dX11_told_20 (by decide) gg_65 rfl ?_
  refine jx_iload_n C dX11_told_23 rfl ?_
  refine jx_iald (f) C dX11_told_24 (by decide) gg_74 rfl (by omega) (by decide) ?_
  exact jx_iret C dX11_told_25 ⟨rfl, rfl, rfl, rfl⟩
set_option maxRecDepth 100000 in
set_option maxHeartbeats 4000000 in
theorem c_11_told0 {l : Launch} {D : va_G} {K : Nat → ClassId} {A : Nat → Nat} {I : TI} {U : TU} {P : TP}  : MM l yX11_told cX11_told 2 (some .int) 5 D K A (I) (U) (P) [.ref (A 65), .int 0] (XE (some (.int (I 65 14))) (I) (U) (P)) := by
  refine MM.go (own := RX11) (lv0 := [some (.ref (A 65)), some (.int 0)]) rfl (by decide) rfl (Nat.le_of_ble_eq_true rfl) rfl ?_
  intro p e s m args below meth c C
  refine jx_iload_n C dX11_told_0 rfl ?_
  refine jx_if_neF (tgt := 9) C dX11_told_1 (by decide) (by decide) ?_
  refine jx_aload_n C dX11_told_4 rfl ?_
  refine jx_get C fl_11_42_10 dX11_told_5 (by decide) gg_65 rfl ?_
  exact jx_iret C dX11_told_8 ⟨rfl, rfl, rfl, rfl⟩
set_option maxRecDepth 100000 in
set_option maxHeartbeats 4000000 in
theorem c_11_told6 {l : Launch} {D : va_G} {K : Nat → ClassId} {A : Nat → Nat} {I : TI} {U : TU} {P : TP}  : MM l yX11_told cX11_told 2 (some .int) 5 D K A (I) (U) (P) [.ref (A 65), .int 6] (XE (some (.int (I 65 5))) (I) (U) (P)) := by
  refine MM.go (own := RX11) (lv0 := [some (.ref (A 65)), some (.int 6)]) rfl (by decide) rfl (Nat.le_of_ble_eq_true rfl) rfl ?_
  intro p e s m args below meth c C
  refine jx_iload_n C dX11_told_0 rfl ?_
  refine jx_if_neT (tgt := 9) C dX11_told_1 (by decide) (by decide) ?_
  refine jx_iload_n C dX11_told_9 rfl ?_
  refine jx_if_leF (tgt := 26) C dX11_told_10 (by decide) (by decide) ?_
  refine jx_iload_n C dX11_told_13 rfl ?_
  refine jx_bipush (v := 6) C dX11_told_14 (by decide) ?_
  refine jx_ic_geT (tgt := 26) C dX11_told_16 (by decide) (by decide) ?_
  refine jx_iload_n C dX11_told_26 rfl ?_
  refine jx_bipush (v := 6) C dX11_told_27 (by decide) ?_
  refine jx_ic_neF (tgt := 37) C dX11_told_29 (by decide) (by decide) ?_
  refine jx_aload_n C dX11_told_32 rfl ?_
  refine jx_get C fl_11_61_10 dX11_told_33 (by decide) gg_65 rfl ?_
  exact jx_iret C dX11_told_36 ⟨rfl, rfl, rfl, rfl⟩
set_option maxRecDepth 100000 in
set_option maxHeartbeats 4000000 in
theorem c_11_told7 {l : Launch} {D : va_G} {K : Nat → ClassId} {A : Nat → Nat} {I : TI} {U : TU} {P : TP}  : MM l yX11_told cX11_told 2 (some .int) 5 D K A (I) (U) (P) [.ref (A 65), .int 7] (XE (some (.int (I 65 12))) (I) (U) (P)) := by
  refine MM.go (own := RX11) (lv0 := [some (.ref (A 65)), some (.int 7)]) rfl (by decide) rfl (Nat.le_of_ble_eq_true rfl) rfl ?_
  intro p e s m args below meth c C
  refine jx_iload_n C dX11_told_0 rfl ?_
  refine jx_if_neT (tgt := 9) C dX11_told_1 (by decide) (by decide) ?_
  refine jx_iload_n C dX11_told_9 rfl ?_
  refine jx_if_leF (tgt := 26) C dX11_told_10 (by decide) (by decide) ?_
  refine jx_iload_n C dX11_told_13 rfl ?_
  refine jx_bipush (v := 6) C dX11_told_14 (by decide) ?_
  refine jx_ic_geT (tgt := 26) C dX11_told_16 (by decide) (by decide) ?_
  refine jx_iload_n C dX11_told_26 rfl ?_
  refine jx_bipush (v := 6) C dX11_told_27 (by decide) ?_
  refine jx_ic_neT (tgt := 37) C dX11_told_29 (by decide) (by decide) ?_
  refine jx_iload_n C dX11_told_37 rfl ?_
  refine jx_bipush (v := 7) C dX11_told_38 (by decide) ?_
  refine jx_ic_neF (tgt := 48) C dX11_told_40 (by decide) (by decide) ?_
  refine jx_aload_n C dX11_told_43 rfl ?_
  refine jx_get C fl_11_126_10 dX11_told_44 (by decide) gg_65 rfl ?_
  exact jx_iret C dX11_told_47 ⟨rfl, rfl, rfl, rfl⟩
set_option maxRecDepth 100000 in
set_option maxHeartbeats 4000000 in
theorem c_11_told8 {l : Launch} {D : va_G} {K : Nat → ClassId} {A : Nat → Nat} {I : TI} {U : TU} {P : TP}  : MM l yX11_told cX11_told 2 (some .int) 5 D K A (I) (U) (P) [.ref (A 65), .int 8] (XE (some (.int (I 65 16))) (I) (U) (P)) := by
  refine MM.go (own := RX11) (lv0 := [some (.ref (A 65)), some (.int 8)]) rfl (by decide) rfl (Nat.le_of_ble_eq_true rfl) rfl ?_
  intro p e s m args below meth c C
  refine jx_iload_n C dX11_told_0 rfl ?_
  refine jx_if_neT (tgt := 9) C dX11_told_1 (by decide) (by decide) ?_
  refine jx_iload_n C dX11_told_9 rfl ?_
  refine jx_if_leF (tgt := 26) C dX11_told_10 (by decide) (by decide) ?_
  refine jx_iload_n C dX11_told_13 rfl ?_
  refine jx_bipush (v := 6) C dX11_told_14 (by decide) ?_
  refine jx_ic_geT (tgt := 26) C dX11_told_16 (by decide) (by decide) ?_
  refine jx_iload_n C dX11_told_26 rfl ?_
  refine jx_bipush (v := 6) C dX11_told_27 (by decide) ?_
  refine jx_ic_neT (tgt := 37) C dX11_told_29 (by decide) (by decide) ?_
  refine jx_iload_n C dX11_told_37 rfl ?_
  refine jx_bipush (v := 7) C dX11_told_38 (by decide) ?_
  refine jx_ic_neT (tgt := 48) C dX11_told_40 (by decide) (by decide) ?_
  refine jx_iload_n C dX11_told_48 rfl ?_
  refine jx_bipush (v := 8) C dX11_told_49 (by decide) ?_
  refine jx_ic_neF (tgt := 59) C dX11_told_51 (by decide) (by decide) ?_
  refine jx_aload_n C dX11_told_54 rfl ?_
  refine jx_get C fl_11_132_10 dX11_told_55 (by decide) gg_65 rfl ?_
  exact jx_iret C dX11_told_58 ⟨rfl, rfl, rfl, rfl⟩
set_option maxRecDepth 100000 in
set_option maxHeartbeats 4000000 in
theorem c_11_told9 {l : Launch} {D : va_G} {K : Nat → ClassId} {A : Nat → Nat} {I : TI} {U : TU} {P : TP}  : MM l yX11_told cX11_told 2 (some .int) 5 D K A (I) (U) (P) [.ref (A 65), .int 9] (XE (some (.int (I 65 17))) (I) (U) (P)) := by
  refine MM.go (own := RX11) (lv0 := [some (.ref (A 65)), some (.int 9)]) rfl (by decide) rfl (Nat.le_of_ble_eq_true rfl) rfl ?_
  intro p e s m args below meth c C
  refine jx_iload_n C dX11_told_0 rfl ?_
  refine jx_if_neT (tgt := 9) C dX11_told_1 (by decide) (by decide) ?_
  refine jx_iload_n C dX11_told_9 rfl ?_
  refine jx_if_leF (tgt := 26) C dX11_told_10 (by decide) (by decide) ?_
  refine jx_iload_n C dX11_told_13 rfl ?_
  refine jx_bipush (v := 6) C dX11_told_14 (by decide) ?_
  refine jx_ic_geT (tgt := 26) C dX11_told_16 (by decide) (by decide) ?_
  refine jx_iload_n C dX11_told_26 rfl ?_
  refine jx_bipush (v := 6) C dX11_told_27 (by decide) ?_
  refine jx_ic_neT (tgt := 37) C dX11_told_29 (by decide) (by decide) ?_
  refine jx_iload_n C dX11_told_37 rfl ?_
  refine jx_bipush (v := 7) C dX11_told_38 (by decide) ?_
  refine jx_ic_neT (tgt := 48) C dX11_told_40 (by decide) (by decide) ?_
  refine jx_iload_n C dX11_told_48 rfl ?_
  refine jx_bipush (v := 8) C dX11_told_49 (by decide) ?_
  refine jx_ic_neT (tgt := 59) C dX11_told_51 (by decide) (by decide) ?_
  refine jx_iload_n C dX11_told_59 rfl ?_
  refine jx_bipush (v := 9) C dX11_told_60 (by decide) ?_
  refine jx_ic_neF (tgt := 72) C dX11_told_62 (by decide) (by decide) ?_
  refine jx_aload_n C dX11_told_65 rfl ?_
  refine jx_get C fl_11_123_10 dX11_told_66 (by decide) gg_65 rfl ?_
  refine jx_goto (tgt := 74) C dX11_told_69 (by decide) ?_
  exact jx_iret C dX11_told_74 ⟨rfl, rfl, rfl, rfl⟩
set_option maxRecDepth 100000 in
set_option maxHeartbeats 4000000 in
theorem c_11_toldL {l : Launch} {D : va_G} {K : Nat → ClassId} {A : Nat → Nat} {I : TI} {U : TU} {P : TP} {v : Int32} (h0 : ¬ v = 0) (h : v ≤ 0) (h6 : ¬ v = 6) (h7 : ¬ v = 7) (h8 : ¬ v = 8) (h9 : ¬ v = 9) : MM l yX11_told cX11_told 2 (some .int) 5 D K A (I) (U) (P) [.ref (A 65), .int v] (XE (some (.int ((-2147483648)))) (I) (U) (P)) := by
  refine MM.go (own := RX11) (lv0 := [some (.ref (A 65)), some (.int v)]) rfl (by decide) rfl (Nat.le_of_ble_eq_true rfl) rfl ?_
  intro p e s m args below meth c C
  refine jx_iload_n C dX11_told_0 rfl ?_
  refine jx_if_neT (tgt := 9) C dX11_told_1 (by decide) h0 ?_
  refine jx_iload_n C dX11_told_9 rfl ?_
  refine jx_if_leT (tgt := 26) C dX11_told_10 (by decide) h ?_
  refine jx_iload_n C dX11_told_26 rfl ?_
  refine jx_bipush (v := 6) C dX11_told_27 (by decide) ?_
  refine jx_ic_neT (tgt := 37) C dX11_told_29 (by decide) h6 ?_
  refine jx_iload_n C dX11_told_37 rfl ?_
  refine jx_bipush (v := 7) C dX11_told_38 (by decide) ?_
  refine jx_ic_neT (tgt := 48) C dX11_told_40 (by decide) h7 ?_
  refine jx_iload_n C dX11_told_48 rfl ?_
  refine jx_bipush (v := 8) C dX11_told_49 (by decide) ?_
  refine jx_ic_neT (tgt := 59) C dX11_told_51 (by decide) h8 ?_
  refine jx_iload_n C dX11_told_59 rfl ?_
  refine jx_bipush (v := 9) C dX11_told_60 (by decide) ?_
  refine jx_ic_neT (tgt := 72) C dX11_told_62 (by decide) h9 ?_
  refine jx_ldc C dX11_told_72 qw_633 ?_
  exact jx_iret C dX11_told_74 ⟨rfl, rfl, rfl, rfl⟩
set_option maxRecDepth 100000 in
set_option maxHeartbeats 4000000 in
theorem c_11_toldH {l : Launch} {D : va_G} {K : Nat → ClassId} {A : Nat → Nat} {I : TI} {U : TU} {P : TP} {v : Int32} (h0 : ¬ v = 0) (h : ¬ v ≤ 0) (hg : 6 ≤ v) (h6 : ¬ v = 6) (h7 : ¬ v = 7) (h8 : ¬ v = 8) (h9 : ¬ v = 9) : MM l yX11_told cX11_told 2 (some .int) 5 D K A (I) (U) (P) [.ref (A 65), .int v] (XE (some (.int ((-2147483648)))) (I) (U) (P)) := by
  refine MM.go (own := RX11) (lv0 := [some (.ref (A 65)), some (.int v)]) rfl (by decide) rfl (Nat.le_of_ble_eq_true rfl) rfl ?_
  intro p e s m args below meth c C
  refine jx_iload_n C dX11_told_0 rfl ?_
  refine jx_if_neT (tgt := 9) C dX11_told_1 (by decide) h0 ?_
  refine jx_iload_n C dX11_told_9 rfl ?_
  refine jx_if_leF (tgt := 26) C dX11_told_10 h (by decide) ?_
  refine jx_iload_n C dX11_told_13 rfl ?_
  refine jx_bipush (v := 6) C dX11_told_14 (by decide) ?_
  refine jx_ic_geT (tgt := 26) C dX11_told_16 (by decide) hg ?_
  refine jx_iload_n C dX11_told_26 rfl ?_
  refine jx_bipush (v := 6) C dX11_told_27 (by decide) ?_
  refine jx_ic_neT (tgt := 37) C dX11_told_29 (by decide) h6 ?_
  refine jx_iload_n C dX11_told_37 rfl ?_
  refine jx_bipush (v := 7) C dX11_told_38 (by decide) ?_
  refine jx_ic_neT (tgt := 48) C dX11_told_40 (by decide) h7 ?_
  refine jx_iload_n C dX11_told_48 rfl ?_
  refine jx_bipush (v := 8) C dX11_told_49 (by decide) ?_
  refine jx_ic_neT (tgt := 59) C dX11_told_51 (by decide) h8 ?_
  refine jx_iload_n C dX11_told_59 rfl ?_
  refine jx_bipush (v := 9) C dX11_told_60 (by decide) ?_
  refine jx_ic_neT (tgt := 72) C dX11_told_62 (by decide) h9 ?_
  refine jx_ldc C dX11_told_72 qw_633 ?_
  exact jx_iret C dX11_told_74 ⟨rfl, rfl, rfl, rfl⟩
