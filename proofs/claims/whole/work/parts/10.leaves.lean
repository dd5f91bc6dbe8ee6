/-! leaves: Warp's tests and places, the spool, the ledger -/
def bI (c : Prop) [Decidable c] : Int32 := if c then 1 else 0
theorem bI_t {c : Prop} [Decidable c] (h : c) : bI c = 1 := if_pos h
theorem bI_f {c : Prop} [Decidable c] (h : ¬ c) : bI c = 0 := if_neg h
abbrev inF (f : Int32) : Prop := ¬ f < 0 ∧ ¬ 4 ≤ f
abbrev inS (f : Int32) : Prop := ¬ f < 0 ∧ ¬ 5 ≤ f
abbrev inK (f : Int32) : Prop := ¬ f < 0 ∧ ¬ 4 < f
abbrev inL (f s : Int32) : Prop := inF f ∧ inS s
theorem inF_of {f : Int32} (h : inF f) : ∃ a : Nat, a < 4 ∧ f = nI a := by
  rcases pk_ix f (n := 4) (by decide) with h1 | h1 | h1
  · exact absurd h1 h.1
  · exact absurd h1 h.2
  · exact h1
theorem inS_of {f : Int32} (h : inS f) : ∃ a : Nat, a < 5 ∧ f = nI a := by
  rcases pk_ix f (n := 5) (by decide) with h1 | h1 | h1
  · exact absurd h1 h.1
  · exact absurd h1 h.2
  · exact h1
theorem inF_nI {a : Nat} (h : a < 4) : inF (nI a) := ⟨nI_pos (by omega), nI_ge h (by decide)⟩
theorem inS_nI {a : Nat} (h : a < 5) : inS (nI a) := ⟨nI_pos (by omega), nI_ge h (by decide)⟩
set_option maxRecDepth 100000 in
set_option maxHeartbeats 4000000 in
theorem c_8_isFrame {l : Launch} {D : va_G} {K : Nat → ClassId} {A : Nat → Nat} {I : TI} {U : TU} {P : TP} {f : Int32} : MM l yX8_isFrame cX8_isFrame 1 (some .boolean) 0 D K A (I) (U) (P) [.int f] (XE (some (.int (bI (inF f)))) I U P) := by
  refine MM.go (own := RX8) (lv0 := [some (.int f)]) rfl (by decide) rfl (Nat.le_of_ble_eq_true rfl) rfl ?_
  intro p e s m args below meth c C
  refine jx_iload_n C dX8_isFrame_0 rfl ?_
  refine jx_if_lt (tgt := 13) C dX8_isFrame_1 (by decide) (fun c1 => ?_) (fun c1 => ?_)
  · refine jx_iconst (v := 0) C dX8_isFrame_13 (by decide) ?_
    exact jx_zret C dX8_isFrame_14 rfl ⟨by simp [bI, inF, c1], rfl, rfl, rfl⟩
  · refine jx_iload_n C dX8_isFrame_4 rfl ?_
    refine jx_iconst (v := 4) C dX8_isFrame_5 (by decide) ?_
    refine jx_ic_ge (tgt := 13) C dX8_isFrame_6 (by decide) (fun c6 => ?_) (fun c6 => ?_)
    · refine jx_iconst (v := 0) C dX8_isFrame_13 (by decide) ?_
      exact jx_zret C dX8_isFrame_14 rfl ⟨by simp [bI, inF, c1, c6], rfl, rfl, rfl⟩
    · refine jx_iconst (v := 1) C dX8_isFrame_9 (by decide) ?_
      refine jx_goto (tgt := 14) C dX8_isFrame_10 (by decide) ?_
      exact jx_zret C dX8_isFrame_14 rfl ⟨by simp [bI, inF, c1, c6], rfl, rfl, rfl⟩
set_option maxRecDepth 100000 in
set_option maxHeartbeats 4000000 in
theorem c_8_isLane {l : Launch} {D : va_G} {K : Nat → ClassId} {A : Nat → Nat} {I : TI} {U : TU} {P : TP} {f s0 : Int32} : MM l yX8_isLane cX8_isLane 2 (some .boolean) 1 D K A (I) (U) (P) [.int f, .int s0] (XE (some (.int (bI (inL f s0)))) I U P) := by
  refine MM.go (own := RX8) (lv0 := [some (.int f), some (.int s0)]) rfl (by decide) rfl (Nat.le_of_ble_eq_true rfl) rfl ?_
  intro p e s m args below meth c C
  refine jx_iload_n C dX8_isLane_0 rfl ?_
  by_cases h1 : inF f
  · skip
    refine jx_one C (jr_S C (c_8_isFrame) sw_8_35 rfl ⟨Nat.le_of_ble_eq_true rfl, Nat.le_of_ble_eq_true rfl⟩ ⟨Nat.le_of_ble_eq_true rfl, Nat.le_of_ble_eq_true rfl⟩ dX8_isLane_1 rfl (Nat.le_of_ble_eq_true rfl)) ?_
    rw [bI_t h1]
    refine jx_if_eqF (tgt := 20) C dX8_isLane_4 (by decide) (by decide) ?_
    refine jx_iload_n C dX8_isLane_7 rfl ?_
    refine jx_if_lt (tgt := 20) C dX8_isLane_8 (by decide) (fun c8 => ?_) (fun c8 => ?_)
    · refine jx_iconst (v := 0) C dX8_isLane_20 (by decide) ?_
      exact jx_zret C dX8_isLane_21 rfl ⟨by rw [bI_f (fun h => h.2.1 c8)], rfl, rfl, rfl⟩
    · refine jx_iload_n C dX8_isLane_11 rfl ?_
      refine jx_iconst (v := 5) C dX8_isLane_12 (by decide) ?_
      refine jx_ic_ge (tgt := 20) C dX8_isLane_13 (by decide) (fun c13 => ?_) (fun c13 => ?_)
      · refine jx_iconst (v := 0) C dX8_isLane_20 (by decide) ?_
        exact jx_zret C dX8_isLane_21 rfl ⟨by rw [bI_f (fun h => h.2.2 c13)], rfl, rfl, rfl⟩
      · refine jx_iconst (v := 1) C dX8_isLane_16 (by decide) ?_
        refine jx_goto (tgt := 21) C dX8_isLane_17 (by decide) ?_
        exact jx_zret C dX8_isLane_21 rfl ⟨by rw [bI_t ⟨h1, c8, c13⟩], rfl, rfl, rfl⟩
  · skip
    refine jx_one C (jr_S C (c_8_isFrame) sw_8_35 rfl ⟨Nat.le_of_ble_eq_true rfl, Nat.le_of_ble_eq_true rfl⟩ ⟨Nat.le_of_ble_eq_true rfl, Nat.le_of_ble_eq_true rfl⟩ dX8_isLane_1 rfl (Nat.le_of_ble_eq_true rfl)) ?_
    rw [bI_f h1]
    refine jx_if_eqT (tgt := 20) C dX8_isLane_4 (by decide) (by decide) ?_
    refine jx_iconst (v := 0) C dX8_isLane_20 (by decide) ?_
    exact jx_zret C dX8_isLane_21 rfl ⟨by rw [bI_f (fun h => h1 h.1)], rfl, rfl, rfl⟩
set_option maxRecDepth 100000 in
set_option maxHeartbeats 4000000 in
theorem c_8_place {l : Launch} {D : va_G} {K : Nat → ClassId} {A : Nat → Nat} {I : TI} {U : TU} {P : TP} {f s0 : Int32} : MM l yX8_place cX8_place 2 (some .int) 0 D K A (I) (U) (P) [.int f, .int s0] (XE (some (.int (f * 5 + s0))) I U P) := by
  refine MM.go (own := RX8) (lv0 := [some (.int f), some (.int s0)]) rfl (by decide) rfl (Nat.le_of_ble_eq_true rfl) rfl ?_
  intro p e s m args below meth c C
  refine jx_iload_n C dX8_place_0 rfl ?_
  refine jx_iconst (v := 5) C dX8_place_1 (by decide) ?_
  refine jx_imul C dX8_place_2 ?_
  refine jx_iload_n C dX8_place_3 rfl ?_
  refine jx_iadd C dX8_place_4 ?_
  exact jx_iret C dX8_place_5 ⟨rfl, rfl, rfl, rfl⟩
set_option maxRecDepth 100000 in
set_option maxHeartbeats 4000000 in
theorem c_10_isAct {l : Launch} {D : va_G} {K : Nat → ClassId} {A : Nat → Nat} {I : TI} {U : TU} {P : TP} {f : Int32} : MM l yX10_isAct cX10_isAct 1 (some .boolean) 0 D K A (I) (U) (P) [.int f] (XE (some (.int (bI (inK f)))) I U P) := by
  refine MM.go (own := RX10) (lv0 := [some (.int f)]) rfl (by decide) rfl (Nat.le_of_ble_eq_true rfl) rfl ?_
  intro p e s m args below meth c C
  refine jx_iload_n C dX10_isAct_0 rfl ?_
  refine jx_if_lt (tgt := 13) C dX10_isAct_1 (by decide) (fun c1 => ?_) (fun c1 => ?_)
  · refine jx_iconst (v := 0) C dX10_isAct_13 (by decide) ?_
    exact jx_zret C dX10_isAct_14 rfl ⟨by simp [bI, inK, c1], rfl, rfl, rfl⟩
  · refine jx_iload_n C dX10_isAct_4 rfl ?_
    refine jx_iconst (v := 4) C dX10_isAct_5 (by decide) ?_
    refine jx_ic_gt (tgt := 13) C dX10_isAct_6 (by decide) (fun c6 => ?_) (fun c6 => ?_)
    · refine jx_iconst (v := 0) C dX10_isAct_13 (by decide) ?_
      exact jx_zret C dX10_isAct_14 rfl ⟨by simp [bI, inK, c1, c6], rfl, rfl, rfl⟩
    · refine jx_iconst (v := 1) C dX10_isAct_9 (by decide) ?_
      refine jx_goto (tgt := 14) C dX10_isAct_10 (by decide) ?_
      exact jx_zret C dX10_isAct_14 rfl ⟨by simp [bI, inK, c1, c6], rfl, rfl, rfl⟩
set_option maxRecDepth 100000 in
set_option maxHeartbeats 4000000 in
theorem c_6_count {l : Launch} {D : va_G} {K : Nat → ClassId} {A : Nat → Nat} {I : TI} {U : TU} {P : TP}  : MM l yX6_count cX6_count 1 (some .int) 0 D K A (I) (U) (P) [.ref (A 44)] (XE (some (.int (I 44 2))) I U P) := by
  refine MM.go (own := RX6) (lv0 := [some (.ref (A 44))]) rfl (by decide) rfl (Nat.le_of_ble_eq_true rfl) rfl ?_
  intro p e s m args below meth c C
  refine jx_aload_n C dX6_count_0 rfl ?_
  refine jx_get C fl_6_19_5 dX6_count_1 (by decide) gg_44 rfl ?_
  exact jx_iret C dX6_count_4 ⟨rfl, rfl, rfl, rfl⟩
set_option maxRecDepth 100000 in
set_option maxHeartbeats 4000000 in
theorem c_6_isEmpty {l : Launch} {D : va_G} {K : Nat → ClassId} {A : Nat → Nat} {I : TI} {U : TU} {P : TP}  : MM l yX6_isEmpty cX6_isEmpty 1 (some .boolean) 0 D K A (I) (U) (P) [.ref (A 44)] (XE (some (.int (bI (I 44 2 = 0)))) I U P) := by
  refine MM.go (own := RX6) (lv0 := [some (.ref (A 44))]) rfl (by decide) rfl (Nat.le_of_ble_eq_true rfl) rfl ?_
  intro p e s m args below meth c C
  refine jx_aload_n C dX6_isEmpty_0 rfl ?_
  refine jx_get C fl_6_19_5 dX6_isEmpty_1 (by decide) gg_44 rfl ?_
  refine jx_if_ne (tgt := 11) C dX6_isEmpty_4 (by decide) (fun c4 => ?_) (fun c4 => ?_)
  · refine jx_iconst (v := 0) C dX6_isEmpty_11 (by decide) ?_
    exact jx_zret C dX6_isEmpty_12 rfl ⟨by simp [bI, c4], rfl, rfl, rfl⟩
  · refine jx_iconst (v := 1) C dX6_isEmpty_7 (by decide) ?_
    refine jx_goto (tgt := 12) C dX6_isEmpty_8 (by decide) ?_
    exact jx_zret C dX6_isEmpty_12 rfl ⟨by simp [bI, c4], rfl, rfl, rfl⟩
set_option maxRecDepth 100000 in
set_option maxHeartbeats 4000000 in
theorem c_6_isFull {l : Launch} {D : va_G} {K : Nat → ClassId} {A : Nat → Nat} {I : TI} {U : TU} {P : TP}  : MM l yX6_isFull cX6_isFull 1 (some .boolean) 0 D K A (I) (U) (P) [.ref (A 44)] (XE (some (.int (bI (I 44 2 = 16)))) I U P) := by
  refine MM.go (own := RX6) (lv0 := [some (.ref (A 44))]) rfl (by decide) rfl (Nat.le_of_ble_eq_true rfl) rfl ?_
  intro p e s m args below meth c C
  refine jx_aload_n C dX6_isFull_0 rfl ?_
  refine jx_get C fl_6_19_5 dX6_isFull_1 (by decide) gg_44 rfl ?_
  refine jx_bipush (v := 16) C dX6_isFull_4 (by decide) ?_
  refine jx_ic_ne (tgt := 13) C dX6_isFull_6 (by decide) (fun c6 => ?_) (fun c6 => ?_)
  · refine jx_iconst (v := 0) C dX6_isFull_13 (by decide) ?_
    exact jx_zret C dX6_isFull_14 rfl ⟨by simp [bI, c6], rfl, rfl, rfl⟩
  · refine jx_iconst (v := 1) C dX6_isFull_9 (by decide) ?_
    refine jx_goto (tgt := 14) C dX6_isFull_10 (by decide) ?_
    exact jx_zret C dX6_isFull_14 rfl ⟨by simp [bI, c6], rfl, rfl, rfl⟩
theorem rem16 {a b : Int32} {x y : Nat} (hx : a = nI x) (hy : b = nI y) (h1 : x < 100) (h2 : y < 100) : (a + b) - (a + b) / 16 * 16 = nI ((x + y) % 16) := by
  rw [hx, hy, nI_add, show (16 : Int32) = nI 16 from rfl]
  exact pk_rem (by omega) (by decide) (by decide)
set_option maxRecDepth 100000 in
set_option maxHeartbeats 4000000 in
theorem c_6_wind {l : Launch} {D : va_G} {K : Nat → ClassId} {A : Nat → Nat} {I : TI} {U : TU} {P : TP} {v : Int32} {fi co : Nat} (hfi : I 44 1 = nI fi) (hco : I 44 2 = nI co) (h1 : fi < 16) (h2 : co < 16) : MM l yX6_wind cX6_wind 2 none 1 D K A (I) (U) (P) [.ref (A 44), .int v] (XE none (up2 (up2 I 45 ((fi + co) % 16) v) 44 2 (nI (co + 1))) U P) := by
  have hne : ¬ I 44 2 = 16 := by rw [hco, show (16 : Int32) = nI 16 from rfl, nI_eq (by omega) (by decide)]; omega
  refine MM.go (own := RX6) (lv0 := [some (.ref (A 44)), some (.int v)]) rfl (by decide) rfl (Nat.le_of_ble_eq_true rfl) rfl ?_
  intro p e s m args below meth c C
  refine jx_aload_n C dX6_wind_0 rfl ?_
  refine jx_one C (jr_V C (c_6_isFull) vw_6_22 (by decide) gg_44 rfl rfl ⟨Nat.le_of_ble_eq_true rfl, Nat.le_of_ble_eq_true rfl⟩ ⟨Nat.le_of_ble_eq_true rfl, Nat.le_of_ble_eq_true rfl⟩ dX6_wind_1 rfl (Nat.le_of_ble_eq_true rfl)) ?_
  rw [bI_f hne]
  refine jx_if_neF (tgt := 35) C dX6_wind_4 (by decide) (by decide) ?_
  refine jx_aload_n C dX6_wind_7 rfl ?_
  refine jx_get C fl_6_9_5 dX6_wind_8 (by decide) gg_44 rfl ?_
  refine jx_aload_n C dX6_wind_11 rfl ?_
  refine jx_get C fl_6_15_5 dX6_wind_12 (by decide) gg_44 rfl ?_
  refine jx_aload_n C dX6_wind_15 rfl ?_
  refine jx_get C fl_6_19_5 dX6_wind_16 (by decide) gg_44 rfl ?_
  refine jx_iadd C dX6_wind_19 ?_
  refine jx_bipush (v := 16) C dX6_wind_20 (by decide) ?_
  refine jx_irem C dX6_wind_22 (by decide) ?_
  refine jx_iload_n C dX6_wind_23 rfl ?_
  refine jx_iastI ((fi + co) % 16) C dX6_wind_24 (by decide) (fun _ => gg_45) (rem16 hfi hco (by omega) (by omega)) (Nat.mod_lt _ (by decide)) (by decide) ?_
  refine jx_aload_n C dX6_wind_25 rfl ?_
  refine jx_dup C dX6_wind_26 rfl ?_
  refine jx_get C fl_6_19_5 dX6_wind_27 (by decide) gg_44 rfl ?_
  refine jx_iconst (v := 1) C dX6_wind_30 (by decide) ?_
  refine jx_iadd C dX6_wind_31 ?_
  rw [up2_ne (by omega), hco, nI_1]
  refine jx_putI C fp_6_19_5 dX6_wind_32 (by decide) gg_44 (Nat.le_of_ble_eq_true rfl) rfl ?_
  exact jx_vret C dX6_wind_35 ⟨rfl, rfl, rfl, rfl⟩
set_option maxRecDepth 100000 in
set_option maxHeartbeats 4000000 in
theorem c_6_draw {l : Launch} {D : va_G} {K : Nat → ClassId} {A : Nat → Nat} {I : TI} {U : TU} {P : TP} {fi co : Nat} (hfi : I 44 1 = nI fi) (hco : I 44 2 = nI (co + 1)) (h1 : fi < 16) (h2 : co < 16) : MM l yX6_draw cX6_draw 2 (some .int) 1 D K A (I) (U) (P) [.ref (A 44)] (XE (some (.int (I 45 fi))) (up2 (up2 I 44 1 (nI ((fi + 1) % 16))) 44 2 (nI co)) U P) := by
  have hne : ¬ I 44 2 = 0 := by rw [hco]; exact nI_ne0 (by omega) (by omega)
  refine MM.go (own := RX6) (lv0 := [some (.ref (A 44)), none]) rfl (by decide) rfl (Nat.le_of_ble_eq_true rfl) rfl ?_
  intro p e s m args below meth c C
  refine jx_aload_n C dX6_draw_0 rfl ?_
  refine jx_one C (jr_V C (c_6_isEmpty) vw_6_26 (by decide) gg_44 rfl rfl ⟨Nat.le_of_ble_eq_true rfl, Nat.le_of_ble_eq_true rfl⟩ ⟨Nat.le_of_ble_eq_true rfl, Nat.le_of_ble_eq_true rfl⟩ dX6_draw_1 rfl (Nat.le_of_ble_eq_true rfl)) ?_
  rw [bI_f hne]
  refine jx_if_eqT (tgt := 9) C dX6_draw_4 (by decide) (by decide) ?_
  refine jx_aload_n C dX6_draw_9 rfl ?_
  refine jx_get C fl_6_9_5 dX6_draw_10 (by decide) gg_44 rfl ?_
  refine jx_aload_n C dX6_draw_13 rfl ?_
  refine jx_get C fl_6_15_5 dX6_draw_14 (by decide) gg_44 rfl ?_
  refine jx_iald (fi) C dX6_draw_17 (by decide) gg_45 hfi h1 (by decide) ?_
  refine jx_istore_n (lv1 := [_, _]) C dX6_draw_18 (by decide) rfl ?_
  refine jx_aload_n C dX6_draw_19 rfl ?_
  refine jx_aload_n C dX6_draw_20 rfl ?_
  refine jx_get C fl_6_15_5 dX6_draw_21 (by decide) gg_44 rfl ?_
  refine jx_iconst (v := 1) C dX6_draw_24 (by decide) ?_
  refine jx_iadd C dX6_draw_25 ?_
  refine jx_bipush (v := 16) C dX6_draw_26 (by decide) ?_
  refine jx_irem C dX6_draw_28 (by decide) ?_
  rw [rem16 (x := fi) (b := 1) (y := 1) hfi rfl (by omega) (by decide)]
  refine jx_putI C fp_6_15_5 dX6_draw_29 (by decide) gg_44 (Nat.le_of_ble_eq_true rfl) rfl ?_
  refine jx_aload_n C dX6_draw_32 rfl ?_
  refine jx_dup C dX6_draw_33 rfl ?_
  refine jx_get C fl_6_19_5 dX6_draw_34 (by decide) gg_44 rfl ?_
  refine jx_iconst (v := 1) C dX6_draw_37 (by decide) ?_
  refine jx_isub C dX6_draw_38 ?_
  rw [up2_ne (by omega), hco, nI_pred]
  refine jx_putI C fp_6_19_5 dX6_draw_39 (by decide) gg_44 (Nat.le_of_ble_eq_true rfl) rfl ?_
  refine jx_iload_n C dX6_draw_42 rfl ?_
  exact jx_iret C dX6_draw_43 ⟨rfl, rfl, rfl, rfl⟩
set_option maxRecDepth 100000 in
set_option maxHeartbeats 4000000 in
theorem c_4_begin {l : Launch} {D : va_G} {K : Nat → ClassId} {A : Nat → Nat} {I : TI} {U : TU} {P : TP}  : MM l yX4_begin cX4_begin 1 none 0 D K A (I) (U) (P) [.ref (A 63)] (XE none (up2 I 63 1 0) U P) := by
  refine MM.go (own := RX4) (lv0 := [some (.ref (A 63))]) rfl (by decide) rfl (Nat.le_of_ble_eq_true rfl) rfl ?_
  intro p e s m args below meth c C
  refine jx_aload_n C dX4_begin_0 rfl ?_
  refine jx_iconst (v := 0) C dX4_begin_1 (by decide) ?_
  refine jx_putI C fp_4_15_3 dX4_begin_2 (by decide) gg_63 (Nat.le_of_ble_eq_true rfl) rfl ?_
  exact jx_vret C dX4_begin_5 ⟨rfl, rfl, rfl, rfl⟩
set_option maxRecDepth 100000 in
set_option maxHeartbeats 4000000 in
theorem c_4_latest {l : Launch} {D : va_G} {K : Nat → ClassId} {A : Nat → Nat} {I : TI} {U : TU} {P : TP}  : MM l yX4_latest cX4_latest 1 (some .int) 0 D K A (I) (U) (P) [.ref (A 63)] (XE (some (.int (I 63 1))) I U P) := by
  refine MM.go (own := RX4) (lv0 := [some (.ref (A 63))]) rfl (by decide) rfl (Nat.le_of_ble_eq_true rfl) rfl ?_
  intro p e s m args below meth c C
  refine jx_aload_n C dX4_latest_0 rfl ?_
  refine jx_get C fl_4_15_3 dX4_latest_1 (by decide) gg_63 rfl ?_
  exact jx_iret C dX4_latest_4 ⟨rfl, rfl, rfl, rfl⟩
set_option maxRecDepth 100000 in
set_option maxHeartbeats 4000000 in
theorem c_4_tell {l : Launch} {D : va_G} {K : Nat → ClassId} {A : Nat → Nat} {I : TI} {U : TU} {P : TP} {f : Nat} (h1 : 1 ≤ f) (h2 : f ≤ 5) : MM l yX4_tell cX4_tell 2 (some .int) 0 D K A (I) (U) (P) [.ref (A 63), .int (nI f)] (XE (some (.int 0)) (up2 (up2 I 63 1 (nI f)) 64 f (I 64 f + 1)) U P) := by
  refine MM.go (own := RX4) (lv0 := [some (.ref (A 63)), some (.int (nI f))]) rfl (by decide) rfl (Nat.le_of_ble_eq_true rfl) rfl ?_
  intro p e s m args below meth c C
  refine jx_iload_n C dX4_tell_0 rfl ?_
  refine jx_iconst (v := 1) C dX4_tell_1 (by decide) ?_
  refine jx_ic_ltF (tgt := 25) C dX4_tell_2 (nI_nlt (a := f) (b := 1) (by omega) (by omega)) (by decide) ?_
  refine jx_iload_n C dX4_tell_5 rfl ?_
  refine jx_iconst (v := 5) C dX4_tell_6 (by decide) ?_
  refine jx_ic_gtF (tgt := 25) C dX4_tell_7 (nI_nlt (a := 5) (b := f) (by omega) (by decide)) (by decide) ?_
  refine jx_aload_n C dX4_tell_10 rfl ?_
  refine jx_iload_n C dX4_tell_11 rfl ?_
  refine jx_putI C fp_4_15_3 dX4_tell_12 (by decide) gg_63 (Nat.le_of_ble_eq_true rfl) rfl ?_
  refine jx_aload_n C dX4_tell_15 rfl ?_
  refine jx_get C fl_4_9_3 dX4_tell_16 (by decide) gg_63 rfl ?_
  refine jx_iload_n C dX4_tell_19 rfl ?_
  refine jx_dup2 C dX4_tell_20 rfl rfl ?_
  refine jx_iald (f) C dX4_tell_21 (by decide) gg_64 rfl (by omega) (by decide) ?_
  refine jx_iconst (v := 1) C dX4_tell_22 (by decide) ?_
  refine jx_iadd C dX4_tell_23 ?_
  rw [up2_ne (by omega)]
  refine jx_iastI (f) C dX4_tell_24 (by decide) (fun _ => gg_64) rfl (by omega) (by decide) ?_
  refine jx_iconst (v := 0) C dX4_tell_25 (by decide) ?_
  exact jx_iret C dX4_tell_26 ⟨rfl, rfl, rfl, rfl⟩
set_option maxRecDepth 100000 in
set_option maxHeartbeats 4000000 in
theorem c_4_countOf {l : Launch} {D : va_G} {K : Nat → ClassId} {A : Nat → Nat} {I : TI} {U : TU} {P : TP} {f : Nat} (h1 : 1 ≤ f) (h2 : f ≤ 5) : MM l yX4_countOf cX4_countOf 2 (some .int) 0 D K A (I) (U) (P) [.ref (A 63), .int (nI f)] (XE (some (.int (I 64 f))) I U P) := by
  refine MM.go (own := RX4) (lv0 := [some (.ref (A 63)), some (.int (nI f))]) rfl (by decide) rfl (Nat.le_of_ble_eq_true rfl) rfl ?_
  intro p e s m args below meth c C
  refine jx_iload_n C dX4_countOf_0 rfl ?_
  refine jx_iconst (v := 1) C dX4_countOf_1 (by decide) ?_
  refine jx_ic_ltF (tgt := 19) C dX4_countOf_2 (nI_nlt (a := f) (b := 1) (by omega) (by omega)) (by decide) ?_
  refine jx_iload_n C dX4_countOf_5 rfl ?_
  refine jx_iconst (v := 5) C dX4_countOf_6 (by decide) ?_
  refine jx_ic_gtF (tgt := 19) C dX4_countOf_7 (nI_nlt (a := 5) (b := f) (by omega) (by decide)) (by decide) ?_
  refine jx_aload_n C dX4_countOf_10 rfl ?_
  refine jx_get C fl_4_9_3 dX4_countOf_11 (by decide) gg_63 rfl ?_
  refine jx_iload_n C dX4_countOf_14 rfl ?_
  refine jx_iald (f) C dX4_countOf_15 (by decide) gg_64 rfl (by omega) (by decide) ?_
  refine jx_goto (tgt := 20) C dX4_countOf_16 (by decide) ?_
  exact jx_iret C dX4_countOf_20 ⟨rfl, rfl, rfl, rfl⟩
