/-! weaveCell() -/
theorem laU_ne {k n : Nat} {y : UInt32} {U : TU} (h : ¬ k % 5 = 2) : laU k n y U = U := if_neg h
theorem laI_o {k n a b : Nat} {x : Int32} {I : TI} (h : ¬ a = 5 + 2 * k) : laI k n x I a b = I a b := by
  unfold laI
  split
  · rfl
  · exact up2_ne (by omega)
theorem tl_I {I : TI} {U : TU} {k n : Nat} (h : ¬ k % 5 = 2) : tl I U k n = I (5 + 2 * k) n := if_neg h
def lfI (r : Option Nat) (i : Int32) (I : TI) : Nat := match r with
  | none => 1
  | some k => if inR (I (4 + 2 * k) 0) i then 0 else 2
def lnI (r : Option Nat) (u : Nat) (I : TI) : Int32 := match r with
  | none => 0
  | some k => I (5 + 2 * k) u
/-- the fault at which the cell u of a frame's weaving ends, or 0 -/
def wcF (P : TP) (a u : Nat) (I : TI) : Nat :=
  if ¬ lfI (P (5 * a + 3)) (nI u) I = 0 then lfI (P (5 * a + 3)) (nI u) I
  else if lnI (P (5 * a + 3)) u I = 1 ∧ ¬ lfI (P (5 * a + 0)) (nI u) I = 0 then lfI (P (5 * a + 0)) (nI u) I
  else lfI (P (5 * a + 1)) (nI u) I
/-- the ints behind a woven cell: r is the pick's row -/
def wcI (P : TP) (a u r : Nat) (weft : Int32) (I : TI) : TI := match P (5 * a + 1) with
  | none => I
  | some k => up2 (laI k u (vPull (k % 5) (I (5 + 2 * k) u) (-1)) I) 47 (24 * r + u) (if lnI (P (5 * a + 3)) u I = 1 then lnI (P (5 * a + 0)) u I else weft)
set_option maxRecDepth 100000 in
set_option maxHeartbeats 4000000 in
theorem c_10_wc_A1 {l : Launch} {D : va_G} {K : Nat → ClassId} {A : Nat → Nat} {I : TI} {U : TU} {P : TP} {a u : Nat} {x weft : Int32} (ha : a < 4) (h3 : P (5 * a + 3) = none) : MM l yX10_weaveCell cX10_weaveCell 8 (some .int) 4 D K A (I) (U) (P) [.ref (A 0), .int (nI a), .int x, .int (nI u), .int weft] (XE (some (.int 1)) I U P) := by
  refine MM.go (own := RX10) (lv0 := [some (.ref (A 0)), some (.int (nI a)), some (.int x), some (.int (nI u)), some (.int weft), none, none, none]) rfl (by decide) rfl (Nat.le_of_ble_eq_true rfl) rfl ?_
  intro p e s m args below meth c C
  refine jx_aload_n C dX10_weaveCell_0 rfl ?_
  refine jx_get C fl_10_10_9 dX10_weaveCell_1 (by decide) gg_0 rfl ?_
  refine jx_iload_n C dX10_weaveCell_4 rfl ?_
  refine jx_iconst (v := 3) C dX10_weaveCell_5 (by decide) ?_
  refine jx_one C (jr_V C (c_8_laneAt (b := 3) ha (by decide)) vw_10_70 (by decide) gg_1 rfl rfl ⟨Nat.le_of_ble_eq_true rfl, Nat.le_of_ble_eq_true rfl⟩ ⟨Nat.le_of_ble_eq_true rfl, Nat.le_of_ble_eq_true rfl⟩ dX10_weaveCell_6 rfl (Nat.le_of_ble_eq_true rfl)) ?_
  rw [h3]
  refine jx_astoreN (lv1 := [_, _, _, _, _, _, _, _]) C dX10_weaveCell_9 (by decide) rfl ?_
  refine jx_aloadN C dX10_weaveCell_11 rfl ?_
  refine jx_ifnullN (tgt := 25) C dX10_weaveCell_13 (by decide) ?_
  refine jx_aloadN C dX10_weaveCell_25 rfl ?_
  refine jx_one C (jr_S C (c_10_faultAtEndN) sw_10_207 rfl ⟨Nat.le_of_ble_eq_true rfl, Nat.le_of_ble_eq_true rfl⟩ ⟨Nat.le_of_ble_eq_true rfl, Nat.le_of_ble_eq_true rfl⟩ dX10_weaveCell_27 rfl (Nat.le_of_ble_eq_true rfl)) ?_
  exact jx_iret C dX10_weaveCell_30 ⟨rfl, rfl, rfl, rfl⟩
set_option maxRecDepth 100000 in
set_option maxHeartbeats 4000000 in
theorem c_10_wc_A2 {l : Launch} {D : va_G} {K : Nat → ClassId} {A : Nat → Nat} {I : TI} {U : TU} {P : TP} {a u : Nat} {x weft : Int32} (ha : a < 4) {k3 : Nat} (h3 : P (5 * a + 3) = some k3) (hk3 : k3 < 20) (g3 : ¬ inR (I (4 + 2 * k3) 0) (nI u)) : MM l yX10_weaveCell cX10_weaveCell 8 (some .int) 4 D K A (I) (U) (P) [.ref (A 0), .int (nI a), .int x, .int (nI u), .int weft] (XE (some (.int 2)) I U P) := by
  refine MM.go (own := RX10) (lv0 := [some (.ref (A 0)), some (.int (nI a)), some (.int x), some (.int (nI u)), some (.int weft), none, none, none]) rfl (by decide) rfl (Nat.le_of_ble_eq_true rfl) rfl ?_
  intro p e s m args below meth c C
  refine jx_aload_n C dX10_weaveCell_0 rfl ?_
  refine jx_get C fl_10_10_9 dX10_weaveCell_1 (by decide) gg_0 rfl ?_
  refine jx_iload_n C dX10_weaveCell_4 rfl ?_
  refine jx_iconst (v := 3) C dX10_weaveCell_5 (by decide) ?_
  refine jx_one C (jr_V C (c_8_laneAt (b := 3) ha (by decide)) vw_10_70 (by decide) gg_1 rfl rfl ⟨Nat.le_of_ble_eq_true rfl, Nat.le_of_ble_eq_true rfl⟩ ⟨Nat.le_of_ble_eq_true rfl, Nat.le_of_ble_eq_true rfl⟩ dX10_weaveCell_6 rfl (Nat.le_of_ble_eq_true rfl)) ?_
  rw [h3]
  refine jx_astore (lv1 := [_, _, _, _, _, _, _, _]) C dX10_weaveCell_9 (by decide) rfl ?_
  refine jx_aload C dX10_weaveCell_11 rfl ?_
  refine jx_ifnull C dX10_weaveCell_13 ?_
  refine jx_aload C dX10_weaveCell_16 rfl ?_
  refine jx_iload_n C dX10_weaveCell_18 rfl ?_
  refine jx_one C (jv_has C dX10_weaveCell_19 hk3 ⟨by decide, by decide⟩ ⟨Nat.zero_le _, Nat.zero_le _⟩ (Nat.le_of_ble_eq_true rfl)) ?_
  rw [bI_f g3]
  refine jx_if_neF (tgt := 31) C dX10_weaveCell_22 (by decide) (by decide) ?_
  refine jx_aload C dX10_weaveCell_25 rfl ?_
  refine jx_one C (jr_S C (c_10_faultAtEnd) sw_10_207 rfl ⟨Nat.le_of_ble_eq_true rfl, Nat.le_of_ble_eq_true rfl⟩ ⟨Nat.le_of_ble_eq_true rfl, Nat.le_of_ble_eq_true rfl⟩ dX10_weaveCell_27 rfl (Nat.le_of_ble_eq_true rfl)) ?_
  exact jx_iret C dX10_weaveCell_30 ⟨rfl, rfl, rfl, rfl⟩
set_option maxRecDepth 100000 in
set_option maxHeartbeats 4000000 in
theorem c_10_wc_B1 {l : Launch} {D : va_G} {K : Nat → ClassId} {A : Nat → Nat} {I : TI} {U : TU} {P : TP} {a u : Nat} {x weft : Int32} (ha : a < 4) {k3 : Nat} (h3 : P (5 * a + 3) = some k3) (hk3 : k3 < 20) (s3 : k3 % 5 = 3) (hu : u < 24) (ok3 : okE I U k3 u) (g3 : inR (I (4 + 2 * k3) 0) (nI u)) (hx : I (5 + 2 * k3) u = 1) (h0 : P (5 * a + 0) = none) : MM l yX10_weaveCell cX10_weaveCell 8 (some .int) 4 D K A (I) (U) (P) [.ref (A 0), .int (nI a), .int x, .int (nI u), .int weft] (XE (some (.int 1)) I U P) := by
  refine MM.go (own := RX10) (lv0 := [some (.ref (A 0)), some (.int (nI a)), some (.int x), some (.int (nI u)), some (.int weft), none, none, none]) rfl (by decide) rfl (Nat.le_of_ble_eq_true rfl) rfl ?_
  intro p e s m args below meth c C
  refine jx_aload_n C dX10_weaveCell_0 rfl ?_
  refine jx_get C fl_10_10_9 dX10_weaveCell_1 (by decide) gg_0 rfl ?_
  refine jx_iload_n C dX10_weaveCell_4 rfl ?_
  refine jx_iconst (v := 3) C dX10_weaveCell_5 (by decide) ?_
  refine jx_one C (jr_V C (c_8_laneAt (b := 3) ha (by decide)) vw_10_70 (by decide) gg_1 rfl rfl ⟨Nat.le_of_ble_eq_true rfl, Nat.le_of_ble_eq_true rfl⟩ ⟨Nat.le_of_ble_eq_true rfl, Nat.le_of_ble_eq_true rfl⟩ dX10_weaveCell_6 rfl (Nat.le_of_ble_eq_true rfl)) ?_
  rw [h3]
  refine jx_astore (lv1 := [_, _, _, _, _, _, _, _]) C dX10_weaveCell_9 (by decide) rfl ?_
  refine jx_aload C dX10_weaveCell_11 rfl ?_
  refine jx_ifnull C dX10_weaveCell_13 ?_
  refine jx_aload C dX10_weaveCell_16 rfl ?_
  refine jx_iload_n C dX10_weaveCell_18 rfl ?_
  refine jx_one C (jv_has C dX10_weaveCell_19 hk3 ⟨by decide, by decide⟩ ⟨Nat.zero_le _, Nat.zero_le _⟩ (Nat.le_of_ble_eq_true rfl)) ?_
  rw [bI_t g3]
  refine jx_if_neT (tgt := 31) C dX10_weaveCell_22 (by decide) (by decide) ?_
  refine jx_iload C dX10_weaveCell_31 rfl ?_
  refine jx_istore (lv1 := [_, _, _, _, _, _, _, _]) C dX10_weaveCell_33 (by decide) rfl ?_
  refine jx_aload C dX10_weaveCell_35 rfl ?_
  refine jx_iload_n C dX10_weaveCell_37 rfl ?_
  refine jx_one C (jv_tells C dX10_weaveCell_38 hk3 hu ok3 ⟨by decide, by decide⟩ ⟨Nat.zero_le _, Nat.zero_le _⟩ (Nat.le_of_ble_eq_true rfl)) ?_
  rw [tl_I (by omega)]
  refine jx_iconst (v := 1) C dX10_weaveCell_41 (by decide) ?_
  refine jx_ic_neF (tgt := 84) C dX10_weaveCell_42 hx (by decide) ?_
  refine jx_aload_n C dX10_weaveCell_45 rfl ?_
  refine jx_get C fl_10_10_9 dX10_weaveCell_46 (by decide) gg_0 rfl ?_
  refine jx_iload_n C dX10_weaveCell_49 rfl ?_
  refine jx_iconst (v := 0) C dX10_weaveCell_50 (by decide) ?_
  refine jx_one C (jr_V C (c_8_laneAt (b := 0) ha (by decide)) vw_10_70 (by decide) gg_1 rfl rfl ⟨Nat.le_of_ble_eq_true rfl, Nat.le_of_ble_eq_true rfl⟩ ⟨Nat.le_of_ble_eq_true rfl, Nat.le_of_ble_eq_true rfl⟩ dX10_weaveCell_51 rfl (Nat.le_of_ble_eq_true rfl)) ?_
  rw [h0]
  refine jx_astoreN (lv1 := [_, _, _, _, _, _, _, _]) C dX10_weaveCell_54 (by decide) rfl ?_
  refine jx_aloadN C dX10_weaveCell_56 rfl ?_
  refine jx_ifnullN (tgt := 70) C dX10_weaveCell_58 (by decide) ?_
  refine jx_aloadN C dX10_weaveCell_70 rfl ?_
  refine jx_one C (jr_S C (c_10_faultAtEndN) sw_10_207 rfl ⟨Nat.le_of_ble_eq_true rfl, Nat.le_of_ble_eq_true rfl⟩ ⟨Nat.le_of_ble_eq_true rfl, Nat.le_of_ble_eq_true rfl⟩ dX10_weaveCell_72 rfl (Nat.le_of_ble_eq_true rfl)) ?_
  exact jx_iret C dX10_weaveCell_75 ⟨rfl, rfl, rfl, rfl⟩
set_option maxRecDepth 100000 in
set_option maxHeartbeats 4000000 in
theorem c_10_wc_B2 {l : Launch} {D : va_G} {K : Nat → ClassId} {A : Nat → Nat} {I : TI} {U : TU} {P : TP} {a u : Nat} {x weft : Int32} (ha : a < 4) {k3 : Nat} (h3 : P (5 * a + 3) = some k3) (hk3 : k3 < 20) (s3 : k3 % 5 = 3) (hu : u < 24) (ok3 : okE I U k3 u) (g3 : inR (I (4 + 2 * k3) 0) (nI u)) (hx : I (5 + 2 * k3) u = 1) {k0 : Nat} (h0 : P (5 * a + 0) = some k0) (hk0 : k0 < 20) (g0 : ¬ inR (I (4 + 2 * k0) 0) (nI u)) : MM l yX10_weaveCell cX10_weaveCell 8 (some .int) 4 D K A (I) (U) (P) [.ref (A 0), .int (nI a), .int x, .int (nI u), .int weft] (XE (some (.int 2)) I U P) := by
  refine MM.go (own := RX10) (lv0 := [some (.ref (A 0)), some (.int (nI a)), some (.int x), some (.int (nI u)), some (.int weft), none, none, none]) rfl (by decide) rfl (Nat.le_of_ble_eq_true rfl) rfl ?_
  intro p e s m args below meth c C
  refine jx_aload_n C dX10_weaveCell_0 rfl ?_
  refine jx_get C fl_10_10_9 dX10_weaveCell_1 (by decide) gg_0 rfl ?_
  refine jx_iload_n C dX10_weaveCell_4 rfl ?_
  refine jx_iconst (v := 3) C dX10_weaveCell_5 (by decide) ?_
  refine jx_one C (jr_V C (c_8_laneAt (b := 3) ha (by decide)) vw_10_70 (by decide) gg_1 rfl rfl ⟨Nat.le_of_ble_eq_true rfl, Nat.le_of_ble_eq_true rfl⟩ ⟨Nat.le_of_ble_eq_true rfl, Nat.le_of_ble_eq_true rfl⟩ dX10_weaveCell_6 rfl (Nat.le_of_ble_eq_true rfl)) ?_
  rw [h3]
  refine jx_astore (lv1 := [_, _, _, _, _, _, _, _]) C dX10_weaveCell_9 (by decide) rfl ?_
  refine jx_aload C dX10_weaveCell_11 rfl ?_
  refine jx_ifnull C dX10_weaveCell_13 ?_
  refine jx_aload C dX10_weaveCell_16 rfl ?_
  refine jx_iload_n C dX10_weaveCell_18 rfl ?_
  refine jx_one C (jv_has C dX10_weaveCell_19 hk3 ⟨by decide, by decide⟩ ⟨Nat.zero_le _, Nat.zero_le _⟩ (Nat.le_of_ble_eq_true rfl)) ?_
  rw [bI_t g3]
  refine jx_if_neT (tgt := 31) C dX10_weaveCell_22 (by decide) (by decide) ?_
  refine jx_iload C dX10_weaveCell_31 rfl ?_
  refine jx_istore (lv1 := [_, _, _, _, _, _, _, _]) C dX10_weaveCell_33 (by decide) rfl ?_
  refine jx_aload C dX10_weaveCell_35 rfl ?_
  refine jx_iload_n C dX10_weaveCell_37 rfl ?_
  refine jx_one C (jv_tells C dX10_weaveCell_38 hk3 hu ok3 ⟨by decide, by decide⟩ ⟨Nat.zero_le _, Nat.zero_le _⟩ (Nat.le_of_ble_eq_true rfl)) ?_
  rw [tl_I (by omega)]
  refine jx_iconst (v := 1) C dX10_weaveCell_41 (by decide) ?_
  refine jx_ic_neF (tgt := 84) C dX10_weaveCell_42 hx (by decide) ?_
  refine jx_aload_n C dX10_weaveCell_45 rfl ?_
  refine jx_get C fl_10_10_9 dX10_weaveCell_46 (by decide) gg_0 rfl ?_
  refine jx_iload_n C dX10_weaveCell_49 rfl ?_
  refine jx_iconst (v := 0) C dX10_weaveCell_50 (by decide) ?_
  refine jx_one C (jr_V C (c_8_laneAt (b := 0) ha (by decide)) vw_10_70 (by decide) gg_1 rfl rfl ⟨Nat.le_of_ble_eq_true rfl, Nat.le_of_ble_eq_true rfl⟩ ⟨Nat.le_of_ble_eq_true rfl, Nat.le_of_ble_eq_true rfl⟩ dX10_weaveCell_51 rfl (Nat.le_of_ble_eq_true rfl)) ?_
  rw [h0]
  refine jx_astore (lv1 := [_, _, _, _, _, _, _, _]) C dX10_weaveCell_54 (by decide) rfl ?_
  refine jx_aload C dX10_weaveCell_56 rfl ?_
  refine jx_ifnull C dX10_weaveCell_58 ?_
  refine jx_aload C dX10_weaveCell_61 rfl ?_
  refine jx_iload_n C dX10_weaveCell_63 rfl ?_
  refine jx_one C (jv_has C dX10_weaveCell_64 hk0 ⟨by decide, by decide⟩ ⟨Nat.zero_le _, Nat.zero_le _⟩ (Nat.le_of_ble_eq_true rfl)) ?_
  rw [bI_f g0]
  refine jx_if_neF (tgt := 76) C dX10_weaveCell_67 (by decide) (by decide) ?_
  refine jx_aload C dX10_weaveCell_70 rfl ?_
  refine jx_one C (jr_S C (c_10_faultAtEnd) sw_10_207 rfl ⟨Nat.le_of_ble_eq_true rfl, Nat.le_of_ble_eq_true rfl⟩ ⟨Nat.le_of_ble_eq_true rfl, Nat.le_of_ble_eq_true rfl⟩ dX10_weaveCell_72 rfl (Nat.le_of_ble_eq_true rfl)) ?_
  exact jx_iret C dX10_weaveCell_75 ⟨rfl, rfl, rfl, rfl⟩
set_option maxRecDepth 100000 in
set_option maxHeartbeats 4000000 in
theorem c_10_wc_C1u {l : Launch} {D : va_G} {K : Nat → ClassId} {A : Nat → Nat} {I : TI} {U : TU} {P : TP} {a u : Nat} {x weft : Int32} (ha : a < 4) {k3 : Nat} (h3 : P (5 * a + 3) = some k3) (hk3 : k3 < 20) (s3 : k3 % 5 = 3) (hu : u < 24) (ok3 : okE I U k3 u) (g3 : inR (I (4 + 2 * k3) 0) (nI u)) (hx : I (5 + 2 * k3) u = 1) {k0 : Nat} (h0 : P (5 * a + 0) = some k0) (hk0 : k0 < 20) (s0 : k0 % 5 = 0) (ok0 : okE I U k0 u) (g0 : inR (I (4 + 2 * k0) 0) (nI u)) (h1 : P (5 * a + 1) = none) : MM l yX10_weaveCell cX10_weaveCell 8 (some .int) 4 D K A (I) (U) (P) [.ref (A 0), .int (nI a), .int x, .int (nI u), .int weft] (XE (some (.int 1)) I U P) := by
  refine MM.go (own := RX10) (lv0 := [some (.ref (A 0)), some (.int (nI a)), some (.int x), some (.int (nI u)), some (.int weft), none, none, none]) rfl (by decide) rfl (Nat.le_of_ble_eq_true rfl) rfl ?_
  intro p e s m args below meth c C
  refine jx_aload_n C dX10_weaveCell_0 rfl ?_
  refine jx_get C fl_10_10_9 dX10_weaveCell_1 (by decide) gg_0 rfl ?_
  refine jx_iload_n C dX10_weaveCell_4 rfl ?_
  refine jx_iconst (v := 3) C dX10_weaveCell_5 (by decide) ?_
  refine jx_one C (jr_V C (c_8_laneAt (b := 3) ha (by decide)) vw_10_70 (by decide) gg_1 rfl rfl ⟨Nat.le_of_ble_eq_true rfl, Nat.le_of_ble_eq_true rfl⟩ ⟨Nat.le_of_ble_eq_true rfl, Nat.le_of_ble_eq_true rfl⟩ dX10_weaveCell_6 rfl (Nat.le_of_ble_eq_true rfl)) ?_
  rw [h3]
  refine jx_astore (lv1 := [_, _, _, _, _, _, _, _]) C dX10_weaveCell_9 (by decide) rfl ?_
  refine jx_aload C dX10_weaveCell_11 rfl ?_
  refine jx_ifnull C dX10_weaveCell_13 ?_
  refine jx_aload C dX10_weaveCell_16 rfl ?_
  refine jx_iload_n C dX10_weaveCell_18 rfl ?_
  refine jx_one C (jv_has C dX10_weaveCell_19 hk3 ⟨by decide, by decide⟩ ⟨Nat.zero_le _, Nat.zero_le _⟩ (Nat.le_of_ble_eq_true rfl)) ?_
  rw [bI_t g3]
  refine jx_if_neT (tgt := 31) C dX10_weaveCell_22 (by decide) (by decide) ?_
  refine jx_iload C dX10_weaveCell_31 rfl ?_
  refine jx_istore (lv1 := [_, _, _, _, _, _, _, _]) C dX10_weaveCell_33 (by decide) rfl ?_
  refine jx_aload C dX10_weaveCell_35 rfl ?_
  refine jx_iload_n C dX10_weaveCell_37 rfl ?_
  refine jx_one C (jv_tells C dX10_weaveCell_38 hk3 hu ok3 ⟨by decide, by decide⟩ ⟨Nat.zero_le _, Nat.zero_le _⟩ (Nat.le_of_ble_eq_true rfl)) ?_
  rw [tl_I (by omega)]
  refine jx_iconst (v := 1) C dX10_weaveCell_41 (by decide) ?_
  refine jx_ic_neF (tgt := 84) C dX10_weaveCell_42 hx (by decide) ?_
  refine jx_aload_n C dX10_weaveCell_45 rfl ?_
  refine jx_get C fl_10_10_9 dX10_weaveCell_46 (by decide) gg_0 rfl ?_
  refine jx_iload_n C dX10_weaveCell_49 rfl ?_
  refine jx_iconst (v := 0) C dX10_weaveCell_50 (by decide) ?_
  refine jx_one C (jr_V C (c_8_laneAt (b := 0) ha (by decide)) vw_10_70 (by decide) gg_1 rfl rfl ⟨Nat.le_of_ble_eq_true rfl, Nat.le_of_ble_eq_true rfl⟩ ⟨Nat.le_of_ble_eq_true rfl, Nat.le_of_ble_eq_true rfl⟩ dX10_weaveCell_51 rfl (Nat.le_of_ble_eq_true rfl)) ?_
  rw [h0]
  refine jx_astore (lv1 := [_, _, _, _, _, _, _, _]) C dX10_weaveCell_54 (by decide) rfl ?_
  refine jx_aload C dX10_weaveCell_56 rfl ?_
  refine jx_ifnull C dX10_weaveCell_58 ?_
  refine jx_aload C dX10_weaveCell_61 rfl ?_
  refine jx_iload_n C dX10_weaveCell_63 rfl ?_
  refine jx_one C (jv_has C dX10_weaveCell_64 hk0 ⟨by decide, by decide⟩ ⟨Nat.zero_le _, Nat.zero_le _⟩ (Nat.le_of_ble_eq_true rfl)) ?_
  rw [bI_t g0]
  refine jx_if_neT (tgt := 76) C dX10_weaveCell_67 (by decide) (by decide) ?_
  refine jx_aload C dX10_weaveCell_76 rfl ?_
  refine jx_iload_n C dX10_weaveCell_78 rfl ?_
  refine jx_one C (jv_tells C dX10_weaveCell_79 hk0 hu ok0 ⟨by decide, by decide⟩ ⟨Nat.zero_le _, Nat.zero_le _⟩ (Nat.le_of_ble_eq_true rfl)) ?_
  rw [tl_I (by omega)]
  refine jx_istore (lv1 := [_, _, _, _, _, _, _, _]) C dX10_weaveCell_82 (by decide) rfl ?_
  refine jx_aload_n C dX10_weaveCell_84 rfl ?_
  refine jx_get C fl_10_10_9 dX10_weaveCell_85 (by decide) gg_0 rfl ?_
  refine jx_iload_n C dX10_weaveCell_88 rfl ?_
  refine jx_iconst (v := 1) C dX10_weaveCell_89 (by decide) ?_
  refine jx_one C (jr_V C (c_8_laneAt (b := 1) ha (by decide)) vw_10_70 (by decide) gg_1 rfl rfl ⟨Nat.le_of_ble_eq_true rfl, Nat.le_of_ble_eq_true rfl⟩ ⟨Nat.le_of_ble_eq_true rfl, Nat.le_of_ble_eq_true rfl⟩ dX10_weaveCell_90 rfl (Nat.le_of_ble_eq_true rfl)) ?_
  rw [h1]
  refine jx_astoreN (lv1 := [_, _, _, _, _, _, _, _]) C dX10_weaveCell_93 (by decide) rfl ?_
  refine jx_aloadN C dX10_weaveCell_95 rfl ?_
  refine jx_ifnullN (tgt := 109) C dX10_weaveCell_97 (by decide) ?_
  refine jx_aloadN C dX10_weaveCell_109 rfl ?_
  refine jx_one C (jr_S C (c_10_faultAtEndN) sw_10_207 rfl ⟨Nat.le_of_ble_eq_true rfl, Nat.le_of_ble_eq_true rfl⟩ ⟨Nat.le_of_ble_eq_true rfl, Nat.le_of_ble_eq_true rfl⟩ dX10_weaveCell_111 rfl (Nat.le_of_ble_eq_true rfl)) ?_
  exact jx_iret C dX10_weaveCell_114 ⟨rfl, rfl, rfl, rfl⟩
set_option maxRecDepth 100000 in
set_option maxHeartbeats 4000000 in
theorem c_10_wc_C2u {l : Launch} {D : va_G} {K : Nat → ClassId} {A : Nat → Nat} {I : TI} {U : TU} {P : TP} {a u : Nat} {x weft : Int32} (ha : a < 4) {k3 : Nat} (h3 : P (5 * a + 3) = some k3) (hk3 : k3 < 20) (s3 : k3 % 5 = 3) (hu : u < 24) (ok3 : okE I U k3 u) (g3 : inR (I (4 + 2 * k3) 0) (nI u)) (hx : I (5 + 2 * k3) u = 1) {k0 : Nat} (h0 : P (5 * a + 0) = some k0) (hk0 : k0 < 20) (s0 : k0 % 5 = 0) (ok0 : okE I U k0 u) (g0 : inR (I (4 + 2 * k0) 0) (nI u)) {k1 : Nat} (h1 : P (5 * a + 1) = some k1) (hk1 : k1 < 20) (g1 : ¬ inR (I (4 + 2 * k1) 0) (nI u)) : MM l yX10_weaveCell cX10_weaveCell 8 (some .int) 4 D K A (I) (U) (P) [.ref (A 0), .int (nI a), .int x, .int (nI u), .int weft] (XE (some (.int 2)) I U P) := by
  refine MM.go (own := RX10) (lv0 := [some (.ref (A 0)), some (.int (nI a)), some (.int x), some (.int (nI u)), some (.int weft), none, none, none]) rfl (by decide) rfl (Nat.le_of_ble_eq_true rfl) rfl ?_
  intro p e s m args below meth c C
  refine jx_aload_n C dX10_weaveCell_0 rfl ?_
  refine jx_get C fl_10_10_9 dX10_weaveCell_1 (by decide) gg_0 rfl ?_
  refine jx_iload_n C dX10_weaveCell_4 rfl ?_
  refine jx_iconst (v := 3) C dX10_weaveCell_5 (by decide) ?_
  refine jx_one C (jr_V C (c_8_laneAt (b := 3) ha (by decide)) vw_10_70 (by decide) gg_1 rfl rfl ⟨Nat.le_of_ble_eq_true rfl, Nat.le_of_ble_eq_true rfl⟩ ⟨Nat.le_of_ble_eq_true rfl, Nat.le_of_ble_eq_true rfl⟩ dX10_weaveCell_6 rfl (Nat.le_of_ble_eq_true rfl)) ?_
  rw [h3]
  refine jx_astore (lv1 := [_, _, _, _, _, _, _, _]) C dX10_weaveCell_9 (by decide) rfl ?_
  refine jx_aload C dX10_weaveCell_11 rfl ?_
  refine jx_ifnull C dX10_weaveCell_13 ?_
  refine jx_aload C dX10_weaveCell_16 rfl ?_
  refine jx_iload_n C dX10_weaveCell_18 rfl ?_
  refine jx_one C (jv_has C dX10_weaveCell_19 hk3 ⟨by decide, by decide⟩ ⟨Nat.zero_le _, Nat.zero_le _⟩ (Nat.le_of_ble_eq_true rfl)) ?_
  rw [bI_t g3]
  refine jx_if_neT (tgt := 31) C dX10_weaveCell_22 (by decide) (by decide) ?_
  refine jx_iload C dX10_weaveCell_31 rfl ?_
  refine jx_istore (lv1 := [_, _, _, _, _, _, _, _]) C dX10_weaveCell_33 (by decide) rfl ?_
  refine jx_aload C dX10_weaveCell_35 rfl ?_
  refine jx_iload_n C dX10_weaveCell_37 rfl ?_
  refine jx_one C (jv_tells C dX10_weaveCell_38 hk3 hu ok3 ⟨by decide, by decide⟩ ⟨Nat.zero_le _, Nat.zero_le _⟩ (Nat.le_of_ble_eq_true rfl)) ?_
  rw [tl_I (by omega)]
  refine jx_iconst (v := 1) C dX10_weaveCell_41 (by decide) ?_
  refine jx_ic_neF (tgt := 84) C dX10_weaveCell_42 hx (by decide) ?_
  refine jx_aload_n C dX10_weaveCell_45 rfl ?_
  refine jx_get C fl_10_10_9 dX10_weaveCell_46 (by decide) gg_0 rfl ?_
  refine jx_iload_n C dX10_weaveCell_49 rfl ?_
  refine jx_iconst (v := 0) C dX10_weaveCell_50 (by decide) ?_
  refine jx_one C (jr_V C (c_8_laneAt (b := 0) ha (by decide)) vw_10_70 (by decide) gg_1 rfl rfl ⟨Nat.le_of_ble_eq_true rfl, Nat.le_of_ble_eq_true rfl⟩ ⟨Nat.le_of_ble_eq_true rfl, Nat.le_of_ble_eq_true rfl⟩ dX10_weaveCell_51 rfl (Nat.le_of_ble_eq_true rfl)) ?_
  rw [h0]
  refine jx_astore (lv1 := [_, _, _, _, _, _, _, _]) C dX10_weaveCell_54 (by decide) rfl ?_
  refine jx_aload C dX10_weaveCell_56 rfl ?_
  refine jx_ifnull C dX10_weaveCell_58 ?_
  refine jx_aload C dX10_weaveCell_61 rfl ?_
  refine jx_iload_n C dX10_weaveCell_63 rfl ?_
  refine jx_one C (jv_has C dX10_weaveCell_64 hk0 ⟨by decide, by decide⟩ ⟨Nat.zero_le _, Nat.zero_le _⟩ (Nat.le_of_ble_eq_true rfl)) ?_
  rw [bI_t g0]
  refine jx_if_neT (tgt := 76) C dX10_weaveCell_67 (by decide) (by decide) ?_
  refine jx_aload C dX10_weaveCell_76 rfl ?_
  refine jx_iload_n C dX10_weaveCell_78 rfl ?_
  refine jx_one C (jv_tells C dX10_weaveCell_79 hk0 hu ok0 ⟨by decide, by decide⟩ ⟨Nat.zero_le _, Nat.zero_le _⟩ (Nat.le_of_ble_eq_true rfl)) ?_
  rw [tl_I (by omega)]
  refine jx_istore (lv1 := [_, _, _, _, _, _, _, _]) C dX10_weaveCell_82 (by decide) rfl ?_
  refine jx_aload_n C dX10_weaveCell_84 rfl ?_
  refine jx_get C fl_10_10_9 dX10_weaveCell_85 (by decide) gg_0 rfl ?_
  refine jx_iload_n C dX10_weaveCell_88 rfl ?_
  refine jx_iconst (v := 1) C dX10_weaveCell_89 (by decide) ?_
  refine jx_one C (jr_V C (c_8_laneAt (b := 1) ha (by decide)) vw_10_70 (by decide) gg_1 rfl rfl ⟨Nat.le_of_ble_eq_true rfl, Nat.le_of_ble_eq_true rfl⟩ ⟨Nat.le_of_ble_eq_true rfl, Nat.le_of_ble_eq_true rfl⟩ dX10_weaveCell_90 rfl (Nat.le_of_ble_eq_true rfl)) ?_
  rw [h1]
  refine jx_astore (lv1 := [_, _, _, _, _, _, _, _]) C dX10_weaveCell_93 (by decide) rfl ?_
  refine jx_aload C dX10_weaveCell_95 rfl ?_
  refine jx_ifnull C dX10_weaveCell_97 ?_
  refine jx_aload C dX10_weaveCell_100 rfl ?_
  refine jx_iload_n C dX10_weaveCell_102 rfl ?_
  refine jx_one C (jv_has C dX10_weaveCell_103 hk1 ⟨by decide, by decide⟩ ⟨Nat.zero_le _, Nat.zero_le _⟩ (Nat.le_of_ble_eq_true rfl)) ?_
  rw [bI_f g1]
  refine jx_if_neF (tgt := 115) C dX10_weaveCell_106 (by decide) (by decide) ?_
  refine jx_aload C dX10_weaveCell_109 rfl ?_
  refine jx_one C (jr_S C (c_10_faultAtEnd) sw_10_207 rfl ⟨Nat.le_of_ble_eq_true rfl, Nat.le_of_ble_eq_true rfl⟩ ⟨Nat.le_of_ble_eq_true rfl, Nat.le_of_ble_eq_true rfl⟩ dX10_weaveCell_111 rfl (Nat.le_of_ble_eq_true rfl)) ?_
  exact jx_iret C dX10_weaveCell_114 ⟨rfl, rfl, rfl, rfl⟩
set_option maxRecDepth 100000 in
set_option maxHeartbeats 4000000 in
theorem c_10_wc_Su {l : Launch} {D : va_G} {K : Nat → ClassId} {A : Nat → Nat} {I : TI} {U : TU} {P : TP} {a u : Nat} {x weft : Int32} (ha : a < 4) {k3 : Nat} (h3 : P (5 * a + 3) = some k3) (hk3 : k3 < 20) (s3 : k3 % 5 = 3) (hu : u < 24) (ok3 : okE I U k3 u) (g3 : inR (I (4 + 2 * k3) 0) (nI u)) (hx : I (5 + 2 * k3) u = 1) {k0 : Nat} (h0 : P (5 * a + 0) = some k0) (hk0 : k0 < 20) (s0 : k0 % 5 = 0) (ok0 : okE I U k0 u) (g0 : inR (I (4 + 2 * k0) 0) (nI u)) {k1 : Nat} (h1 : P (5 * a + 1) = some k1) (hk1 : k1 < 20) (s1 : k1 % 5 = 1) (ok1 : okE I U k1 u) (g1 : inR (I (4 + 2 * k1) 0) (nI u)) {j n r w : Nat} (hn : I 46 3 = nI n) (h24 : n ≤ 24) (hj : j < n) (hr : I 48 j = nI r) (hr24 : r < 24) (hw : I 46 4 = nI w) (hw24 : w ≤ 24) (huw : u < w) : MM l yX10_weaveCell cX10_weaveCell 8 (some .int) 4 D K A (I) (U) (P) [.ref (A 0), .int (nI a), .int (nI j), .int (nI u), .int weft] (XE (some (.int 0)) (up2 (laI k1 u (vPull (k1 % 5) (I (5 + 2 * k1) u) (-1)) I) 47 (24 * r + u) (I (5 + 2 * k0) u)) U P) := by
  refine MM.go (own := RX10) (lv0 := [some (.ref (A 0)), some (.int (nI a)), some (.int (nI j)), some (.int (nI u)), some (.int weft), none, none, none]) rfl (by decide) rfl (Nat.le_of_ble_eq_true rfl) rfl ?_
  intro p e s m args below meth c C
  refine jx_aload_n C dX10_weaveCell_0 rfl ?_
  refine jx_get C fl_10_10_9 dX10_weaveCell_1 (by decide) gg_0 rfl ?_
  refine jx_iload_n C dX10_weaveCell_4 rfl ?_
  refine jx_iconst (v := 3) C dX10_weaveCell_5 (by decide) ?_
  refine jx_one C (jr_V C (c_8_laneAt (b := 3) ha (by decide)) vw_10_70 (by decide) gg_1 rfl rfl ⟨Nat.le_of_ble_eq_true rfl, Nat.le_of_ble_eq_true rfl⟩ ⟨Nat.le_of_ble_eq_true rfl, Nat.le_of_ble_eq_true rfl⟩ dX10_weaveCell_6 rfl (Nat.le_of_ble_eq_true rfl)) ?_
  rw [h3]
  refine jx_astore (lv1 := [_, _, _, _, _, _, _, _]) C dX10_weaveCell_9 (by decide) rfl ?_
  refine jx_aload C dX10_weaveCell_11 rfl ?_
  refine jx_ifnull C dX10_weaveCell_13 ?_
  refine jx_aload C dX10_weaveCell_16 rfl ?_
  refine jx_iload_n C dX10_weaveCell_18 rfl ?_
  refine jx_one C (jv_has C dX10_weaveCell_19 hk3 ⟨by decide, by decide⟩ ⟨Nat.zero_le _, Nat.zero_le _⟩ (Nat.le_of_ble_eq_true rfl)) ?_
  rw [bI_t g3]
  refine jx_if_neT (tgt := 31) C dX10_weaveCell_22 (by decide) (by decide) ?_
  refine jx_iload C dX10_weaveCell_31 rfl ?_
  refine jx_istore (lv1 := [_, _, _, _, _, _, _, _]) C dX10_weaveCell_33 (by decide) rfl ?_
  refine jx_aload C dX10_weaveCell_35 rfl ?_
  refine jx_iload_n C dX10_weaveCell_37 rfl ?_
  refine jx_one C (jv_tells C dX10_weaveCell_38 hk3 hu ok3 ⟨by decide, by decide⟩ ⟨Nat.zero_le _, Nat.zero_le _⟩ (Nat.le_of_ble_eq_true rfl)) ?_
  rw [tl_I (by omega)]
  refine jx_iconst (v := 1) C dX10_weaveCell_41 (by decide) ?_
  refine jx_ic_neF (tgt := 84) C dX10_weaveCell_42 hx (by decide) ?_
  refine jx_aload_n C dX10_weaveCell_45 rfl ?_
  refine jx_get C fl_10_10_9 dX10_weaveCell_46 (by decide) gg_0 rfl ?_
  refine jx_iload_n C dX10_weaveCell_49 rfl ?_
  refine jx_iconst (v := 0) C dX10_weaveCell_50 (by decide) ?_
  refine jx_one C (jr_V C (c_8_laneAt (b := 0) ha (by decide)) vw_10_70 (by decide) gg_1 rfl rfl ⟨Nat.le_of_ble_eq_true rfl, Nat.le_of_ble_eq_true rfl⟩ ⟨Nat.le_of_ble_eq_true rfl, Nat.le_of_ble_eq_true rfl⟩ dX10_weaveCell_51 rfl (Nat.le_of_ble_eq_true rfl)) ?_
  rw [h0]
  refine jx_astore (lv1 := [_, _, _, _, _, _, _, _]) C dX10_weaveCell_54 (by decide) rfl ?_
  refine jx_aload C dX10_weaveCell_56 rfl ?_
  refine jx_ifnull C dX10_weaveCell_58 ?_
  refine jx_aload C dX10_weaveCell_61 rfl ?_
  refine jx_iload_n C dX10_weaveCell_63 rfl ?_
  refine jx_one C (jv_has C dX10_weaveCell_64 hk0 ⟨by decide, by decide⟩ ⟨Nat.zero_le _, Nat.zero_le _⟩ (Nat.le_of_ble_eq_true rfl)) ?_
  rw [bI_t g0]
  refine jx_if_neT (tgt := 76) C dX10_weaveCell_67 (by decide) (by decide) ?_
  refine jx_aload C dX10_weaveCell_76 rfl ?_
  refine jx_iload_n C dX10_weaveCell_78 rfl ?_
  refine jx_one C (jv_tells C dX10_weaveCell_79 hk0 hu ok0 ⟨by decide, by decide⟩ ⟨Nat.zero_le _, Nat.zero_le _⟩ (Nat.le_of_ble_eq_true rfl)) ?_
  rw [tl_I (by omega)]
  refine jx_istore (lv1 := [_, _, _, _, _, _, _, _]) C dX10_weaveCell_82 (by decide) rfl ?_
  refine jx_aload_n C dX10_weaveCell_84 rfl ?_
  refine jx_get C fl_10_10_9 dX10_weaveCell_85 (by decide) gg_0 rfl ?_
  refine jx_iload_n C dX10_weaveCell_88 rfl ?_
  refine jx_iconst (v := 1) C dX10_weaveCell_89 (by decide) ?_
  refine jx_one C (jr_V C (c_8_laneAt (b := 1) ha (by decide)) vw_10_70 (by decide) gg_1 rfl rfl ⟨Nat.le_of_ble_eq_true rfl, Nat.le_of_ble_eq_true rfl⟩ ⟨Nat.le_of_ble_eq_true rfl, Nat.le_of_ble_eq_true rfl⟩ dX10_weaveCell_90 rfl (Nat.le_of_ble_eq_true rfl)) ?_
  rw [h1]
  refine jx_astore (lv1 := [_, _, _, _, _, _, _, _]) C dX10_weaveCell_93 (by decide) rfl ?_
  refine jx_aload C dX10_weaveCell_95 rfl ?_
  refine jx_ifnull C dX10_weaveCell_97 ?_
  refine jx_aload C dX10_weaveCell_100 rfl ?_
  refine jx_iload_n C dX10_weaveCell_102 rfl ?_
  refine jx_one C (jv_has C dX10_weaveCell_103 hk1 ⟨by decide, by decide⟩ ⟨Nat.zero_le _, Nat.zero_le _⟩ (Nat.le_of_ble_eq_true rfl)) ?_
  rw [bI_t g1]
  refine jx_if_neT (tgt := 115) C dX10_weaveCell_106 (by decide) (by decide) ?_
  refine jx_aload C dX10_weaveCell_115 rfl ?_
  refine jx_iload_n C dX10_weaveCell_117 rfl ?_
  refine jx_iconst (v := (-1)) C dX10_weaveCell_118 (by decide) ?_
  refine jx_void C (jv_pull C dX10_weaveCell_119 hk1 hu ok1 ⟨by decide, by decide⟩ ⟨Nat.zero_le _, Nat.zero_le _⟩ (Nat.le_of_ble_eq_true rfl)) ?_
  rw [laU_ne (by omega)]
  refine jx_aload_n C dX10_weaveCell_122 rfl ?_
  refine jx_get C fl_10_26_9 dX10_weaveCell_123 (by decide) gg_0 rfl ?_
  refine jx_iload_n C dX10_weaveCell_126 rfl ?_
  refine jx_iload_n C dX10_weaveCell_127 rfl ?_
  refine jx_iload C dX10_weaveCell_128 rfl ?_
  refine jx_void C (jr_V C (c_1_set (by rw [laI_o (by omega)]; exact hn) h24 hj (by rw [laI_o (by omega)]; exact hr) hr24 (by rw [laI_o (by omega)]; exact hw) hw24 huw) vw_10_211 (by decide) gg_46 rfl rfl ⟨Nat.le_of_ble_eq_true rfl, Nat.le_of_ble_eq_true rfl⟩ ⟨Nat.le_of_ble_eq_true rfl, Nat.le_of_ble_eq_true rfl⟩ dX10_weaveCell_130 rfl (Nat.le_of_ble_eq_true rfl)) ?_
  refine jx_iconst (v := 0) C dX10_weaveCell_133 (by decide) ?_
  exact jx_iret C dX10_weaveCell_134 ⟨rfl, rfl, rfl, rfl⟩
set_option maxRecDepth 100000 in
set_option maxHeartbeats 4000000 in
theorem c_10_wc_C1d {l : Launch} {D : va_G} {K : Nat → ClassId} {A : Nat → Nat} {I : TI} {U : TU} {P : TP} {a u : Nat} {x weft : Int32} (ha : a < 4) {k3 : Nat} (h3 : P (5 * a + 3) = some k3) (hk3 : k3 < 20) (s3 : k3 % 5 = 3) (hu : u < 24) (ok3 : okE I U k3 u) (g3 : inR (I (4 + 2 * k3) 0) (nI u)) (hx : ¬ I (5 + 2 * k3) u = 1) (h1 : P (5 * a + 1) = none) : MM l yX10_weaveCell cX10_weaveCell 8 (some .int) 4 D K A (I) (U) (P) [.ref (A 0), .int (nI a), .int x, .int (nI u), .int weft] (XE (some (.int 1)) I U P) := by
  refine MM.go (own := RX10) (lv0 := [some (.ref (A 0)), some (.int (nI a)), some (.int x), some (.int (nI u)), some (.int weft), none, none, none]) rfl (by decide) rfl (Nat.le_of_ble_eq_true rfl) rfl ?_
  intro p e s m args below meth c C
  refine jx_aload_n C dX10_weaveCell_0 rfl ?_
  refine jx_get C fl_10_10_9 dX10_weaveCell_1 (by decide) gg_0 rfl ?_
  refine jx_iload_n C dX10_weaveCell_4 rfl ?_
  refine jx_iconst (v := 3) C dX10_weaveCell_5 (by decide) ?_
  refine jx_one C (jr_V C (c_8_laneAt (b := 3) ha (by decide)) vw_10_70 (by decide) gg_1 rfl rfl ⟨Nat.le_of_ble_eq_true rfl, Nat.le_of_ble_eq_true rfl⟩ ⟨Nat.le_of_ble_eq_true rfl, Nat.le_of_ble_eq_true rfl⟩ dX10_weaveCell_6 rfl (Nat.le_of_ble_eq_true rfl)) ?_
  rw [h3]
  refine jx_astore (lv1 := [_, _, _, _, _, _, _, _]) C dX10_weaveCell_9 (by decide) rfl ?_
  refine jx_aload C dX10_weaveCell_11 rfl ?_
  refine jx_ifnull C dX10_weaveCell_13 ?_
  refine jx_aload C dX10_weaveCell_16 rfl ?_
  refine jx_iload_n C dX10_weaveCell_18 rfl ?_
  refine jx_one C (jv_has C dX10_weaveCell_19 hk3 ⟨by decide, by decide⟩ ⟨Nat.zero_le _, Nat.zero_le _⟩ (Nat.le_of_ble_eq_true rfl)) ?_
  rw [bI_t g3]
  refine jx_if_neT (tgt := 31) C dX10_weaveCell_22 (by decide) (by decide) ?_
  refine jx_iload C dX10_weaveCell_31 rfl ?_
  refine jx_istore (lv1 := [_, _, _, _, _, _, _, _]) C dX10_weaveCell_33 (by decide) rfl ?_
  refine jx_aload C dX10_weaveCell_35 rfl ?_
  refine jx_iload_n C dX10_weaveCell_37 rfl ?_
  refine jx_one C (jv_tells C dX10_weaveCell_38 hk3 hu ok3 ⟨by decide, by decide⟩ ⟨Nat.zero_le _, Nat.zero_le _⟩ (Nat.le_of_ble_eq_true rfl)) ?_
  rw [tl_I (by omega)]
  refine jx_iconst (v := 1) C dX10_weaveCell_41 (by decide) ?_
  refine jx_ic_neT (tgt := 84) C dX10_weaveCell_42 (by decide) hx ?_
  refine jx_aload_n C dX10_weaveCell_84 rfl ?_
  refine jx_get C fl_10_10_9 dX10_weaveCell_85 (by decide) gg_0 rfl ?_
  refine jx_iload_n C dX10_weaveCell_88 rfl ?_
  refine jx_iconst (v := 1) C dX10_weaveCell_89 (by decide) ?_
  refine jx_one C (jr_V C (c_8_laneAt (b := 1) ha (by decide)) vw_10_70 (by decide) gg_1 rfl rfl ⟨Nat.le_of_ble_eq_true rfl, Nat.le_of_ble_eq_true rfl⟩ ⟨Nat.le_of_ble_eq_true rfl, Nat.le_of_ble_eq_true rfl⟩ dX10_weaveCell_90 rfl (Nat.le_of_ble_eq_true rfl)) ?_
  rw [h1]
  refine jx_astoreN (lv1 := [_, _, _, _, _, _, _, _]) C dX10_weaveCell_93 (by decide) rfl ?_
  refine jx_aloadN C dX10_weaveCell_95 rfl ?_
  refine jx_ifnullN (tgt := 109) C dX10_weaveCell_97 (by decide) ?_
  refine jx_aloadN C dX10_weaveCell_109 rfl ?_
  refine jx_one C (jr_S C (c_10_faultAtEndN) sw_10_207 rfl ⟨Nat.le_of_ble_eq_true rfl, Nat.le_of_ble_eq_true rfl⟩ ⟨Nat.le_of_ble_eq_true rfl, Nat.le_of_ble_eq_true rfl⟩ dX10_weaveCell_111 rfl (Nat.le_of_ble_eq_true rfl)) ?_
  exact jx_iret C dX10_weaveCell_114 ⟨rfl, rfl, rfl, rfl⟩
set_option maxRecDepth 100000 in
set_option maxHeartbeats 4000000 in
theorem c_10_wc_C2d {l : Launch} {D : va_G} {K : Nat → ClassId} {A : Nat → Nat} {I : TI} {U : TU} {P : TP} {a u : Nat} {x weft : Int32} (ha : a < 4) {k3 : Nat} (h3 : P (5 * a + 3) = some k3) (hk3 : k3 < 20) (s3 : k3 % 5 = 3) (hu : u < 24) (ok3 : okE I U k3 u) (g3 : inR (I (4 + 2 * k3) 0) (nI u)) (hx : ¬ I (5 + 2 * k3) u = 1) {k1 : Nat} (h1 : P (5 * a + 1) = some k1) (hk1 : k1 < 20) (g1 : ¬ inR (I (4 + 2 * k1) 0) (nI u)) : MM l yX10_weaveCell cX10_weaveCell 8 (some .int) 4 D K A (I) (U) (P) [.ref (A 0), .int (nI a), .int x, .int (nI u), .int weft] (XE (some (.int 2)) I U P) := by
  refine MM.go (own := RX10) (lv0 := [some (.ref (A 0)), some (.int (nI a)), some (.int x), some (.int (nI u)), some (.int weft), none, none, none]) rfl (by decide) rfl (Nat.le_of_ble_eq_true rfl) rfl ?_
  intro p e s m args below meth c C
  refine jx_aload_n C dX10_weaveCell_0 rfl ?_
  refine jx_get C fl_10_10_9 dX10_weaveCell_1 (by decide) gg_0 rfl ?_
  refine jx_iload_n C dX10_weaveCell_4 rfl ?_
  refine jx_iconst (v := 3) C dX10_weaveCell_5 (by decide) ?_
  refine jx_one C (jr_V C (c_8_laneAt (b := 3) ha (by decide)) vw_10_70 (by decide) gg_1 rfl rfl ⟨Nat.le_of_ble_eq_true rfl, Nat.le_of_ble_eq_true rfl⟩ ⟨Nat.le_of_ble_eq_true rfl, Nat.le_of_ble_eq_true rfl⟩ dX10_weaveCell_6 rfl (Nat.le_of_ble_eq_true rfl)) ?_
  rw [h3]
  refine jx_astore (lv1 := [_, _, _, _, _, _, _, _]) C dX10_weaveCell_9 (by decide) rfl ?_
  refine jx_aload C dX10_weaveCell_11 rfl ?_
  refine jx_ifnull C dX10_weaveCell_13 ?_
  refine jx_aload C dX10_weaveCell_16 rfl ?_
  refine jx_iload_n C dX10_weaveCell_18 rfl ?_
  refine jx_one C (jv_has C dX10_weaveCell_19 hk3 ⟨by decide, by decide⟩ ⟨Nat.zero_le _, Nat.zero_le _⟩ (Nat.le_of_ble_eq_true rfl)) ?_
  rw [bI_t g3]
  refine jx_if_neT (tgt := 31) C dX10_weaveCell_22 (by decide) (by decide) ?_
  refine jx_iload C dX10_weaveCell_31 rfl ?_
  refine jx_istore (lv1 := [_, _, _, _, _, _, _, _]) C dX10_weaveCell_33 (by decide) rfl ?_
  refine jx_aload C dX10_weaveCell_35 rfl ?_
  refine jx_iload_n C dX10_weaveCell_37 rfl ?_
  refine jx_one C (jv_tells C dX10_weaveCell_38 hk3 hu ok3 ⟨by decide, by decide⟩ ⟨Nat.zero_le _, Nat.zero_le _⟩ (Nat.le_of_ble_eq_true rfl)) ?_
  rw [tl_I (by omega)]
  refine jx_iconst (v := 1) C dX10_weaveCell_41 (by decide) ?_
  refine jx_ic_neT (tgt := 84) C dX10_weaveCell_42 (by decide) hx ?_
  refine jx_aload_n C dX10_weaveCell_84 rfl ?_
  refine jx_get C fl_10_10_9 dX10_weaveCell_85 (by decide) gg_0 rfl ?_
  refine jx_iload_n C dX10_weaveCell_88 rfl ?_
  refine jx_iconst (v := 1) C dX10_weaveCell_89 (by decide) ?_
  refine jx_one C (jr_V C (c_8_laneAt (b := 1) ha (by decide)) vw_10_70 (by decide) gg_1 rfl rfl ⟨Nat.le_of_ble_eq_true rfl, Nat.le_of_ble_eq_true rfl⟩ ⟨Nat.le_of_ble_eq_true rfl, Nat.le_of_ble_eq_true rfl⟩ dX10_weaveCell_90 rfl (Nat.le_of_ble_eq_true rfl)) ?_
  rw [h1]
  refine jx_astore (lv1 := [_, _, _, _, _, _, _, _]) C dX10_weaveCell_93 (by decide) rfl ?_
  refine jx_aload C dX10_weaveCell_95 rfl ?_
  refine jx_ifnull C dX10_weaveCell_97 ?_
  refine jx_aload C dX10_weaveCell_100 rfl ?_
  refine jx_iload_n C dX10_weaveCell_102 rfl ?_
  refine jx_one C (jv_has C dX10_weaveCell_103 hk1 ⟨by decide, by decide⟩ ⟨Nat.zero_le _, Nat.zero_le _⟩ (Nat.le_of_ble_eq_true rfl)) ?_
  rw [bI_f g1]
  refine jx_if_neF (tgt := 115) C dX10_weaveCell_106 (by decide) (by decide) ?_
  refine jx_aload C dX10_weaveCell_109 rfl ?_
  refine jx_one C (jr_S C (c_10_faultAtEnd) sw_10_207 rfl ⟨Nat.le_of_ble_eq_true rfl, Nat.le_of_ble_eq_true rfl⟩ ⟨Nat.le_of_ble_eq_true rfl, Nat.le_of_ble_eq_true rfl⟩ dX10_weaveCell_111 rfl (Nat.le_of_ble_eq_true rfl)) ?_
  exact jx_iret C dX10_weaveCell_114 ⟨rfl, rfl, rfl, rfl⟩
set_option maxRecDepth 100000 in
set_option maxHeartbeats 4000000 in
theorem c_10_wc_Sd {l : Launch} {D : va_G} {K : Nat → ClassId} {A : Nat → Nat} {I : TI} {U : TU} {P : TP} {a u : Nat} {x weft : Int32} (ha : a < 4) {k3 : Nat} (h3 : P (5 * a + 3) = some k3) (hk3 : k3 < 20) (s3 : k3 % 5 = 3) (hu : u < 24) (ok3 : okE I U k3 u) (g3 : inR (I (4 + 2 * k3) 0) (nI u)) (hx : ¬ I (5 + 2 * k3) u = 1) {k1 : Nat} (h1 : P (5 * a + 1) = some k1) (hk1 : k1 < 20) (s1 : k1 % 5 = 1) (ok1 : okE I U k1 u) (g1 : inR (I (4 + 2 * k1) 0) (nI u)) {j n r w : Nat} (hn : I 46 3 = nI n) (h24 : n ≤ 24) (hj : j < n) (hr : I 48 j = nI r) (hr24 : r < 24) (hw : I 46 4 = nI w) (hw24 : w ≤ 24) (huw : u < w) : MM l yX10_weaveCell cX10_weaveCell 8 (some .int) 4 D K A (I) (U) (P) [.ref (A 0), .int (nI a), .int (nI j), .int (nI u), .int weft] (XE (some (.int 0)) (up2 (laI k1 u (vPull (k1 % 5) (I (5 + 2 * k1) u) (-1)) I) 47 (24 * r + u) (weft)) U P) := by
  refine MM.go (own := RX10) (lv0 := [some (.ref (A 0)), some (.int (nI a)), some (.int (nI j)), some (.int (nI u)), some (.int weft), none, none, none]) rfl (by decide) rfl (Nat.le_of_ble_eq_true rfl) rfl ?_
  intro p e s m args below meth c C
  refine jx_aload_n C dX10_weaveCell_0 rfl ?_
  refine jx_get C fl_10_10_9 dX10_weaveCell_1 (by decide) gg_0 rfl ?_
  refine jx_iload_n C dX10_weaveCell_4 rfl ?_
  refine jx_iconst (v := 3) C dX10_weaveCell_5 (by decide) ?_
  refine jx_one C (jr_V C (c_8_laneAt (b := 3) ha (by decide)) vw_10_70 (by decide) gg_1 rfl rfl ⟨Nat.le_of_ble_eq_true rfl, Nat.le_of_ble_eq_true rfl⟩ ⟨Nat.le_of_ble_eq_true rfl, Nat.le_of_ble_eq_true rfl⟩ dX10_weaveCell_6 rfl (Nat.le_of_ble_eq_true rfl)) ?_
  rw [h3]
  refine jx_astore (lv1 := [_, _, _, _, _, _, _, _]) C dX10_weaveCell_9 (by decide) rfl ?_
  refine jx_aload C dX10_weaveCell_11 rfl ?_
  refine jx_ifnull C dX10_weaveCell_13 ?_
  refine jx_aload C dX10_weaveCell_16 rfl ?_
  refine jx_iload_n C dX10_weaveCell_18 rfl ?_
  refine jx_one C (jv_has C dX10_weaveCell_19 hk3 ⟨by decide, by decide⟩ ⟨Nat.zero_le _, Nat.zero_le _⟩ (Nat.le_of_ble_eq_true rfl)) ?_
  rw [bI_t g3]
  refine jx_if_neT (tgt := 31) C dX10_weaveCell_22 (by decide) (by decide) ?_
  refine jx_iload C dX10_weaveCell_31 rfl ?_
  refine jx_istore (lv1 := [_, _, _, _, _, _, _, _]) C dX10_weaveCell_33 (by decide) rfl ?_
  refine jx_aload C dX10_weaveCell_35 rfl ?_
  refine jx_iload_n C dX10_weaveCell_37 rfl ?_
  refine jx_one C (jv_tells C dX10_weaveCell_38 hk3 hu ok3 ⟨by decide, by decide⟩ ⟨Nat.zero_le _, Nat.zero_le _⟩ (Nat.le_of_ble_eq_true rfl)) ?_
  rw [tl_I (by omega)]
  refine jx_iconst (v := 1) C dX10_weaveCell_41 (by decide) ?_
  refine jx_ic_neT (tgt := 84) C dX10_weaveCell_42 (by decide) hx ?_
  refine jx_aload_n C dX10_weaveCell_84 rfl ?_
  refine jx_get C fl_10_10_9 dX10_weaveCell_85 (by decide) gg_0 rfl ?_
  refine jx_iload_n C dX10_weaveCell_88 rfl ?_
  refine jx_iconst (v := 1) C dX10_weaveCell_89 (by decide) ?_
  refine jx_one C (jr_V C (c_8_laneAt (b := 1) ha (by decide)) vw_10_70 (by decide) gg_1 rfl rfl ⟨Nat.le_of_ble_eq_true rfl, Nat.le_of_ble_eq_true rfl⟩ ⟨Nat.le_of_ble_eq_true rfl, Nat.le_of_ble_eq_true rfl⟩ dX10_weaveCell_90 rfl (Nat.le_of_ble_eq_true rfl)) ?_
  rw [h1]
  refine jx_astore (lv1 := [_, _, _, _, _, _, _, _]) C dX10_weaveCell_93 (by decide) rfl ?_
  refine jx_aload C dX10_weaveCell_95 rfl ?_
  refine jx_ifnull C dX10_weaveCell_97 ?_
  refine jx_aload C dX10_weaveCell_100 rfl ?_
  refine jx_iload_n C dX10_weaveCell_102 rfl ?_
  refine jx_one C (jv_has C dX10_weaveCell_103 hk1 ⟨by decide, by decide⟩ ⟨Nat.zero_le _, Nat.zero_le _⟩ (Nat.le_of_ble_eq_true rfl)) ?_
  rw [bI_t g1]
  refine jx_if_neT (tgt := 115) C dX10_weaveCell_106 (by decide) (by decide) ?_
  refine jx_aload C dX10_weaveCell_115 rfl ?_
  refine jx_iload_n C dX10_weaveCell_117 rfl ?_
  refine jx_iconst (v := (-1)) C dX10_weaveCell_118 (by decide) ?_
  refine jx_void C (jv_pull C dX10_weaveCell_119 hk1 hu ok1 ⟨by decide, by decide⟩ ⟨Nat.zero_le _, Nat.zero_le _⟩ (Nat.le_of_ble_eq_true rfl)) ?_
  rw [laU_ne (by omega)]
  refine jx_aload_n C dX10_weaveCell_122 rfl ?_
  refine jx_get C fl_10_26_9 dX10_weaveCell_123 (by decide) gg_0 rfl ?_
  refine jx_iload_n C dX10_weaveCell_126 rfl ?_
  refine jx_iload_n C dX10_weaveCell_127 rfl ?_
  refine jx_iload C dX10_weaveCell_128 rfl ?_
  refine jx_void C (jr_V C (c_1_set (by rw [laI_o (by omega)]; exact hn) h24 hj (by rw [laI_o (by omega)]; exact hr) hr24 (by rw [laI_o (by omega)]; exact hw) hw24 huw) vw_10_211 (by decide) gg_46 rfl rfl ⟨Nat.le_of_ble_eq_true rfl, Nat.le_of_ble_eq_true rfl⟩ ⟨Nat.le_of_ble_eq_true rfl, Nat.le_of_ble_eq_true rfl⟩ dX10_weaveCell_130 rfl (Nat.le_of_ble_eq_true rfl)) ?_
  refine jx_iconst (v := 0) C dX10_weaveCell_133 (by decide) ?_
  exact jx_iret C dX10_weaveCell_134 ⟨rfl, rfl, rfl, rfl⟩
set_option maxRecDepth 100000 in
set_option maxHeartbeats 4000000 in
theorem c_10_weaveCell {l : Launch} {D : va_G} {K : Nat → ClassId} {A : Nat → Nat} {I : TI} {U : TU} {P : TP} {a u : Nat} {weft : Int32} (ha : a < 4) (hP : okP P) (hl : ∀ pl k, pl < 20 → P pl = some k → okL I U k) {j n r w : Nat} (hn : I 46 3 = nI n) (h24 : n ≤ 24) (hj : j < n) (hr : I 48 j = nI r) (hr24 : r < 24) (hw : I 46 4 = nI w) (hw24 : w ≤ 24) (huw : u < w) : MM l yX10_weaveCell cX10_weaveCell 8 (some .int) 4 D K A I U P [.ref (A 0), .int (nI a), .int (nI j), .int (nI u), .int weft] (XE (some (.int (nI (wcF P a u I)))) (if wcF P a u I = 0 then wcI P a u r weft I else I) U P) := by
  have hu : u < 24 := by omega
  cases h3 : P (5 * a + 3) with
  | none =>
    rw [show wcF P a u I = 1 by simp [wcF, h3, lfI], if_neg (by decide)]
    exact c_10_wc_A1 ha h3
  | some k3 =>
    obtain ⟨hk3, c3, hc3, hcc3, ok3⟩ := hl _ _ (by omega) h3
    have s3 : k3 % 5 = 3 := by have := (hP _ _ (by omega) h3).2; omega
    by_cases g3 : inR (I (4 + 2 * k3) 0) (nI u)
    · have e3 : lfI (P (5 * a + 3)) (nI u) I = 0 := by rw [h3]; exact if_pos g3
      have v3 : lnI (P (5 * a + 3)) u I = I (5 + 2 * k3) u := by rw [h3]; rfl
      by_cases hx : I (5 + 2 * k3) u = 1
      · cases h0 : P (5 * a + 0) with
        | none =>
          have e0 : lfI (P (5 * a + 0)) (nI u) I = 1 := by rw [h0]; rfl
          rw [show wcF P a u I = 1 by rw [wcF, e3, v3, hx, e0]; simp, if_neg (by decide)]
          exact c_10_wc_B1 ha h3 hk3 s3 hu (ok3 u hu) g3 hx h0
        | some k0 =>
          obtain ⟨hk0, c0, hc0, hcc0, ok0⟩ := hl _ _ (by omega) h0
          have s0 : k0 % 5 = 0 := by have := (hP _ _ (by omega) h0).2; omega
          by_cases g0 : inR (I (4 + 2 * k0) 0) (nI u)
          · have e0 : lfI (P (5 * a + 0)) (nI u) I = 0 := by rw [h0]; exact if_pos g0
            have v0 : lnI (P (5 * a + 0)) u I = I (5 + 2 * k0) u := by rw [h0]; rfl
            have ew : wcF P a u I = lfI (P (5 * a + 1)) (nI u) I := by rw [wcF, e3, e0]; simp
            cases h1 : P (5 * a + 1) with
            | none =>
              rw [ew, h1, show lfI none (nI u) I = 1 from rfl, if_neg (by decide)]
              exact c_10_wc_C1u ha h3 hk3 s3 hu (ok3 u hu) g3 hx h0 hk0 s0 (ok0 u hu) g0 h1
            | some k1 =>
              obtain ⟨hk1, c1, hc1, hcc1, ok1⟩ := hl _ _ (by omega) h1
              have s1 : k1 % 5 = 1 := by have := (hP _ _ (by omega) h1).2; omega
              by_cases g1 : inR (I (4 + 2 * k1) 0) (nI u)
              · rw [ew, h1, show lfI (some k1) (nI u) I = 0 from if_pos g1, if_pos rfl]
                rw [show wcI P a u r weft I = up2 (laI k1 u (vPull (k1 % 5) (I (5 + 2 * k1) u) (-1)) I) 47 (24 * r + u) (I (5 + 2 * k0) u) by simp only [wcI, h1]; rw [v3, v0, if_pos hx]]
                exact c_10_wc_Su (x := 0) ha h3 hk3 s3 hu (ok3 u hu) g3 hx h0 hk0 s0 (ok0 u hu) g0 h1 hk1 s1 (ok1 u hu) g1 hn h24 hj hr hr24 hw hw24 huw
              · rw [ew, h1, show lfI (some k1) (nI u) I = 2 from if_neg g1, if_neg (by decide)]
                exact c_10_wc_C2u ha h3 hk3 s3 hu (ok3 u hu) g3 hx h0 hk0 s0 (ok0 u hu) g0 h1 hk1 g1
          · have e0 : lfI (P (5 * a + 0)) (nI u) I = 2 := by rw [h0]; exact if_neg g0
            rw [show wcF P a u I = 2 by rw [wcF, e3, v3, hx, e0]; simp, if_neg (by decide)]
            exact c_10_wc_B2 ha h3 hk3 s3 hu (ok3 u hu) g3 hx h0 hk0 g0
      · have ew : wcF P a u I = lfI (P (5 * a + 1)) (nI u) I := by simp [wcF, e3, v3, hx]
        cases h1 : P (5 * a + 1) with
        | none =>
          rw [ew, h1, show lfI none (nI u) I = 1 from rfl, if_neg (by decide)]
          exact c_10_wc_C1d ha h3 hk3 s3 hu (ok3 u hu) g3 hx h1
        | some k1 =>
          obtain ⟨hk1, c1, hc1, hcc1, ok1⟩ := hl _ _ (by omega) h1
          have s1 : k1 % 5 = 1 := by have := (hP _ _ (by omega) h1).2; omega
          by_cases g1 : inR (I (4 + 2 * k1) 0) (nI u)
          · rw [ew, h1, show lfI (some k1) (nI u) I = 0 from if_pos g1, if_pos rfl]
            rw [show wcI P a u r weft I = up2 (laI k1 u (vPull (k1 % 5) (I (5 + 2 * k1) u) (-1)) I) 47 (24 * r + u) weft by simp only [wcI, h1]; rw [v3, if_neg hx]]
            exact c_10_wc_Sd (x := 0) ha h3 hk3 s3 hu (ok3 u hu) g3 hx h1 hk1 s1 (ok1 u hu) g1 hn h24 hj hr hr24 hw hw24 huw
          · rw [ew, h1, show lfI (some k1) (nI u) I = 2 from if_neg g1, if_neg (by decide)]
            exact c_10_wc_C2d ha h3 hk3 s3 hu (ok3 u hu) g3 hx h1 hk1 g1
    · have e3 : lfI (P (5 * a + 3)) (nI u) I = 2 := by rw [h3]; exact if_neg g3
      rw [show wcF P a u I = 2 by simp [wcF, e3], if_neg (by decide)]
      exact c_10_wc_A2 ha h3 hk3 g3
