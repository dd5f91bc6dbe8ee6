/-! the cloth and the deck -/
abbrev inR (n x : Int32) : Prop := ¬ x < 0 ∧ ¬ n ≤ x
theorem inR_of {n : Nat} {x : Int32} (hn : n < 1000) (h : inR (nI n) x) : ∃ j : Nat, j < n ∧ x = nI j := by
  rcases pk_ix x (n := n) (by omega) with h1 | h1 | h1
  · exact absurd h1 h.1
  · exact absurd h1 h.2
  · exact h1
theorem inR_nI {n j : Nat} (hn : n < 1000) (h : j < n) : inR (nI n) (nI j) := ⟨nI_pos (by omega), nI_ge h (by omega)⟩
/-- the fault of a place for a pick: t: is there cloth; n: how many picks; x: the place -/
def fPl (t n x : Int32) : Int32 := if t = 0 then 1 else if inR n x then 0 else 2
/-- .. of a pick that must be there, r: its row -/
def fPk (t n x r : Int32) : Int32 := if t = 0 then 1 else if inR n x then (if r = -1 then 1 else 0) else 2
set_option maxRecDepth 100000 in
set_option maxHeartbeats 4000000 in
theorem c_1_width {l : Launch} {D : va_G} {K : Nat → ClassId} {A : Nat → Nat} {I : TI} {U : TU} {P : TP}  : MM l yX1_width cX1_width 1 (some .int) 0 D K A (I) (U) (P) [.ref (A 46)] (XE (some (.int (I 46 4))) I U P) := by
  refine MM.go (own := RX1) (lv0 := [some (.ref (A 46))]) rfl (by decide) rfl (Nat.le_of_ble_eq_true rfl) rfl ?_
  intro p e s m args below meth c C
  refine jx_aload_n C dX1_width_0 rfl ?_
  refine jx_get C fl_1_26_1 dX1_width_1 (by decide) gg_46 rfl ?_
  exact jx_iret C dX1_width_4 ⟨rfl, rfl, rfl, rfl⟩
set_option maxRecDepth 100000 in
set_option maxHeartbeats 4000000 in
theorem c_1_isPlace {l : Launch} {D : va_G} {K : Nat → ClassId} {A : Nat → Nat} {I : TI} {U : TU} {P : TP} {x : Int32} : MM l yX1_isPlace cX1_isPlace 2 (some .boolean) 0 D K A (I) (U) (P) [.ref (A 46), .int x] (XE (some (.int (bI (inR (I 46 3) x)))) I U P) := by
  refine MM.go (own := RX1) (lv0 := [some (.ref (A 46)), some (.int x)]) rfl (by decide) rfl (Nat.le_of_ble_eq_true rfl) rfl ?_
  intro p e s m args below meth c C
  refine jx_iload_n C dX1_isPlace_0 rfl ?_
  refine jx_if_lt (tgt := 16) C dX1_isPlace_1 (by decide) (fun c1 => ?_) (fun c1 => ?_)
  · refine jx_iconst (v := 0) C dX1_isPlace_16 (by decide) ?_
    exact jx_zret C dX1_isPlace_17 rfl ⟨by simp [bI, inR, c1], rfl, rfl, rfl⟩
  · refine jx_iload_n C dX1_isPlace_4 rfl ?_
    refine jx_aload_n C dX1_isPlace_5 rfl ?_
    refine jx_get C fl_1_22_1 dX1_isPlace_6 (by decide) gg_46 rfl ?_
    refine jx_ic_ge (tgt := 16) C dX1_isPlace_9 (by decide) (fun c9 => ?_) (fun c9 => ?_)
    · refine jx_iconst (v := 0) C dX1_isPlace_16 (by decide) ?_
      exact jx_zret C dX1_isPlace_17 rfl ⟨by simp [bI, inR, c1, c9], rfl, rfl, rfl⟩
    · refine jx_iconst (v := 1) C dX1_isPlace_12 (by decide) ?_
      refine jx_goto (tgt := 17) C dX1_isPlace_13 (by decide) ?_
      exact jx_zret C dX1_isPlace_17 rfl ⟨by simp [bI, inR, c1, c9], rfl, rfl, rfl⟩
set_option maxRecDepth 100000 in
set_option maxHeartbeats 4000000 in
theorem c_1_hasCell {l : Launch} {D : va_G} {K : Nat → ClassId} {A : Nat → Nat} {I : TI} {U : TU} {P : TP} {x : Int32} : MM l yX1_hasCell cX1_hasCell 2 (some .boolean) 0 D K A (I) (U) (P) [.ref (A 46), .int x] (XE (some (.int (bI (inR (I 46 4) x)))) I U P) := by
  refine MM.go (own := RX1) (lv0 := [some (.ref (A 46)), some (.int x)]) rfl (by decide) rfl (Nat.le_of_ble_eq_true rfl) rfl ?_
  intro p e s m args below meth c C
  refine jx_iload_n C dX1_hasCell_0 rfl ?_
  refine jx_if_lt (tgt := 16) C dX1_hasCell_1 (by decide) (fun c1 => ?_) (fun c1 => ?_)
  · refine jx_iconst (v := 0) C dX1_hasCell_16 (by decide) ?_
    exact jx_zret C dX1_hasCell_17 rfl ⟨by simp [bI, inR, c1], rfl, rfl, rfl⟩
  · refine jx_iload_n C dX1_hasCell_4 rfl ?_
    refine jx_aload_n C dX1_hasCell_5 rfl ?_
    refine jx_get C fl_1_26_1 dX1_hasCell_6 (by decide) gg_46 rfl ?_
    refine jx_ic_ge (tgt := 16) C dX1_hasCell_9 (by decide) (fun c9 => ?_) (fun c9 => ?_)
    · refine jx_iconst (v := 0) C dX1_hasCell_16 (by decide) ?_
      exact jx_zret C dX1_hasCell_17 rfl ⟨by simp [bI, inR, c1, c9], rfl, rfl, rfl⟩
    · refine jx_iconst (v := 1) C dX1_hasCell_12 (by decide) ?_
      refine jx_goto (tgt := 17) C dX1_hasCell_13 (by decide) ?_
      exact jx_zret C dX1_hasCell_17 rfl ⟨by simp [bI, inR, c1, c9], rfl, rfl, rfl⟩
set_option maxRecDepth 100000 in
set_option maxHeartbeats 4000000 in
theorem c_1_placeFault {l : Launch} {D : va_G} {K : Nat → ClassId} {A : Nat → Nat} {I : TI} {U : TU} {P : TP} {x : Int32} : MM l yX1_placeFault cX1_placeFault 2 (some .int) 1 D K A (I) (U) (P) [.ref (A 46), .int x] (XE (some (.int (fPl (I 46 2) (I 46 3) x))) I U P) := by
  refine MM.go (own := RX1) (lv0 := [some (.ref (A 46)), some (.int x)]) rfl (by decide) rfl (Nat.le_of_ble_eq_true rfl) rfl ?_
  intro p e s m args below meth c C
  refine jx_aload_n C dX1_placeFault_0 rfl ?_
  refine jx_get C fl_1_18_1 dX1_placeFault_1 (by decide) gg_46 rfl ?_
  refine jx_if_ne (tgt := 9) C dX1_placeFault_4 (by decide) (fun c4 => ?_) (fun c4 => ?_)
  · refine jx_aload_n C dX1_placeFault_9 rfl ?_
    refine jx_iload_n C dX1_placeFault_10 rfl ?_
    by_cases hh : inR (I 46 3) x
    · skip
      refine jx_one C (jr_V C (c_1_isPlace) vw_1_29 (by decide) gg_46 rfl rfl ⟨Nat.le_of_ble_eq_true rfl, Nat.le_of_ble_eq_true rfl⟩ ⟨Nat.le_of_ble_eq_true rfl, Nat.le_of_ble_eq_true rfl⟩ dX1_placeFault_11 rfl (Nat.le_of_ble_eq_true rfl)) ?_
      rw [bI_t hh]
      refine jx_if_eqF (tgt := 21) C dX1_placeFault_14 (by decide) (by decide) ?_
      refine jx_iconst (v := 0) C dX1_placeFault_17 (by decide) ?_
      refine jx_goto (tgt := 22) C dX1_placeFault_18 (by decide) ?_
      exact jx_iret C dX1_placeFault_22 ⟨by simp [fPl, c4, hh], rfl, rfl, rfl⟩
    · skip
      refine jx_one C (jr_V C (c_1_isPlace) vw_1_29 (by decide) gg_46 rfl rfl ⟨Nat.le_of_ble_eq_true rfl, Nat.le_of_ble_eq_true rfl⟩ ⟨Nat.le_of_ble_eq_true rfl, Nat.le_of_ble_eq_true rfl⟩ dX1_placeFault_11 rfl (Nat.le_of_ble_eq_true rfl)) ?_
      rw [bI_f hh]
      refine jx_if_eqT (tgt := 21) C dX1_placeFault_14 (by decide) (by decide) ?_
      refine jx_iconst (v := 2) C dX1_placeFault_21 (by decide) ?_
      exact jx_iret C dX1_placeFault_22 ⟨by simp [fPl, c4, hh], rfl, rfl, rfl⟩
  · refine jx_iconst (v := 1) C dX1_placeFault_7 (by decide) ?_
    exact jx_iret C dX1_placeFault_8 ⟨by simp [fPl, c4], rfl, rfl, rfl⟩
set_option maxRecDepth 100000 in
set_option maxHeartbeats 4000000 in
theorem c_1_hasPick {l : Launch} {D : va_G} {K : Nat → ClassId} {A : Nat → Nat} {I : TI} {U : TU} {P : TP} {x : Int32} {n : Nat} (hn : I 46 3 = nI n) (h24 : n ≤ 24) : MM l yX1_hasPick cX1_hasPick 2 (some .boolean) 1 D K A (I) (U) (P) [.ref (A 46), .int x] (XE (some (.int (bI (inR (I 46 3) x ∧ ¬ I 48 x.toNatClampNeg = -1)))) I U P) := by
  refine MM.go (own := RX1) (lv0 := [some (.ref (A 46)), some (.int x)]) rfl (by decide) rfl (Nat.le_of_ble_eq_true rfl) rfl ?_
  intro p e s m args below meth c C
  refine jx_aload_n C dX1_hasPick_0 rfl ?_
  refine jx_iload_n C dX1_hasPick_1 rfl ?_
  by_cases hh : inR (I 46 3) x
  · skip
    refine jx_one C (jr_V C (c_1_isPlace) vw_1_29 (by decide) gg_46 rfl rfl ⟨Nat.le_of_ble_eq_true rfl, Nat.le_of_ble_eq_true rfl⟩ ⟨Nat.le_of_ble_eq_true rfl, Nat.le_of_ble_eq_true rfl⟩ dX1_hasPick_2 rfl (Nat.le_of_ble_eq_true rfl)) ?_
    rw [bI_t hh]
    refine jx_if_eqF (tgt := 22) C dX1_hasPick_5 (by decide) (by decide) ?_
    refine jx_aload_n C dX1_hasPick_8 rfl ?_
    refine jx_get C fl_1_15_1 dX1_hasPick_9 (by decide) gg_46 rfl ?_
    refine jx_iload_n C dX1_hasPick_12 rfl ?_
    obtain ⟨j, hj, rfl⟩ := inR_of (by omega) (hn ▸ hh)
    rw [nI_clamp (by omega)]
    refine jx_iald (j) C dX1_hasPick_13 (by decide) gg_48 rfl (by omega) (by decide) ?_
    refine jx_iconst (v := (-1)) C dX1_hasPick_14 (by decide) ?_
    refine jx_ic_eq (tgt := 22) C dX1_hasPick_15 (by decide) (fun c15 => ?_) (fun c15 => ?_)
    · refine jx_iconst (v := 0) C dX1_hasPick_22 (by decide) ?_
      exact jx_zret C dX1_hasPick_23 rfl ⟨by simp [bI, hh, c15], rfl, rfl, rfl⟩
    · refine jx_iconst (v := 1) C dX1_hasPick_18 (by decide) ?_
      refine jx_goto (tgt := 23) C dX1_hasPick_19 (by decide) ?_
      exact jx_zret C dX1_hasPick_23 rfl ⟨by simp [bI, hh, c15], rfl, rfl, rfl⟩
  · skip
    refine jx_one C (jr_V C (c_1_isPlace) vw_1_29 (by decide) gg_46 rfl rfl ⟨Nat.le_of_ble_eq_true rfl, Nat.le_of_ble_eq_true rfl⟩ ⟨Nat.le_of_ble_eq_true rfl, Nat.le_of_ble_eq_true rfl⟩ dX1_hasPick_2 rfl (Nat.le_of_ble_eq_true rfl)) ?_
    rw [bI_f hh]
    refine jx_if_eqT (tgt := 22) C dX1_hasPick_5 (by decide) (by decide) ?_
    refine jx_iconst (v := 0) C dX1_hasPick_22 (by decide) ?_
    exact jx_zret C dX1_hasPick_23 rfl ⟨by simp [bI, hh, ], rfl, rfl, rfl⟩
set_option maxRecDepth 100000 in
set_option maxHeartbeats 4000000 in
theorem c_1_pickFault {l : Launch} {D : va_G} {K : Nat → ClassId} {A : Nat → Nat} {I : TI} {U : TU} {P : TP} {x : Int32} {n : Nat} (hn : I 46 3 = nI n) (h24 : n ≤ 24) : MM l yX1_pickFault cX1_pickFault 3 (some .int) 2 D K A (I) (U) (P) [.ref (A 46), .int x] (XE (some (.int (fPk (I 46 2) (I 46 3) x (I 48 x.toNatClampNeg)))) I U P) := by
  refine MM.go (own := RX1) (lv0 := [some (.ref (A 46)), some (.int x), none]) rfl (by decide) rfl (Nat.le_of_ble_eq_true rfl) rfl ?_
  intro p e s m args below meth c C
  refine jx_aload_n C dX1_pickFault_0 rfl ?_
  refine jx_iload_n C dX1_pickFault_1 rfl ?_
  refine jx_one C (jr_V C (c_1_placeFault) vw_1_33 (by decide) gg_46 rfl rfl ⟨Nat.le_of_ble_eq_true rfl, Nat.le_of_ble_eq_true rfl⟩ ⟨Nat.le_of_ble_eq_true rfl, Nat.le_of_ble_eq_true rfl⟩ dX1_pickFault_2 rfl (Nat.le_of_ble_eq_true rfl)) ?_
  refine jx_istore_n (lv1 := [_, _, _]) C dX1_pickFault_5 (by decide) rfl ?_
  refine jx_iload_n C dX1_pickFault_6 rfl ?_
  by_cases ht : I 46 2 = 0
  · rw [show fPl (I 46 2) (I 46 3) x = 1 by simp [fPl, ht]]
    refine jx_if_neT (tgt := 22) C dX1_pickFault_7 (by decide) (by decide) ?_
    refine jx_iload_n C dX1_pickFault_22 rfl ?_
    exact jx_iret C dX1_pickFault_23 ⟨by simp [fPk, ht], rfl, rfl, rfl⟩
  · by_cases hh : inR (I 46 3) x
    · rw [show fPl (I 46 2) (I 46 3) x = 0 by simp [fPl, ht, hh]]
      refine jx_if_neF (tgt := 22) C dX1_pickFault_7 (by decide) (by decide) ?_
      refine jx_aload_n C dX1_pickFault_10 rfl ?_
      refine jx_iload_n C dX1_pickFault_11 rfl ?_
      by_cases hr : I 48 x.toNatClampNeg = -1
      · skip
        refine jx_one C (jr_V C (c_1_hasPick hn h24) vw_1_37 (by decide) gg_46 rfl rfl ⟨Nat.le_of_ble_eq_true rfl, Nat.le_of_ble_eq_true rfl⟩ ⟨Nat.le_of_ble_eq_true rfl, Nat.le_of_ble_eq_true rfl⟩ dX1_pickFault_12 rfl (Nat.le_of_ble_eq_true rfl)) ?_
        rw [bI_f (fun h => h.2 hr)]
        refine jx_if_neF (tgt := 22) C dX1_pickFault_15 (by decide) (by decide) ?_
        refine jx_iconst (v := 1) C dX1_pickFault_18 (by decide) ?_
        refine jx_goto (tgt := 23) C dX1_pickFault_19 (by decide) ?_
        exact jx_iret C dX1_pickFault_23 ⟨by simp [fPk, ht, hh, hr], rfl, rfl, rfl⟩
      · skip
        refine jx_one C (jr_V C (c_1_hasPick hn h24) vw_1_37 (by decide) gg_46 rfl rfl ⟨Nat.le_of_ble_eq_true rfl, Nat.le_of_ble_eq_true rfl⟩ ⟨Nat.le_of_ble_eq_true rfl, Nat.le_of_ble_eq_true rfl⟩ dX1_pickFault_12 rfl (Nat.le_of_ble_eq_true rfl)) ?_
        rw [bI_t ⟨hh, hr⟩]
        refine jx_if_neT (tgt := 22) C dX1_pickFault_15 (by decide) (by decide) ?_
        refine jx_iload_n C dX1_pickFault_22 rfl ?_
        exact jx_iret C dX1_pickFault_23 ⟨by simp [fPk, ht, hh, hr], rfl, rfl, rfl⟩
    · rw [show fPl (I 46 2) (I 46 3) x = 2 by simp only [fPl, if_neg ht, if_neg hh]]
      refine jx_if_neT (tgt := 22) C dX1_pickFault_7 (by decide) (by decide) ?_
      refine jx_iload_n C dX1_pickFault_22 rfl ?_
      exact jx_iret C dX1_pickFault_23 ⟨by simp only [fPk, if_neg ht, if_neg hh], rfl, rfl, rfl⟩
set_option maxRecDepth 100000 in
set_option maxHeartbeats 4000000 in
theorem c_1_drop {l : Launch} {D : va_G} {K : Nat → ClassId} {A : Nat → Nat} {I : TI} {U : TU} {P : TP} {j n : Nat} (hn : I 46 3 = nI n) (h24 : n ≤ 24) (hj : j < n) : MM l yX1_drop cX1_drop 2 none 1 D K A (I) (U) (P) [.ref (A 46), .int (nI j)] (XE none (up2 I 48 j (-1)) U P) := by
  refine MM.go (own := RX1) (lv0 := [some (.ref (A 46)), some (.int (nI j))]) rfl (by decide) rfl (Nat.le_of_ble_eq_true rfl) rfl ?_
  intro p e s m args below meth c C
  refine jx_aload_n C dX1_drop_0 rfl ?_
  refine jx_iload_n C dX1_drop_1 rfl ?_
  refine jx_one C (jr_V C (c_1_isPlace) vw_1_29 (by decide) gg_46 rfl rfl ⟨Nat.le_of_ble_eq_true rfl, Nat.le_of_ble_eq_true rfl⟩ ⟨Nat.le_of_ble_eq_true rfl, Nat.le_of_ble_eq_true rfl⟩ dX1_drop_2 rfl (Nat.le_of_ble_eq_true rfl)) ?_
  rw [bI_t (hn ▸ inR_nI (by omega) hj)]
  refine jx_if_eqF (tgt := 15) C dX1_drop_5 (by decide) (by decide) ?_
  refine jx_aload_n C dX1_drop_8 rfl ?_
  refine jx_get C fl_1_15_1 dX1_drop_9 (by decide) gg_46 rfl ?_
  refine jx_iload_n C dX1_drop_12 rfl ?_
  refine jx_iconst (v := (-1)) C dX1_drop_13 (by decide) ?_
  refine jx_iastI (j) C dX1_drop_14 (by decide) (fun _ => gg_48) rfl (by omega) (by decide) ?_
  exact jx_vret C dX1_drop_15 ⟨rfl, rfl, rfl, rfl⟩
set_option maxRecDepth 100000 in
set_option maxHeartbeats 4000000 in
theorem c_1_join {l : Launch} {D : va_G} {K : Nat → ClassId} {A : Nat → Nat} {I : TI} {U : TU} {P : TP} {j q n : Nat} (hn : I 46 3 = nI n) (h24 : n ≤ 24) (hj : j < n) (hq : q < n) : MM l yX1_join cX1_join 3 none 1 D K A (I) (U) (P) [.ref (A 46), .int (nI j), .int (nI q)] (XE none (up2 I 48 j (I 48 q)) U P) := by
  refine MM.go (own := RX1) (lv0 := [some (.ref (A 46)), some (.int (nI j)), some (.int (nI q))]) rfl (by decide) rfl (Nat.le_of_ble_eq_true rfl) rfl ?_
  intro p e s m args below meth c C
  refine jx_aload_n C dX1_join_0 rfl ?_
  refine jx_iload_n C dX1_join_1 rfl ?_
  refine jx_one C (jr_V C (c_1_isPlace) vw_1_29 (by decide) gg_46 rfl rfl ⟨Nat.le_of_ble_eq_true rfl, Nat.le_of_ble_eq_true rfl⟩ ⟨Nat.le_of_ble_eq_true rfl, Nat.le_of_ble_eq_true rfl⟩ dX1_join_2 rfl (Nat.le_of_ble_eq_true rfl)) ?_
  rw [bI_t (hn ▸ inR_nI (by omega) hj)]
  refine jx_if_eqF (tgt := 28) C dX1_join_5 (by decide) (by decide) ?_
  refine jx_aload_n C dX1_join_8 rfl ?_
  refine jx_iload_n C dX1_join_9 rfl ?_
  refine jx_one C (jr_V C (c_1_isPlace) vw_1_29 (by decide) gg_46 rfl rfl ⟨Nat.le_of_ble_eq_true rfl, Nat.le_of_ble_eq_true rfl⟩ ⟨Nat.le_of_ble_eq_true rfl, Nat.le_of_ble_eq_true rfl⟩ dX1_join_10 rfl (Nat.le_of_ble_eq_true rfl)) ?_
  rw [bI_t (hn ▸ inR_nI (by omega) hq)]
  refine jx_if_eqF (tgt := 28) C dX1_join_13 (by decide) (by decide) ?_
  refine jx_aload_n C dX1_join_16 rfl ?_
  refine jx_get C fl_1_15_1 dX1_join_17 (by decide) gg_46 rfl ?_
  refine jx_iload_n C dX1_join_20 rfl ?_
  refine jx_aload_n C dX1_join_21 rfl ?_
  refine jx_get C fl_1_15_1 dX1_join_22 (by decide) gg_46 rfl ?_
  refine jx_iload_n C dX1_join_25 rfl ?_
  refine jx_iald (q) C dX1_join_26 (by decide) gg_48 rfl (by omega) (by decide) ?_
  refine jx_iastI (j) C dX1_join_27 (by decide) (fun _ => gg_48) rfl (by omega) (by decide) ?_
  exact jx_vret C dX1_join_28 ⟨rfl, rfl, rfl, rfl⟩
theorem nI_m1 {r : Nat} (h : r < 2 ^ 31) : ¬ nI r = -1 := fun q => nI_pos h (by rw [q]; decide)
theorem ix24 {r u : Nat} : nI r * 24 + nI u = nI (24 * r + u) := by
  rw [show (24 : Int32) = nI 24 from rfl, pk_mul, nI_add, Nat.mul_comm]
set_option maxRecDepth 100000 in
set_option maxHeartbeats 4000000 in
theorem c_1_get {l : Launch} {D : va_G} {K : Nat → ClassId} {A : Nat → Nat} {I : TI} {U : TU} {P : TP} {j u r n w : Nat} (hn : I 46 3 = nI n) (h24 : n ≤ 24) (hj : j < n) (hr : I 48 j = nI r) (hr24 : r < 24) (hw : I 46 4 = nI w) (hw24 : w ≤ 24) (hu : u < w) : MM l yX1_get cX1_get 3 (some .int) 2 D K A (I) (U) (P) [.ref (A 46), .int (nI j), .int (nI u)] (XE (some (.int (I 47 (24 * r + u)))) I U P) := by
  refine MM.go (own := RX1) (lv0 := [some (.ref (A 46)), some (.int (nI j)), some (.int (nI u))]) rfl (by decide) rfl (Nat.le_of_ble_eq_true rfl) rfl ?_
  intro p e s m args below meth c C
  refine jx_aload_n C dX1_get_0 rfl ?_
  refine jx_iload_n C dX1_get_1 rfl ?_
  refine jx_one C (jr_V C (c_1_hasPick hn h24) vw_1_37 (by decide) gg_46 rfl rfl ⟨Nat.le_of_ble_eq_true rfl, Nat.le_of_ble_eq_true rfl⟩ ⟨Nat.le_of_ble_eq_true rfl, Nat.le_of_ble_eq_true rfl⟩ dX1_get_2 rfl (Nat.le_of_ble_eq_true rfl)) ?_
  rw [bI_t ⟨hn ▸ inR_nI (by omega) hj, by rw [nI_clamp (by omega), hr]; exact nI_m1 (by omega)⟩]
  refine jx_if_eqF (tgt := 35) C dX1_get_5 (by decide) (by decide) ?_
  refine jx_aload_n C dX1_get_8 rfl ?_
  refine jx_iload_n C dX1_get_9 rfl ?_
  refine jx_one C (jr_V C (c_1_hasCell) vw_1_40 (by decide) gg_46 rfl rfl ⟨Nat.le_of_ble_eq_true rfl, Nat.le_of_ble_eq_true rfl⟩ ⟨Nat.le_of_ble_eq_true rfl, Nat.le_of_ble_eq_true rfl⟩ dX1_get_10 rfl (Nat.le_of_ble_eq_true rfl)) ?_
  rw [bI_t (hw ▸ inR_nI (by omega) hu)]
  refine jx_if_eqF (tgt := 35) C dX1_get_13 (by decide) (by decide) ?_
  refine jx_aload_n C dX1_get_16 rfl ?_
  refine jx_get C fl_1_9_1 dX1_get_17 (by decide) gg_46 rfl ?_
  refine jx_aload_n C dX1_get_20 rfl ?_
  refine jx_get C fl_1_15_1 dX1_get_21 (by decide) gg_46 rfl ?_
  refine jx_iload_n C dX1_get_24 rfl ?_
  refine jx_iald (j) C dX1_get_25 (by decide) gg_48 rfl (by omega) (by decide) ?_
  refine jx_bipush (v := 24) C dX1_get_26 (by decide) ?_
  rw [hr]
  refine jx_imul C dX1_get_28 ?_
  refine jx_iload_n C dX1_get_29 rfl ?_
  refine jx_iadd C dX1_get_30 ?_
  refine jx_iald (24 * r + u) C dX1_get_31 (by decide) gg_47 ix24 (by omega) (by decide) ?_
  refine jx_goto (tgt := 36) C dX1_get_32 (by decide) ?_
  exact jx_iret C dX1_get_36 ⟨rfl, rfl, rfl, rfl⟩
set_option maxRecDepth 100000 in
set_option maxHeartbeats 4000000 in
theorem c_1_set {l : Launch} {D : va_G} {K : Nat → ClassId} {A : Nat → Nat} {I : TI} {U : TU} {P : TP} {v : Int32} {j u r n w : Nat} (hn : I 46 3 = nI n) (h24 : n ≤ 24) (hj : j < n) (hr : I 48 j = nI r) (hr24 : r < 24) (hw : I 46 4 = nI w) (hw24 : w ≤ 24) (hu : u < w) : MM l yX1_set cX1_set 4 none 2 D K A (I) (U) (P) [.ref (A 46), .int (nI j), .int (nI u), .int v] (XE none (up2 I 47 (24 * r + u) v) U P) := by
  refine MM.go (own := RX1) (lv0 := [some (.ref (A 46)), some (.int (nI j)), some (.int (nI u)), some (.int v)]) rfl (by decide) rfl (Nat.le_of_ble_eq_true rfl) rfl ?_
  intro p e s m args below meth c C
  refine jx_aload_n C dX1_set_0 rfl ?_
  refine jx_iload_n C dX1_set_1 rfl ?_
  refine jx_one C (jr_V C (c_1_hasPick hn h24) vw_1_37 (by decide) gg_46 rfl rfl ⟨Nat.le_of_ble_eq_true rfl, Nat.le_of_ble_eq_true rfl⟩ ⟨Nat.le_of_ble_eq_true rfl, Nat.le_of_ble_eq_true rfl⟩ dX1_set_2 rfl (Nat.le_of_ble_eq_true rfl)) ?_
  rw [bI_t ⟨hn ▸ inR_nI (by omega) hj, by rw [nI_clamp (by omega), hr]; exact nI_m1 (by omega)⟩]
  refine jx_if_eqF (tgt := 33) C dX1_set_5 (by decide) (by decide) ?_
  refine jx_aload_n C dX1_set_8 rfl ?_
  refine jx_iload_n C dX1_set_9 rfl ?_
  refine jx_one C (jr_V C (c_1_hasCell) vw_1_40 (by decide) gg_46 rfl rfl ⟨Nat.le_of_ble_eq_true rfl, Nat.le_of_ble_eq_true rfl⟩ ⟨Nat.le_of_ble_eq_true rfl, Nat.le_of_ble_eq_true rfl⟩ dX1_set_10 rfl (Nat.le_of_ble_eq_true rfl)) ?_
  rw [bI_t (hw ▸ inR_nI (by omega) hu)]
  refine jx_if_eqF (tgt := 33) C dX1_set_13 (by decide) (by decide) ?_
  refine jx_aload_n C dX1_set_16 rfl ?_
  refine jx_get C fl_1_9_1 dX1_set_17 (by decide) gg_46 rfl ?_
  refine jx_aload_n C dX1_set_20 rfl ?_
  refine jx_get C fl_1_15_1 dX1_set_21 (by decide) gg_46 rfl ?_
  refine jx_iload_n C dX1_set_24 rfl ?_
  refine jx_iald (j) C dX1_set_25 (by decide) gg_48 rfl (by omega) (by decide) ?_
  refine jx_bipush (v := 24) C dX1_set_26 (by decide) ?_
  rw [hr]
  refine jx_imul C dX1_set_28 ?_
  refine jx_iload_n C dX1_set_29 rfl ?_
  refine jx_iadd C dX1_set_30 ?_
  refine jx_iload_n C dX1_set_31 rfl ?_
  refine jx_iastI (24 * r + u) C dX1_set_32 (by decide) (fun _ => gg_47) ix24 (by omega) (by decide) ?_
  exact jx_vret C dX1_set_33 ⟨rfl, rfl, rfl, rfl⟩
set_option maxRecDepth 100000 in
set_option maxHeartbeats 4000000 in
theorem c_2_count {l : Launch} {D : va_G} {K : Nat → ClassId} {A : Nat → Nat} {I : TI} {U : TU} {P : TP}  : MM l yX2_count cX2_count 1 (some .int) 0 D K A (I) (U) (P) [.ref (A 49)] (XE (some (.int (I 49 1))) I U P) := by
  refine MM.go (own := RX2) (lv0 := [some (.ref (A 49))]) rfl (by decide) rfl (Nat.le_of_ble_eq_true rfl) rfl ?_
  intro p e s m args below meth c C
  refine jx_aload_n C dX2_count_0 rfl ?_
  refine jx_get C fl_2_17_2 dX2_count_1 (by decide) gg_49 rfl ?_
  exact jx_iret C dX2_count_4 ⟨rfl, rfl, rfl, rfl⟩
set_option maxRecDepth 100000 in
set_option maxHeartbeats 4000000 in
theorem c_2_isFull {l : Launch} {D : va_G} {K : Nat → ClassId} {A : Nat → Nat} {I : TI} {U : TU} {P : TP}  : MM l yX2_isFull cX2_isFull 1 (some .boolean) 0 D K A (I) (U) (P) [.ref (A 49)] (XE (some (.int (bI (I 49 1 = 12)))) I U P) := by
  refine MM.go (own := RX2) (lv0 := [some (.ref (A 49))]) rfl (by decide) rfl (Nat.le_of_ble_eq_true rfl) rfl ?_
  intro p e s m args below meth c C
  refine jx_aload_n C dX2_isFull_0 rfl ?_
  refine jx_get C fl_2_17_2 dX2_isFull_1 (by decide) gg_49 rfl ?_
  refine jx_bipush (v := 12) C dX2_isFull_4 (by decide) ?_
  refine jx_ic_ne (tgt := 13) C dX2_isFull_6 (by decide) (fun c6 => ?_) (fun c6 => ?_)
  · refine jx_iconst (v := 0) C dX2_isFull_13 (by decide) ?_
    exact jx_zret C dX2_isFull_14 rfl ⟨by simp [bI, c6], rfl, rfl, rfl⟩
  · refine jx_iconst (v := 1) C dX2_isFull_9 (by decide) ?_
    refine jx_goto (tgt := 14) C dX2_isFull_10 (by decide) ?_
    exact jx_zret C dX2_isFull_14 rfl ⟨by simp [bI, c6], rfl, rfl, rfl⟩
set_option maxRecDepth 100000 in
set_option maxHeartbeats 4000000 in
theorem c_2_clear {l : Launch} {D : va_G} {K : Nat → ClassId} {A : Nat → Nat} {I : TI} {U : TU} {P : TP}  : MM l yX2_clear cX2_clear 1 none 0 D K A (I) (U) (P) [.ref (A 49)] (XE none (up2 I 49 1 0) U P) := by
  refine MM.go (own := RX2) (lv0 := [some (.ref (A 49))]) rfl (by decide) rfl (Nat.le_of_ble_eq_true rfl) rfl ?_
  intro p e s m args below meth c C
  refine jx_aload_n C dX2_clear_0 rfl ?_
  refine jx_iconst (v := 0) C dX2_clear_1 (by decide) ?_
  refine jx_putI C fp_2_17_2 dX2_clear_2 (by decide) gg_49 (Nat.le_of_ble_eq_true rfl) rfl ?_
  exact jx_vret C dX2_clear_5 ⟨rfl, rfl, rfl, rfl⟩
set_option maxRecDepth 100000 in
set_option maxHeartbeats 4000000 in
theorem c_2_add {l : Launch} {D : va_G} {K : Nat → ClassId} {A : Nat → Nat} {I : TI} {U : TU} {P : TP} {x0 x1 x2 x3 x4 : Int32} {co : Nat} (hco : I 49 1 = nI co) (h12 : co < 12) : MM l yX2_add cX2_add 7 none 1 D K A (I) (U) (P) [.ref (A 49), .int x0, .int x1, .int x2, .int x3, .int x4] (XE none (up2 (up2 (up2 (up2 (up2 (up2 I (51 + co) 0 x0) (51 + co) 1 x1) (51 + co) 2 x2) (51 + co) 3 x3) (51 + co) 4 x4) 49 1 (nI (co + 1))) U P) := by
  have hne : ¬ I 49 1 = 12 := by rw [hco, show (12 : Int32) = nI 12 from rfl, nI_eq (by omega) (by decide)]; omega
  refine MM.go (own := RX2) (lv0 := [some (.ref (A 49)), some (.int x0), some (.int x1), some (.int x2), some (.int x3), some (.int x4), none]) rfl (by decide) rfl (Nat.le_of_ble_eq_true rfl) rfl ?_
  intro p e s m args below meth c C
  refine jx_aload_n C dX2_add_0 rfl ?_
  refine jx_one C (jr_V C (c_2_isFull) vw_2_22 (by decide) gg_49 rfl rfl ⟨Nat.le_of_ble_eq_true rfl, Nat.le_of_ble_eq_true rfl⟩ ⟨Nat.le_of_ble_eq_true rfl, Nat.le_of_ble_eq_true rfl⟩ dX2_add_1 rfl (Nat.le_of_ble_eq_true rfl)) ?_
  rw [bI_f hne]
  refine jx_if_eqT (tgt := 8) C dX2_add_4 (by decide) (by decide) ?_
  refine jx_aload_n C dX2_add_8 rfl ?_
  refine jx_get C fl_2_11_2 dX2_add_9 (by decide) gg_49 rfl ?_
  refine jx_aload_n C dX2_add_12 rfl ?_
  refine jx_get C fl_2_17_2 dX2_add_13 (by decide) gg_49 rfl ?_
  refine jx_aald4 (co) C dX2_add_16 (by decide) gg_50 hco h12 (by decide) ?_
  refine jx_astore (lv1 := [_, _, _, _, _, _, _]) C dX2_add_17 (by decide) rfl ?_
  refine jx_aload C dX2_add_19 rfl ?_
  refine jx_iload_n C dX2_add_21 rfl ?_
  refine jx_putI C fp_2_26_0 dX2_add_22 (by omega) (gg_cd h12) (Nat.le_of_ble_eq_true rfl) (by rw [gg_cd h12]; simp [up2]) ?_
  refine jx_aload C dX2_add_25 rfl ?_
  refine jx_iload_n C dX2_add_27 rfl ?_
  refine jx_putI C fp_2_29_0 dX2_add_28 (by omega) (gg_cd h12) (Nat.le_of_ble_eq_true rfl) (by rw [gg_cd h12]; simp [up2]) ?_
  refine jx_aload C dX2_add_31 rfl ?_
  refine jx_iload_n C dX2_add_33 rfl ?_
  refine jx_putI C fp_2_32_0 dX2_add_34 (by omega) (gg_cd h12) (Nat.le_of_ble_eq_true rfl) (by rw [gg_cd h12]; simp [up2]) ?_
  refine jx_aload C dX2_add_37 rfl ?_
  refine jx_iload C dX2_add_39 rfl ?_
  refine jx_putI C fp_2_35_0 dX2_add_41 (by omega) (gg_cd h12) (Nat.le_of_ble_eq_true rfl) (by rw [gg_cd h12]; simp [up2]) ?_
  refine jx_aload C dX2_add_44 rfl ?_
  refine jx_iload C dX2_add_46 rfl ?_
  refine jx_putI C fp_2_38_0 dX2_add_48 (by omega) (gg_cd h12) (Nat.le_of_ble_eq_true rfl) (by rw [gg_cd h12]; simp [up2]) ?_
  refine jx_aload_n C dX2_add_51 rfl ?_
  refine jx_dup C dX2_add_52 rfl ?_
  refine jx_get C fl_2_17_2 dX2_add_53 (by decide) gg_49 rfl ?_
  refine jx_iconst (v := 1) C dX2_add_56 (by decide) ?_
  refine jx_iadd C dX2_add_57 ?_
  rw [up2_ne (by omega), up2_ne (by omega), up2_ne (by omega), up2_ne (by omega), up2_ne (by omega), hco, nI_1]
  refine jx_putI C fp_2_17_2 dX2_add_58 (by decide) gg_49 (Nat.le_of_ble_eq_true rfl) rfl ?_
  exact jx_vret C dX2_add_61 ⟨rfl, rfl, rfl, rfl⟩
set_option maxRecDepth 100000 in
set_option maxHeartbeats 4000000 in
theorem c_2_at {l : Launch} {D : va_G} {K : Nat → ClassId} {A : Nat → Nat} {I : TI} {U : TU} {P : TP} {j : Nat} (hj : j < 12) : MM l yX2_at cX2_at 2 (some (.object "HandLoom$Card")) 0 D K A (I) (U) (P) [.ref (A 49), .int (nI j)] (XE (some (.ref (A (51 + j)))) I U P) := by
  refine MM.go (own := RX2) (lv0 := [some (.ref (A 49)), some (.int (nI j))]) rfl (by decide) rfl (Nat.le_of_ble_eq_true rfl) rfl ?_
  intro p e s m args below meth c C
  refine jx_aload_n C dX2_at_0 rfl ?_
  refine jx_get C fl_2_11_2 dX2_at_1 (by decide) gg_49 rfl ?_
  refine jx_iload_n C dX2_at_4 rfl ?_
  refine jx_aald4 (j) C dX2_at_5 (by decide) gg_50 rfl hj (by decide) ?_
  exact jx_aret C dX2_at_6 (Or.inr ⟨_, rfl⟩) ⟨rfl, rfl, rfl, rfl⟩
/-- the cloth made anew: n picks of w cells -/
def rnw (I : TI) (n w : Nat) : TI := fun a b => if a = 46 ∧ b = 2 then 1 else if a = 46 ∧ b = 3 then nI n else if a = 46 ∧ b = 4 then nI w else if a = 48 ∧ b < n then nI b else if a = 47 ∧ b / 24 < n ∧ b % 24 < w then 0 else I a b
def rnC (I : TI) (q u : Nat) : TI := fun a b => if a = 47 ∧ 24 * q ≤ b ∧ b < 24 * q + u then 0 else I a b
def rnR (I : TI) (n w q : Nat) : TI := fun a b => if a = 46 ∧ b = 2 then 1 else if a = 46 ∧ b = 3 then nI n else if a = 46 ∧ b = 4 then nI w else if a = 48 ∧ b < q then nI b else if a = 47 ∧ b / 24 < q ∧ b % 24 < w then 0 else I a b
set_option maxRecDepth 100000 in
set_option maxHeartbeats 4000000 in
theorem lp_1_renew_in {p : Program} {l : Launch} {e : Env} {R : Room} {s : State} {m : MethodId} {args : Array Value} {below : List Frame} {meth : Method} {c : Code} {D : va_G} {K : Nat → ClassId} {A : Nat → Nat} {Ax : Nat → Prop} {Q : State → Prop} {U : TU} {P : TP} {I : TI} {n w q : Nat} (C : CX p s m args meth c RX1 cX1_renew 5 none D K Ax) (hw : w ≤ 24) (hq : q < 24) (hk : GJ p l e R s m args below meth c 5 D Ax Q 75 A (gg A K (rnC I q w) (U) (P)) 0 0 78 [some (.ref (A 46)), some (.int (nI n)), some (.int (nI w)), some (.int (nI q)), some (.int (nI w))] []) : ∀ k u : Nat, u + k = w → GJ p l e R s m args below meth c 5 D Ax Q 75 A (gg A K (rnC I q u) (U) (P)) 0 0 53 [some (.ref (A 46)), some (.int (nI n)), some (.int (nI w)), some (.int (nI q)), some (.int (nI u))] [] := by
  intro k
  induction k with
  | zero =>
    intro u hu
    obtain rfl : u = w := by omega
    refine jx_iload C dX1_renew_53 rfl ?_
    refine jx_iload_n C dX1_renew_55 rfl ?_
    refine jx_ic_geT (tgt := 78) C dX1_renew_56 (by decide) (nI_le (Nat.le_refl _) (by omega)) ?_
    exact hk
  | succ k ih =>
    intro u hu
    have hI : up2 (rnC I q u) 47 (24 * q + u) 0 = rnC I q (u + 1) := by
      funext a b
      simp only [up2, rnC]
      split <;> split <;> first | rfl | omega | (split <;> first | rfl | omega)
    refine jx_iload C dX1_renew_53 rfl ?_
    refine jx_iload_n C dX1_renew_55 rfl ?_
    refine jx_ic_geF (tgt := 78) C dX1_renew_56 (nI_ge (by omega) (by omega)) (by decide) ?_
    refine jx_aload_n C dX1_renew_59 rfl ?_
    refine jx_get C fl_1_9_1 dX1_renew_60 (by decide) gg_46 rfl ?_
    refine jx_iload_n C dX1_renew_63 rfl ?_
    refine jx_bipush (v := 24) C dX1_renew_64 (by decide) ?_
    refine jx_imul C dX1_renew_66 ?_
    refine jx_iload C dX1_renew_67 rfl ?_
    refine jx_iadd C dX1_renew_69 ?_
    refine jx_iconst (v := 0) C dX1_renew_70 (by decide) ?_
    refine jx_iastI (24 * q + u) C dX1_renew_71 (by decide) (fun _ => gg_47) ix24 (by omega) (by decide) ?_
    rw [hI]
    refine jx_iinc (lv1 := [_, _, _, _, _]) C dX1_renew_72 rfl (nI_1 u) rfl ?_
    refine jx_goto (tgt := 53) C dX1_renew_75 (by decide) ?_
    exact ih (u + 1) (by omega)
set_option maxRecDepth 100000 in
set_option maxHeartbeats 4000000 in
theorem lp_1_renew {p : Program} {l : Launch} {e : Env} {R : Room} {s : State} {m : MethodId} {args : Array Value} {below : List Frame} {meth : Method} {c : Code} {D : va_G} {K : Nat → ClassId} {A : Nat → Nat} {Ax : Nat → Prop} {Q : State → Prop} {U : TU} {P : TP} {I : TI} {n w : Nat} (C : CX p s m args meth c RX1 cX1_renew 5 none D K Ax) (hn : n ≤ 24) (hw : w ≤ 24) (hk : ∀ z : Option Value, GJ p l e R s m args below meth c 5 D Ax Q 75 A (gg A K (rnw I n w) (U) (P)) 0 0 84 [some (.ref (A 46)), some (.int (nI n)), some (.int (nI w)), some (.int (nI n)), z] []) : ∀ k q : Nat, q + k = n → ∀ z : Option Value, GJ p l e R s m args below meth c 5 D Ax Q 75 A (gg A K (rnR I n w q) (U) (P)) 0 0 38 [some (.ref (A 46)), some (.int (nI n)), some (.int (nI w)), some (.int (nI q)), z] [] := by
  intro k
  induction k with
  | zero =>
    intro q hq z
    obtain rfl : q = n := by omega
    refine jx_iload_n C dX1_renew_38 rfl ?_
    refine jx_iload_n C dX1_renew_39 rfl ?_
    refine jx_ic_geT (tgt := 84) C dX1_renew_40 (by decide) (nI_le (Nat.le_refl _) (by omega)) ?_
    exact hk z
  | succ k ih =>
    intro q hq z
    have hI : rnC (up2 (rnR I n w q) 48 q (nI q)) q w = rnR I n w (q + 1) := by
      funext a b
      by_cases h46 : a = 46
      · subst h46; simp [rnC, up2, rnR]
      by_cases h48 : a = 48
      · subst h48; simp only [rnC, up2, rnR]
        by_cases hb : b = q
        · subst hb; simp
        · by_cases hb2 : b < q
          · simp [hb, hb2, show b < q + 1 by omega]
          · simp [hb, hb2, show ¬ b < q + 1 by omega]
      by_cases h47 : a = 47
      · subst h47; simp only [rnC, up2, rnR]
        by_cases hb : 24 * q ≤ b ∧ b < 24 * q + w
        · have h1 : b / 24 < q + 1 ∧ b % 24 < w := by omega
          simp [hb, h1]
        · have h1 : (b / 24 < q + 1 ∧ b % 24 < w) ↔ (b / 24 < q ∧ b % 24 < w) := by omega
          simp [hb, h1]
      simp [rnC, up2, rnR, h46, h47, h48]
    have hI0 : rnC (up2 (rnR I n w q) 48 q (nI q)) q 0 = up2 (rnR I n w q) 48 q (nI q) := by
      funext a b
      simp only [rnC]
      rw [if_neg (by omega)]
    refine jx_iload_n C dX1_renew_38 rfl ?_
    refine jx_iload_n C dX1_renew_39 rfl ?_
    refine jx_ic_geF (tgt := 84) C dX1_renew_40 (nI_ge (by omega) (by omega)) (by decide) ?_
    refine jx_aload_n C dX1_renew_43 rfl ?_
    refine jx_get C fl_1_15_1 dX1_renew_44 (by decide) gg_46 rfl ?_
    refine jx_iload_n C dX1_renew_47 rfl ?_
    refine jx_iload_n C dX1_renew_48 rfl ?_
    refine jx_iastI (q) C dX1_renew_49 (by decide) (fun _ => gg_48) rfl (by omega) (by decide) ?_
    refine jx_iconst (v := 0) C dX1_renew_50 (by decide) ?_
    refine jx_istore (lv1 := [_, _, _, _, _]) C dX1_renew_51 (by decide) rfl ?_
    rw [← hI0]
    refine lp_1_renew_in C hw (by omega) ?_ w 0 (by omega)
    rw [hI]
    refine jx_iinc (lv1 := [_, _, _, _, _]) C dX1_renew_78 rfl (nI_1 q) rfl ?_
    refine jx_goto (tgt := 38) C dX1_renew_81 (by decide) ?_
    exact ih (q + 1) (by omega) _
set_option maxRecDepth 100000 in
set_option maxHeartbeats 4000000 in
theorem c_1_renew {l : Launch} {D : va_G} {K : Nat → ClassId} {A : Nat → Nat} {I : TI} {U : TU} {P : TP} {n w : Nat} (hn : n ≤ 24) (hw : w ≤ 24) : MM l yX1_renew cX1_renew 5 none 0 D K A (I) (U) (P) [.ref (A 46), .int (nI n), .int (nI w)] (XE none (rnw I n w) U P) := by
  have hI : up2 (up2 (up2 I 46 2 1) 46 3 (nI n)) 46 4 (nI w) = rnR I n w 0 := by
    funext a b
    by_cases h46 : a = 46
    · subst h46
      by_cases h2 : b = 2
      · subst h2; simp [up2, rnR]
      · by_cases h3 : b = 3
        · subst h3; simp [up2, rnR]
        · by_cases h4 : b = 4
          · subst h4; simp [up2, rnR]
          · simp [up2, rnR, h2, h3, h4]
    · simp [up2, rnR, h46]
  refine MM.go (own := RX1) (lv0 := [some (.ref (A 46)), some (.int (nI n)), some (.int (nI w)), none, none]) rfl (by decide) rfl (Nat.le_of_ble_eq_true rfl) rfl ?_
  intro p e s m args below meth c C
  refine jx_iload_n C dX1_renew_0 rfl ?_
  refine jx_if_ltF (tgt := 20) C dX1_renew_1 (nI_pos (by omega)) (by decide) ?_
  refine jx_iload_n C dX1_renew_4 rfl ?_
  refine jx_bipush (v := 24) C dX1_renew_5 (by decide) ?_
  refine jx_ic_gtF (tgt := 20) C dX1_renew_7 (nI_nlt (a := 24) (b := n) (by omega) (by decide)) (by decide) ?_
  refine jx_iload_n C dX1_renew_10 rfl ?_
  refine jx_if_ltF (tgt := 20) C dX1_renew_11 (nI_pos (by omega)) (by decide) ?_
  refine jx_iload_n C dX1_renew_14 rfl ?_
  refine jx_bipush (v := 24) C dX1_renew_15 (by decide) ?_
  refine jx_ic_leT (tgt := 21) C dX1_renew_17 (by decide) (nI_le (b := 24) hw (by decide)) ?_
  refine jx_aload_n C dX1_renew_21 rfl ?_
  refine jx_iconst (v := 1) C dX1_renew_22 (by decide) ?_
  refine jx_putZ C fp_1_18_1 dX1_renew_23 rfl rfl (by decide) gg_46 (Nat.le_of_ble_eq_true rfl) rfl ?_
  refine jx_aload_n C dX1_renew_26 rfl ?_
  refine jx_iload_n C dX1_renew_27 rfl ?_
  refine jx_putI C fp_1_22_1 dX1_renew_28 (by decide) gg_46 (Nat.le_of_ble_eq_true rfl) rfl ?_
  refine jx_aload_n C dX1_renew_31 rfl ?_
  refine jx_iload_n C dX1_renew_32 rfl ?_
  refine jx_putI C fp_1_26_1 dX1_renew_33 (by decide) gg_46 (Nat.le_of_ble_eq_true rfl) rfl ?_
  refine jx_iconst (v := 0) C dX1_renew_36 (by decide) ?_
  refine jx_istore_n (lv1 := [_, _, _, _, _]) C dX1_renew_37 (by decide) rfl ?_
  rw [hI]
  refine lp_1_renew C hn hw (fun z => ?_) n 0 (by omega) none
  exact jx_vret C dX1_renew_84 ⟨rfl, rfl, rfl, rfl⟩
