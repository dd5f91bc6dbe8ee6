/-! HandLoom's own inner methods -/
/-- is a fault one that ends a run: pa: the keeper's mask -/
abbrev endsBy (pa f : Int32) : Prop := ¬ f = 0 ∧ (pa >>> (f &&& 31) &&& 1) = 0
theorem okE_I {I : TI} {U : TU} {k n a b : Nat} {v : Int32} (h : okE I U k n) (ha : ¬ a = 5 + 2 * k) : okE (up2 I a b v) U k n := by
  unfold okE at *
  rw [up2_ne (by omega)]
  exact h
set_option maxRecDepth 100000 in
set_option maxHeartbeats 4000000 in
theorem c_10_isEndedBy {l : Launch} {D : va_G} {K : Nat → ClassId} {A : Nat → Nat} {I : TI} {U : TU} {P : TP} {f : Int32} : MM l yX10_isEndedBy cX10_isEndedBy 2 (some .boolean) 0 D K A (I) (U) (P) [.ref (A 0), .int f] (XE (some (.int (bI (endsBy (I 0 5) f)))) I U P) := by
  refine MM.go (own := RX10) (lv0 := [some (.ref (A 0)), some (.int f)]) rfl (by decide) rfl (Nat.le_of_ble_eq_true rfl) rfl ?_
  intro p e s m args below meth c C
  refine jx_iload_n C dX10_isEndedBy_0 rfl ?_
  refine jx_if_eq (tgt := 19) C dX10_isEndedBy_1 (by decide) (fun c1 => ?_) (fun c1 => ?_)
  · refine jx_iconst (v := 0) C dX10_isEndedBy_19 (by decide) ?_
    exact jx_zret C dX10_isEndedBy_20 rfl ⟨by simp [bI, endsBy, c1], rfl, rfl, rfl⟩
  · refine jx_aload_n C dX10_isEndedBy_4 rfl ?_
    refine jx_get C fl_10_44_9 dX10_isEndedBy_5 (by decide) gg_0 rfl ?_
    refine jx_iload_n C dX10_isEndedBy_8 rfl ?_
    refine jx_ishr C dX10_isEndedBy_9 ?_
    refine jx_iconst (v := 1) C dX10_isEndedBy_10 (by decide) ?_
    refine jx_iand C dX10_isEndedBy_11 ?_
    refine jx_if_ne (tgt := 19) C dX10_isEndedBy_12 (by decide) (fun c12 => ?_) (fun c12 => ?_)
    · refine jx_iconst (v := 0) C dX10_isEndedBy_19 (by decide) ?_
      exact jx_zret C dX10_isEndedBy_20 rfl ⟨by simp [bI, endsBy, c1, c12], rfl, rfl, rfl⟩
    · refine jx_iconst (v := 1) C dX10_isEndedBy_15 (by decide) ?_
      refine jx_goto (tgt := 20) C dX10_isEndedBy_16 (by decide) ?_
      exact jx_zret C dX10_isEndedBy_20 rfl ⟨by simp [bI, endsBy, c1, c12], rfl, rfl, rfl⟩
set_option maxRecDepth 100000 in
set_option maxHeartbeats 4000000 in
theorem c_10_faultAtEndN {l : Launch} {D : va_G} {K : Nat → ClassId} {A : Nat → Nat} {I : TI} {U : TU} {P : TP}  : MM l yX10_faultAtEnd cX10_faultAtEnd 1 (some .int) 0 D K A (I) (U) (P) [.null] (XE (some (.int 1)) I U P) := by
  refine MM.go (own := RX10) (lv0 := [some (.null)]) rfl (by decide) rfl (Nat.le_of_ble_eq_true rfl) rfl ?_
  intro p e s m args below meth c C
  refine jx_aload_nN C dX10_faultAtEnd_0 rfl ?_
  refine jx_ifnonnullN C dX10_faultAtEnd_1 ?_
  refine jx_iconst (v := 1) C dX10_faultAtEnd_4 (by decide) ?_
  refine jx_goto (tgt := 9) C dX10_faultAtEnd_5 (by decide) ?_
  exact jx_iret C dX10_faultAtEnd_9 ⟨rfl, rfl, rfl, rfl⟩
set_option maxRecDepth 100000 in
set_option maxHeartbeats 4000000 in
theorem c_10_faultAtEnd {l : Launch} {D : va_G} {K : Nat → ClassId} {A : Nat → Nat} {I : TI} {U : TU} {P : TP} {x : Nat} : MM l yX10_faultAtEnd cX10_faultAtEnd 1 (some .int) 0 D K A (I) (U) (P) [.ref x] (XE (some (.int 2)) I U P) := by
  refine MM.go (own := RX10) (lv0 := [some (.ref x)]) rfl (by decide) rfl (Nat.le_of_ble_eq_true rfl) rfl ?_
  intro p e s m args below meth c C
  refine jx_aload_n C dX10_faultAtEnd_0 rfl ?_
  refine jx_ifnonnull (tgt := 8) C dX10_faultAtEnd_1 (by decide) ?_
  refine jx_iconst (v := 2) C dX10_faultAtEnd_8 (by decide) ?_
  exact jx_iret C dX10_faultAtEnd_9 ⟨rfl, rfl, rfl, rfl⟩
set_option maxRecDepth 100000 in
set_option maxHeartbeats 4000000 in
theorem c_10_change0 {l : Launch} {D : va_G} {K : Nat → ClassId} {A : Nat → Nat} {I : TI} {U : TU} {P : TP} {k n : Nat} {v : Int32} (hk : k < 20) (hn : n < 24) : MM l yX10_change cX10_change 5 (some .int) 2 D K A (I) (U) (P) [.ref (A 0), .int 0, .ref (A (4 + 2 * k)), .int (nI n), .int v] (XE (some (.int 0)) I U P) := by
  refine MM.go (own := RX10) (lv0 := [some (.ref (A 0)), some (.int 0), some (.ref (A (4 + 2 * k))), some (.int (nI n)), some (.int v)]) rfl (by decide) rfl (Nat.le_of_ble_eq_true rfl) rfl ?_
  intro p e s m args below meth c C
  refine jx_iload_n C dX10_change_0 rfl ?_
  refine jx_tableOut (tgt := 90) C dX10_change_1 (by decide) (by decide) ?_
  refine jx_iconst (v := 0) C dX10_change_90 (by decide) ?_
  exact jx_iret C dX10_change_91 ⟨rfl, rfl, rfl, rfl⟩
set_option maxRecDepth 100000 in
set_option maxHeartbeats 4000000 in
theorem c_10_change1 {l : Launch} {D : va_G} {K : Nat → ClassId} {A : Nat → Nat} {I : TI} {U : TU} {P : TP} {k n : Nat} {v : Int32} (hk : k < 20) (hn : n < 24) : MM l yX10_change cX10_change 5 (some .int) 2 D K A (I) (U) (P) [.ref (A 0), .int 1, .ref (A (4 + 2 * k)), .int (nI n), .int v] (XE (some (.int 0)) (laI k n (cutTo (k % 5) v) I) (laU k n (fHo (f8 v)) U) P) := by
  refine MM.go (own := RX10) (lv0 := [some (.ref (A 0)), some (.int 1), some (.ref (A (4 + 2 * k))), some (.int (nI n)), some (.int v)]) rfl (by decide) rfl (Nat.le_of_ble_eq_true rfl) rfl ?_
  intro p e s m args below meth c C
  refine jx_iload_n C dX10_change_0 rfl ?_
  refine jx_tableIn (tgt := 32) C dX10_change_1 (by decide) (by decide) (off := 31) rfl (by decide) ?_
  refine jx_aload_n C dX10_change_32 rfl ?_
  refine jx_iload_n C dX10_change_33 rfl ?_
  refine jx_iload C dX10_change_34 rfl ?_
  refine jx_void C (jv_lay C dX10_change_36 hk hn ⟨by decide, by decide⟩ ⟨Nat.zero_le _, Nat.zero_le _⟩ (Nat.le_of_ble_eq_true rfl)) ?_
  refine jx_iconst (v := 0) C dX10_change_39 (by decide) ?_
  exact jx_iret C dX10_change_40 ⟨rfl, rfl, rfl, rfl⟩
set_option maxRecDepth 100000 in
set_option maxHeartbeats 4000000 in
theorem c_10_change2e {l : Launch} {D : va_G} {K : Nat → ClassId} {A : Nat → Nat} {I : TI} {U : TU} {P : TP} {k n : Nat} {v : Int32} (hk : k < 20) (hn : n < 24) (h0 : I 44 2 = 0) : MM l yX10_change cX10_change 5 (some .int) 2 D K A (I) (U) (P) [.ref (A 0), .int 2, .ref (A (4 + 2 * k)), .int (nI n), .int v] (XE (some (.int 4)) I U P) := by
  refine MM.go (own := RX10) (lv0 := [some (.ref (A 0)), some (.int 2), some (.ref (A (4 + 2 * k))), some (.int (nI n)), some (.int v)]) rfl (by decide) rfl (Nat.le_of_ble_eq_true rfl) rfl ?_
  intro p e s m args below meth c C
  refine jx_iload_n C dX10_change_0 rfl ?_
  refine jx_tableIn (tgt := 41) C dX10_change_1 (by decide) (by decide) (off := 40) rfl (by decide) ?_
  refine jx_aload_n C dX10_change_41 rfl ?_
  refine jx_get C fl_10_19_9 dX10_change_42 (by decide) gg_0 rfl ?_
  refine jx_one C (jr_V C (c_6_isEmpty) vw_10_186 (by decide) gg_44 rfl rfl ⟨Nat.le_of_ble_eq_true rfl, Nat.le_of_ble_eq_true rfl⟩ ⟨Nat.le_of_ble_eq_true rfl, Nat.le_of_ble_eq_true rfl⟩ dX10_change_45 rfl (Nat.le_of_ble_eq_true rfl)) ?_
  rw [bI_t h0]
  refine jx_if_eqF (tgt := 53) C dX10_change_48 (by decide) (by decide) ?_
  refine jx_iconst (v := 4) C dX10_change_51 (by decide) ?_
  exact jx_iret C dX10_change_52 ⟨rfl, rfl, rfl, rfl⟩
set_option maxRecDepth 100000 in
set_option maxHeartbeats 4000000 in
theorem c_10_change2 {l : Launch} {D : va_G} {K : Nat → ClassId} {A : Nat → Nat} {I : TI} {U : TU} {P : TP} {k n : Nat} {v : Int32} (hk : k < 20) (hn : n < 24) (ok : okE I U k n) {fi co : Nat} (hfi : I 44 1 = nI fi) (hco : I 44 2 = nI (co + 1)) (h1 : fi < 16) (h2 : co < 16) : MM l yX10_change cX10_change 5 (some .int) 2 D K A (I) (U) (P) [.ref (A 0), .int 2, .ref (A (4 + 2 * k)), .int (nI n), .int v] (XE (some (.int 0)) (laI k n (vPull (k % 5) (I (5 + 2 * k) n) (I 45 fi)) (up2 (up2 I 44 1 (nI ((fi + 1) % 16))) 44 2 (nI co))) (laU k n (fHo (FP.fadd (U (5 + 2 * k) n) (f8 (I 45 fi)))) U) P) := by
  refine MM.go (own := RX10) (lv0 := [some (.ref (A 0)), some (.int 2), some (.ref (A (4 + 2 * k))), some (.int (nI n)), some (.int v)]) rfl (by decide) rfl (Nat.le_of_ble_eq_true rfl) rfl ?_
  intro p e s m args below meth c C
  refine jx_iload_n C dX10_change_0 rfl ?_
  refine jx_tableIn (tgt := 41) C dX10_change_1 (by decide) (by decide) (off := 40) rfl (by decide) ?_
  refine jx_aload_n C dX10_change_41 rfl ?_
  refine jx_get C fl_10_19_9 dX10_change_42 (by decide) gg_0 rfl ?_
  refine jx_one C (jr_V C (c_6_isEmpty) vw_10_186 (by decide) gg_44 rfl rfl ⟨Nat.le_of_ble_eq_true rfl, Nat.le_of_ble_eq_true rfl⟩ ⟨Nat.le_of_ble_eq_true rfl, Nat.le_of_ble_eq_true rfl⟩ dX10_change_45 rfl (Nat.le_of_ble_eq_true rfl)) ?_
  rw [bI_f (show ¬ I 44 2 = 0 by rw [hco]; exact nI_ne0 (by omega) (by omega))]
  refine jx_if_eqT (tgt := 53) C dX10_change_48 (by decide) (by decide) ?_
  refine jx_aload_n C dX10_change_53 rfl ?_
  refine jx_iload_n C dX10_change_54 rfl ?_
  refine jx_aload_n C dX10_change_55 rfl ?_
  refine jx_get C fl_10_19_9 dX10_change_56 (by decide) gg_0 rfl ?_
  refine jx_one C (jr_V C (c_6_draw hfi hco h1 h2) vw_10_189 (by decide) gg_44 rfl rfl ⟨Nat.le_of_ble_eq_true rfl, Nat.le_of_ble_eq_true rfl⟩ ⟨Nat.le_of_ble_eq_true rfl, Nat.le_of_ble_eq_true rfl⟩ dX10_change_59 rfl (Nat.le_of_ble_eq_true rfl)) ?_
  refine jx_void C (jv_pull C dX10_change_62 hk hn (okE_I (okE_I ok (by omega)) (by omega)) ⟨by decide, by decide⟩ ⟨Nat.zero_le _, Nat.zero_le _⟩ (Nat.le_of_ble_eq_true rfl)) ?_
  rw [up2_ne (by omega), up2_ne (by omega)]
  refine jx_iconst (v := 0) C dX10_change_65 (by decide) ?_
  exact jx_iret C dX10_change_66 ⟨rfl, rfl, rfl, rfl⟩
set_option maxRecDepth 100000 in
set_option maxHeartbeats 4000000 in
theorem c_10_change3 {l : Launch} {D : va_G} {K : Nat → ClassId} {A : Nat → Nat} {I : TI} {U : TU} {P : TP} {k n : Nat} {v : Int32} (hk : k < 20) (hn : n < 24) (ok : okE I U k n) : MM l yX10_change cX10_change 5 (some .int) 2 D K A (I) (U) (P) [.ref (A 0), .int 3, .ref (A (4 + 2 * k)), .int (nI n), .int v] (XE (some (.int 0)) (laI k n (vPull (k % 5) (I (5 + 2 * k) n) 1) I) (laU k n (fHo (FP.fadd (U (5 + 2 * k) n) (f8 8))) U) P) := by
  refine MM.go (own := RX10) (lv0 := [some (.ref (A 0)), some (.int 3), some (.ref (A (4 + 2 * k))), some (.int (nI n)), some (.int v)]) rfl (by decide) rfl (Nat.le_of_ble_eq_true rfl) rfl ?_
  intro p e s m args below meth c C
  refine jx_iload_n C dX10_change_0 rfl ?_
  refine jx_tableIn (tgt := 67) C dX10_change_1 (by decide) (by decide) (off := 66) rfl (by decide) ?_
  refine jx_aload_n C dX10_change_67 rfl ?_
  refine jx_iload_n C dX10_change_68 rfl ?_
  refine jx_void C (jv_turn C dX10_change_69 hk hn ok ⟨by decide, by decide⟩ ⟨Nat.zero_le _, Nat.zero_le _⟩ (Nat.le_of_ble_eq_true rfl)) ?_
  refine jx_iconst (v := 0) C dX10_change_72 (by decide) ?_
  exact jx_iret C dX10_change_73 ⟨rfl, rfl, rfl, rfl⟩
set_option maxRecDepth 100000 in
set_option maxHeartbeats 4000000 in
theorem c_10_change4 {l : Launch} {D : va_G} {K : Nat → ClassId} {A : Nat → Nat} {I : TI} {U : TU} {P : TP} {k n : Nat} {v : Int32} (hk : k < 20) (hn : n < 24) (ok : okE I U k n) (hv : ¬ v = 0 ∨ k % 5 = 3) : MM l yX10_change cX10_change 5 (some .int) 2 D K A (I) (U) (P) [.ref (A 0), .int 4, .ref (A (4 + 2 * k)), .int (nI n), .int v] (XE (some (.int 0)) (laI k n (vPart (k % 5) (I (5 + 2 * k) n) v) I) (laU k n (fHo (FP.fdiv (U (5 + 2 * k) n) (FP.i2f v))) U) P) := by
  refine MM.go (own := RX10) (lv0 := [some (.ref (A 0)), some (.int 4), some (.ref (A (4 + 2 * k))), some (.int (nI n)), some (.int v)]) rfl (by decide) rfl (Nat.le_of_ble_eq_true rfl) rfl ?_
  intro p e s m args below meth c C
  refine jx_iload_n C dX10_change_0 rfl ?_
  refine jx_tableIn (tgt := 74) C dX10_change_1 (by decide) (by decide) (off := 73) rfl (by decide) ?_
  refine jx_aload_n C dX10_change_74 rfl ?_
  refine jx_iload_n C dX10_change_75 rfl ?_
  refine jx_iload C dX10_change_76 rfl ?_
  refine jx_one C (jv_part C dX10_change_78 hk hn ok hv ⟨by decide, by decide⟩ ⟨Nat.zero_le _, Nat.zero_le _⟩ (Nat.le_of_ble_eq_true rfl)) ?_
  refine jx_if_eqF (tgt := 88) C dX10_change_81 (by decide) (by decide) ?_
  refine jx_iconst (v := 0) C dX10_change_84 (by decide) ?_
  refine jx_goto (tgt := 89) C dX10_change_85 (by decide) ?_
  exact jx_iret C dX10_change_89 ⟨rfl, rfl, rfl, rfl⟩
set_option maxRecDepth 100000 in
set_option maxHeartbeats 4000000 in
theorem c_10_change4z {l : Launch} {D : va_G} {K : Nat → ClassId} {A : Nat → Nat} {I : TI} {U : TU} {P : TP} {k n : Nat} (hk : k < 20) (h3 : ¬ k % 5 = 3) : MM l yX10_change cX10_change 5 (some .int) 2 D K A (I) (U) (P) [.ref (A 0), .int 4, .ref (A (4 + 2 * k)), .int (nI n), .int 0] (XE (some (.int 5)) I U P) := by
  refine MM.go (own := RX10) (lv0 := [some (.ref (A 0)), some (.int 4), some (.ref (A (4 + 2 * k))), some (.int (nI n)), some (.int 0)]) rfl (by decide) rfl (Nat.le_of_ble_eq_true rfl) rfl ?_
  intro p e s m args below meth c C
  refine jx_iload_n C dX10_change_0 rfl ?_
  refine jx_tableIn (tgt := 74) C dX10_change_1 (by decide) (by decide) (off := 73) rfl (by decide) ?_
  refine jx_aload_n C dX10_change_74 rfl ?_
  refine jx_iload_n C dX10_change_75 rfl ?_
  refine jx_iload C dX10_change_76 rfl ?_
  refine jx_one C (jv_part0 C dX10_change_78 hk h3 ⟨by decide, by decide⟩ ⟨Nat.zero_le _, Nat.zero_le _⟩ (Nat.le_of_ble_eq_true rfl)) ?_
  refine jx_if_eqT (tgt := 88) C dX10_change_81 (by decide) (by decide) ?_
  refine jx_iconst (v := 5) C dX10_change_88 (by decide) ?_
  exact jx_iret C dX10_change_89 ⟨rfl, rfl, rfl, rfl⟩
