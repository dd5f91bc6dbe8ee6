/-! the reference: one act, done() -/
theorem mlaU_n {b at0 : Nat} {y : UInt32} {U : TU} (h : ¬ b = 2) : mlaU b at0 y U = U := if_neg h
theorem mlaI_2 {at0 : Nat} {x : Int32} {I : TI} : mlaI 2 at0 x I = I := if_pos rfl
theorem mok_la {b at0 : Nat} {y : UInt32} {U : TU} (hy : b = 2 → hd32 y) : b = 2 → hd32 (mlaU b at0 y U 69 at0) := by
  intro h
  unfold mlaU
  rw [if_pos h, up2_same]
  exact hy h
theorem mdq_o {I : TI} {x y : Nat} (h : ¬ (x = 65 ∨ x = 70)) : mdq I x y = I x y := by
  unfold mdq
  rw [if_neg (by omega), if_neg (by omega)]
theorem mlf_mdq {I : TI} {pl : Nat} {x : Int32} : mlf (mdq I) pl x = mlf I pl x := by
  unfold mlf rN
  rw [mdq_o (by decide), mdq_o (by decide)]
theorem okR_same {I I' : TI} (h : okR I) (hh : ∀ y, I' 66 y = I 66 y) : okR I' := fun pl hpl => by rw [hh]; exact h pl hpl
theorem okR_mdq {I : TI} (h : okR I) : okR (mdq I) := okR_same h (fun y => mdq_o (by decide))
theorem mlf_le {I : TI} {pl : Nat} {x : Int32} : mlf I pl x ≤ 2 := by
  unfold mlf
  split
  · decide
  · split <;> decide
theorem nI_eq0 {f : Nat} (h : f < 100) : nI f = 0 ↔ f = 0 := nI_eq (by omega) (by decide)
def mfT (b at0 : Nat) (I : TI) (U : TU) : Int32 × TI × TU := (mtl I U b at0, mbg I, U)
set_option maxRecDepth 100000 in
set_option maxHeartbeats 4000000 in
theorem c_11_done_1e {l : Launch} {D : va_G} {K : Nat → ClassId} {A : Nat → Nat} {I : TI} {U : TU} {P : TP} {a b : Nat} (ha : a < 4) (hb : b < 5) {x v : Int32} (h0 : I 65 5 = 0) : MM l yX11_done cX11_done 10 (some .int) 3 D K A (I) (U) (P) [.ref (A 65), .int 1, .int (nI a), .int (nI b), .int x, .int v] (XE (some (.int (0))) (mtel I 4) (U) (P)) := by
  refine MM.go (own := RX11) (lv0 := [some (.ref (A 65)), some (.int 1), some (.int (nI a)), some (.int (nI b)), some (.int x), some (.int v), none, none, none, none]) rfl (by decide) rfl (Nat.le_of_ble_eq_true rfl) rfl ?_
  intro p e s m args below meth c C
  refine jx_iconst (v := 5) C dX11_done_0 (by decide) ?_
  refine jx_iload_n C dX11_done_1 rfl ?_
  refine jx_imul C dX11_done_2 ?_
  refine jx_iload_n C dX11_done_3 rfl ?_
  refine jx_iadd C dX11_done_4 ?_
  rw [pl5']
  refine jx_istore (lv1 := [_, _, _, _, _, _, _, _, _, _]) C dX11_done_5 (by decide) rfl ?_
  refine jx_iconst (v := 0) C dX11_done_7 (by decide) ?_
  refine jx_istore (lv1 := [_, _, _, _, _, _, _, _, _, _]) C dX11_done_8 (by decide) rfl ?_
  refine jx_iload_n C dX11_done_10 rfl ?_
  refine jx_iconst (v := 1) C dX11_done_11 (by decide) ?_
  refine jx_ic_neF (tgt := 34) C dX11_done_12 (by decide) (by decide) ?_
  refine jx_aload_n C dX11_done_15 rfl ?_
  refine jx_get C fl_11_61_10 dX11_done_16 (by decide) gg_65 rfl ?_
  refine jx_if_neF (tgt := 28) C dX11_done_19 h0 (by decide) ?_
  refine jx_aload_n C dX11_done_22 rfl ?_
  refine jx_iconst (v := 4) C dX11_done_23 (by decide) ?_
  refine jx_one C (jr_V C (c_11_bad (f := 4) (by decide)) vw_11_51 (by decide) gg_65 rfl rfl ⟨Nat.le_of_ble_eq_true rfl, Nat.le_of_ble_eq_true rfl⟩ ⟨Nat.le_of_ble_eq_true rfl, Nat.le_of_ble_eq_true rfl⟩ dX11_done_24 rfl (Nat.le_of_ble_eq_true rfl)) ?_
  exact jx_iret C dX11_done_27 ⟨rfl, rfl, rfl, rfl⟩
set_option maxRecDepth 100000 in
set_option maxHeartbeats 4000000 in
theorem c_11_done_1w {l : Launch} {D : va_G} {K : Nat → ClassId} {A : Nat → Nat} {I : TI} {U : TU} {P : TP} {a b : Nat} (ha : a < 4) (hb : b < 5) {x v : Int32} (ok : okR I) (hf : ¬ mlf I (5 * a + b) x = 0) {co : Nat} (hco : I 65 5 = nI (co + 1)) (h16 : co < 16) : MM l yX11_done cX11_done 10 (some .int) 3 D K A (I) (U) (P) [.ref (A 65), .int 1, .int (nI a), .int (nI b), .int x, .int v] (XE (some (.int (0))) (mtel (mdq I) (mlf I (5 * a + b) x)) (U) (P)) := by
  refine MM.go (own := RX11) (lv0 := [some (.ref (A 65)), some (.int 1), some (.int (nI a)), some (.int (nI b)), some (.int x), some (.int v), none, none, none, none]) rfl (by decide) rfl (Nat.le_of_ble_eq_true rfl) rfl ?_
  intro p e s m args below meth c C
  refine jx_iconst (v := 5) C dX11_done_0 (by decide) ?_
  refine jx_iload_n C dX11_done_1 rfl ?_
  refine jx_imul C dX11_done_2 ?_
  refine jx_iload_n C dX11_done_3 rfl ?_
  refine jx_iadd C dX11_done_4 ?_
  rw [pl5']
  refine jx_istore (lv1 := [_, _, _, _, _, _, _, _, _, _]) C dX11_done_5 (by decide) rfl ?_
  refine jx_iconst (v := 0) C dX11_done_7 (by decide) ?_
  refine jx_istore (lv1 := [_, _, _, _, _, _, _, _, _, _]) C dX11_done_8 (by decide) rfl ?_
  refine jx_iload_n C dX11_done_10 rfl ?_
  refine jx_iconst (v := 1) C dX11_done_11 (by decide) ?_
  refine jx_ic_neF (tgt := 34) C dX11_done_12 (by decide) (by decide) ?_
  refine jx_aload_n C dX11_done_15 rfl ?_
  refine jx_get C fl_11_61_10 dX11_done_16 (by decide) gg_65 rfl ?_
  refine jx_if_neT (tgt := 28) C dX11_done_19 (by decide) (by rw [hco]; exact nI_ne0 (by omega) (by omega)) ?_
  refine jx_aload_n C dX11_done_28 rfl ?_
  refine jx_one C (jr_V C (c_11_drawn hco h16) vw_11_80 (by decide) gg_65 rfl rfl ⟨Nat.le_of_ble_eq_true rfl, Nat.le_of_ble_eq_true rfl⟩ ⟨Nat.le_of_ble_eq_true rfl, Nat.le_of_ble_eq_true rfl⟩ dX11_done_29 rfl (Nat.le_of_ble_eq_true rfl)) ?_
  refine jx_istore (lv1 := [_, _, _, _, _, _, _, _, _, _]) C dX11_done_32 (by decide) rfl ?_
  refine jx_aload_n C dX11_done_34 rfl ?_
  refine jx_iload C dX11_done_35 rfl ?_
  refine jx_iload C dX11_done_37 rfl ?_
  refine jx_one C (jr_V C (c_11_wrong (by omega) (okR_mdq ok)) vw_11_84 (by decide) gg_65 rfl rfl ⟨Nat.le_of_ble_eq_true rfl, Nat.le_of_ble_eq_true rfl⟩ ⟨Nat.le_of_ble_eq_true rfl, Nat.le_of_ble_eq_true rfl⟩ dX11_done_39 rfl (Nat.le_of_ble_eq_true rfl)) ?_
  rw [mlf_mdq]
  refine jx_istore (lv1 := [_, _, _, _, _, _, _, _, _, _]) C dX11_done_42 (by decide) rfl ?_
  refine jx_iload C dX11_done_44 rfl ?_
  refine jx_if_eqF (tgt := 56) C dX11_done_46 (fun q => hf ((nI_eq0 (Nat.lt_of_le_of_lt mlf_le (by decide))).mp q)) (by decide) ?_
  refine jx_aload_n C dX11_done_49 rfl ?_
  refine jx_iload C dX11_done_50 rfl ?_
  refine jx_one C (jr_V C (c_11_bad (Nat.le_trans mlf_le (by decide))) vw_11_51 (by decide) gg_65 rfl rfl ⟨Nat.le_of_ble_eq_true rfl, Nat.le_of_ble_eq_true rfl⟩ ⟨Nat.le_of_ble_eq_true rfl, Nat.le_of_ble_eq_true rfl⟩ dX11_done_52 rfl (Nat.le_of_ble_eq_true rfl)) ?_
  exact jx_iret C dX11_done_55 ⟨rfl, rfl, rfl, rfl⟩
set_option maxRecDepth 100000 in
set_option maxHeartbeats 4000000 in
theorem c_11_done_gw {l : Launch} {D : va_G} {K : Nat → ClassId} {A : Nat → Nat} {I : TI} {U : TU} {P : TP} {kd : Nat} (hkd : ¬ nI kd = 1) {a b : Nat} (ha : a < 4) (hb : b < 5) {x v : Int32} (ok : okR I) (hf : ¬ mlf I (5 * a + b) x = 0) : MM l yX11_done cX11_done 10 (some .int) 3 D K A (I) (U) (P) [.ref (A 65), .int (nI kd), .int (nI a), .int (nI b), .int x, .int v] (XE (some (.int (0))) (mtel I (mlf I (5 * a + b) x)) (U) (P)) := by
  refine MM.go (own := RX11) (lv0 := [some (.ref (A 65)), some (.int (nI kd)), some (.int (nI a)), some (.int (nI b)), some (.int x), some (.int v), none, none, none, none]) rfl (by decide) rfl (Nat.le_of_ble_eq_true rfl) rfl ?_
  intro p e s m args below meth c C
  refine jx_iconst (v := 5) C dX11_done_0 (by decide) ?_
  refine jx_iload_n C dX11_done_1 rfl ?_
  refine jx_imul C dX11_done_2 ?_
  refine jx_iload_n C dX11_done_3 rfl ?_
  refine jx_iadd C dX11_done_4 ?_
  rw [pl5']
  refine jx_istore (lv1 := [_, _, _, _, _, _, _, _, _, _]) C dX11_done_5 (by decide) rfl ?_
  refine jx_iconst (v := 0) C dX11_done_7 (by decide) ?_
  refine jx_istore (lv1 := [_, _, _, _, _, _, _, _, _, _]) C dX11_done_8 (by decide) rfl ?_
  refine jx_iload_n C dX11_done_10 rfl ?_
  refine jx_iconst (v := 1) C dX11_done_11 (by decide) ?_
  refine jx_ic_neT (tgt := 34) C dX11_done_12 (by decide) hkd ?_
  refine jx_aload_n C dX11_done_34 rfl ?_
  refine jx_iload C dX11_done_35 rfl ?_
  refine jx_iload C dX11_done_37 rfl ?_
  refine jx_one C (jr_V C (c_11_wrong (by omega) ok) vw_11_84 (by decide) gg_65 rfl rfl ⟨Nat.le_of_ble_eq_true rfl, Nat.le_of_ble_eq_true rfl⟩ ⟨Nat.le_of_ble_eq_true rfl, Nat.le_of_ble_eq_true rfl⟩ dX11_done_39 rfl (Nat.le_of_ble_eq_true rfl)) ?_
  refine jx_istore (lv1 := [_, _, _, _, _, _, _, _, _, _]) C dX11_done_42 (by decide) rfl ?_
  refine jx_iload C dX11_done_44 rfl ?_
  refine jx_if_eqF (tgt := 56) C dX11_done_46 (fun q => hf ((nI_eq0 (Nat.lt_of_le_of_lt mlf_le (by decide))).mp q)) (by decide) ?_
  refine jx_aload_n C dX11_done_49 rfl ?_
  refine jx_iload C dX11_done_50 rfl ?_
  refine jx_one C (jr_V C (c_11_bad (Nat.le_trans mlf_le (by decide))) vw_11_51 (by decide) gg_65 rfl rfl ⟨Nat.le_of_ble_eq_true rfl, Nat.le_of_ble_eq_true rfl⟩ ⟨Nat.le_of_ble_eq_true rfl, Nat.le_of_ble_eq_true rfl⟩ dX11_done_52 rfl (Nat.le_of_ble_eq_true rfl)) ?_
  exact jx_iret C dX11_done_55 ⟨rfl, rfl, rfl, rfl⟩
set_option maxRecDepth 100000 in
set_option maxHeartbeats 4000000 in
theorem c_11_done_0 {l : Launch} {D : va_G} {K : Nat → ClassId} {A : Nat → Nat} {I : TI} {U : TU} {P : TP} {a b : Nat} (ha : a < 4) (hb : b < 5) {r n : Nat} {v : Int32} (ok : okR I) (hm : mlf I (5 * a + b) (nI n) = 0) (hr : I 66 (5 * a + b) = nI r) (hr20 : r < 20) (hn : n < 24) (hh : b = 2 → hd32 (U 69 (24 * r + n))) : MM l yX11_done cX11_done 10 (some .int) 3 D K A (I) (U) (P) [.ref (A 65), .int 0, .int (nI a), .int (nI b), .int (nI n), .int v] (XE (some (.int ((mfT b (24 * r + n) I U).1))) ((mfT b (24 * r + n) I U).2.1) (U) (P)) := by
  refine MM.go (own := RX11) (lv0 := [some (.ref (A 65)), some (.int 0), some (.int (nI a)), some (.int (nI b)), some (.int (nI n)), some (.int v), none, none, none, none]) rfl (by decide) rfl (Nat.le_of_ble_eq_true rfl) rfl ?_
  intro p e s m args below meth c C
  refine jx_iconst (v := 5) C dX11_done_0 (by decide) ?_
  refine jx_iload_n C dX11_done_1 rfl ?_
  refine jx_imul C dX11_done_2 ?_
  refine jx_iload_n C dX11_done_3 rfl ?_
  refine jx_iadd C dX11_done_4 ?_
  rw [pl5']
  refine jx_istore (lv1 := [_, _, _, _, _, _, _, _, _, _]) C dX11_done_5 (by decide) rfl ?_
  refine jx_iconst (v := 0) C dX11_done_7 (by decide) ?_
  refine jx_istore (lv1 := [_, _, _, _, _, _, _, _, _, _]) C dX11_done_8 (by decide) rfl ?_
  refine jx_iload_n C dX11_done_10 rfl ?_
  refine jx_iconst (v := 1) C dX11_done_11 (by decide) ?_
  refine jx_ic_neT (tgt := 34) C dX11_done_12 (by decide) (by decide) ?_
  refine jx_aload_n C dX11_done_34 rfl ?_
  refine jx_iload C dX11_done_35 rfl ?_
  refine jx_iload C dX11_done_37 rfl ?_
  refine jx_one C (jr_V C (c_11_wrong (by omega) ok) vw_11_84 (by decide) gg_65 rfl rfl ⟨Nat.le_of_ble_eq_true rfl, Nat.le_of_ble_eq_true rfl⟩ ⟨Nat.le_of_ble_eq_true rfl, Nat.le_of_ble_eq_true rfl⟩ dX11_done_39 rfl (Nat.le_of_ble_eq_true rfl)) ?_
  rw [hm]
  refine jx_istore (lv1 := [_, _, _, _, _, _, _, _, _, _]) C dX11_done_42 (by decide) rfl ?_
  refine jx_iload C dX11_done_44 rfl ?_
  refine jx_if_eqT (tgt := 56) C dX11_done_46 (by decide) rfl ?_
  refine jx_iload_n C dX11_done_56 rfl ?_
  refine jx_iconst (v := 2) C dX11_done_57 (by decide) ?_
  refine jx_ic_neT (tgt := 74) C dX11_done_58 (by decide) (by decide) ?_
  refine jx_iload_n C dX11_done_74 rfl ?_
  refine jx_iconst (v := 4) C dX11_done_75 (by decide) ?_
  refine jx_ic_neT (tgt := 95) C dX11_done_76 (by decide) (by decide) ?_
  refine jx_bipush (v := 24) C dX11_done_95 (by decide) ?_
  refine jx_aload_n C dX11_done_97 rfl ?_
  refine jx_get C fl_11_7_10 dX11_done_98 (by decide) gg_65 rfl ?_
  refine jx_iload C dX11_done_101 rfl ?_
  refine jx_iald (5 * a + b) C dX11_done_103 (by decide) gg_66 rfl (by omega) (by decide) ?_
  rw [hr]
  refine jx_imul C dX11_done_104 ?_
  refine jx_iload C dX11_done_105 rfl ?_
  refine jx_iadd C dX11_done_107 ?_
  rw [ix24']
  refine jx_istore (lv1 := [_, _, _, _, _, _, _, _, _, _]) C dX11_done_108 (by decide) rfl ?_
  refine jx_iload_n C dX11_done_110 rfl ?_
  refine jx_iconst (v := 1) C dX11_done_111 (by decide) ?_
  refine jx_ic_neT (tgt := 124) C dX11_done_112 (by decide) (by decide) ?_
  refine jx_iload_n C dX11_done_124 rfl ?_
  refine jx_iconst (v := 2) C dX11_done_125 (by decide) ?_
  refine jx_ic_neT (tgt := 140) C dX11_done_126 (by decide) (by decide) ?_
  refine jx_iload_n C dX11_done_140 rfl ?_
  refine jx_iconst (v := 3) C dX11_done_141 (by decide) ?_
  refine jx_ic_neT (tgt := 163) C dX11_done_142 (by decide) (by decide) ?_
  refine jx_iload_n C dX11_done_163 rfl ?_
  refine jx_iconst (v := 4) C dX11_done_164 (by decide) ?_
  refine jx_ic_neT (tgt := 177) C dX11_done_165 (by decide) (by decide) ?_
  refine jx_aload_n C dX11_done_177 rfl ?_
  refine jx_aload_n C dX11_done_178 rfl ?_
  refine jx_iload_n C dX11_done_179 rfl ?_
  refine jx_iload C dX11_done_180 rfl ?_
  refine jx_one C (jr_V C (c_11_tells hb (by omega) hh) vw_11_97 (by decide) gg_65 rfl rfl ⟨Nat.le_of_ble_eq_true rfl, Nat.le_of_ble_eq_true rfl⟩ ⟨Nat.le_of_ble_eq_true rfl, Nat.le_of_ble_eq_true rfl⟩ dX11_done_182 rfl (Nat.le_of_ble_eq_true rfl)) ?_
  refine jx_one C (jr_V C (c_11_good) vw_11_58 (by decide) gg_65 rfl rfl ⟨Nat.le_of_ble_eq_true rfl, Nat.le_of_ble_eq_true rfl⟩ ⟨Nat.le_of_ble_eq_true rfl, Nat.le_of_ble_eq_true rfl⟩ dX11_done_185 rfl (Nat.le_of_ble_eq_true rfl)) ?_
  exact jx_iret C dX11_done_188 ⟨rfl, rfl, rfl, rfl⟩
set_option maxRecDepth 100000 in
set_option maxHeartbeats 4000000 in
theorem c_11_done_1 {l : Launch} {D : va_G} {K : Nat → ClassId} {A : Nat → Nat} {I : TI} {U : TU} {P : TP} {a b : Nat} (ha : a < 4) (hb : b < 5) {r n : Nat} {v : Int32} (ok : okR I) (hm : mlf I (5 * a + b) (nI n) = 0) (hr : I 66 (5 * a + b) = nI r) (hr20 : r < 20) (hn : n < 24) (hh : b = 2 → hd32 (U 69 (24 * r + n))) {co : Nat} (hco : I 65 5 = nI (co + 1)) (h16 : co < 16) : MM l yX11_done cX11_done 10 (some .int) 3 D K A (I) (U) (P) [.ref (A 65), .int 1, .int (nI a), .int (nI b), .int (nI n), .int v] (XE (some (.int (mfT b (24 * r + n) (mlaI b (24 * r + n) (cutTo b (I 70 0)) (mdq I)) (mlaU b (24 * r + n) (fHo (f8 (I 70 0))) U)).1)) (mfT b (24 * r + n) (mlaI b (24 * r + n) (cutTo b (I 70 0)) (mdq I)) (mlaU b (24 * r + n) (fHo (f8 (I 70 0))) U)).2.1 (mfT b (24 * r + n) (mlaI b (24 * r + n) (cutTo b (I 70 0)) (mdq I)) (mlaU b (24 * r + n) (fHo (f8 (I 70 0))) U)).2.2 P) := by
  refine MM.go (own := RX11) (lv0 := [some (.ref (A 65)), some (.int 1), some (.int (nI a)), some (.int (nI b)), some (.int (nI n)), some (.int v), none, none, none, none]) rfl (by decide) rfl (Nat.le_of_ble_eq_true rfl) rfl ?_
  intro p e s m args below meth c C
  refine jx_iconst (v := 5) C dX11_done_0 (by decide) ?_
  refine jx_iload_n C dX11_done_1 rfl ?_
  refine jx_imul C dX11_done_2 ?_
  refine jx_iload_n C dX11_done_3 rfl ?_
  refine jx_iadd C dX11_done_4 ?_
  rw [pl5']
  refine jx_istore (lv1 := [_, _, _, _, _, _, _, _, _, _]) C dX11_done_5 (by decide) rfl ?_
  refine jx_iconst (v := 0) C dX11_done_7 (by decide) ?_
  refine jx_istore (lv1 := [_, _, _, _, _, _, _, _, _, _]) C dX11_done_8 (by decide) rfl ?_
  refine jx_iload_n C dX11_done_10 rfl ?_
  refine jx_iconst (v := 1) C dX11_done_11 (by decide) ?_
  refine jx_ic_neF (tgt := 34) C dX11_done_12 (by decide) (by decide) ?_
  refine jx_aload_n C dX11_done_15 rfl ?_
  refine jx_get C fl_11_61_10 dX11_done_16 (by decide) gg_65 rfl ?_
  refine jx_if_neT (tgt := 28) C dX11_done_19 (by decide) (by rw [hco]; exact nI_ne0 (by omega) (by omega)) ?_
  refine jx_aload_n C dX11_done_28 rfl ?_
  refine jx_one C (jr_V C (c_11_drawn hco h16) vw_11_80 (by decide) gg_65 rfl rfl ⟨Nat.le_of_ble_eq_true rfl, Nat.le_of_ble_eq_true rfl⟩ ⟨Nat.le_of_ble_eq_true rfl, Nat.le_of_ble_eq_true rfl⟩ dX11_done_29 rfl (Nat.le_of_ble_eq_true rfl)) ?_
  refine jx_istore (lv1 := [_, _, _, _, _, _, _, _, _, _]) C dX11_done_32 (by decide) rfl ?_
  refine jx_aload_n C dX11_done_34 rfl ?_
  refine jx_iload C dX11_done_35 rfl ?_
  refine jx_iload C dX11_done_37 rfl ?_
  refine jx_one C (jr_V C (c_11_wrong (by omega) (okR_mdq ok)) vw_11_84 (by decide) gg_65 rfl rfl ⟨Nat.le_of_ble_eq_true rfl, Nat.le_of_ble_eq_true rfl⟩ ⟨Nat.le_of_ble_eq_true rfl, Nat.le_of_ble_eq_true rfl⟩ dX11_done_39 rfl (Nat.le_of_ble_eq_true rfl)) ?_
  rw [mlf_mdq, hm]
  refine jx_istore (lv1 := [_, _, _, _, _, _, _, _, _, _]) C dX11_done_42 (by decide) rfl ?_
  refine jx_iload C dX11_done_44 rfl ?_
  refine jx_if_eqT (tgt := 56) C dX11_done_46 (by decide) rfl ?_
  refine jx_iload_n C dX11_done_56 rfl ?_
  refine jx_iconst (v := 2) C dX11_done_57 (by decide) ?_
  refine jx_ic_neT (tgt := 74) C dX11_done_58 (by decide) (by decide) ?_
  refine jx_iload_n C dX11_done_74 rfl ?_
  refine jx_iconst (v := 4) C dX11_done_75 (by decide) ?_
  refine jx_ic_neT (tgt := 95) C dX11_done_76 (by decide) (by decide) ?_
  refine jx_bipush (v := 24) C dX11_done_95 (by decide) ?_
  refine jx_aload_n C dX11_done_97 rfl ?_
  refine jx_get C fl_11_7_10 dX11_done_98 (by decide) gg_65 rfl ?_
  refine jx_iload C dX11_done_101 rfl ?_
  refine jx_iald (5 * a + b) C dX11_done_103 (by decide) gg_66 rfl (by omega) (by decide) ?_
  rw [mdq_o (by omega), hr]
  refine jx_imul C dX11_done_104 ?_
  refine jx_iload C dX11_done_105 rfl ?_
  refine jx_iadd C dX11_done_107 ?_
  rw [ix24']
  refine jx_istore (lv1 := [_, _, _, _, _, _, _, _, _, _]) C dX11_done_108 (by decide) rfl ?_
  refine jx_iload_n C dX11_done_110 rfl ?_
  refine jx_iconst (v := 1) C dX11_done_111 (by decide) ?_
  refine jx_ic_neF (tgt := 124) C dX11_done_112 (by decide) (by decide) ?_
  refine jx_aload_n C dX11_done_115 rfl ?_
  refine jx_iload_n C dX11_done_116 rfl ?_
  refine jx_iload C dX11_done_117 rfl ?_
  refine jx_iload C dX11_done_119 rfl ?_
  refine jx_void C (jr_V C (c_11_lay hb (by omega)) vw_11_87 (by decide) gg_65 rfl rfl ⟨Nat.le_of_ble_eq_true rfl, Nat.le_of_ble_eq_true rfl⟩ ⟨Nat.le_of_ble_eq_true rfl, Nat.le_of_ble_eq_true rfl⟩ dX11_done_121 rfl (Nat.le_of_ble_eq_true rfl)) ?_
  refine jx_iload_n C dX11_done_124 rfl ?_
  refine jx_iconst (v := 2) C dX11_done_125 (by decide) ?_
  refine jx_ic_neT (tgt := 140) C dX11_done_126 (by decide) (by decide) ?_
  refine jx_iload_n C dX11_done_140 rfl ?_
  refine jx_iconst (v := 3) C dX11_done_141 (by decide) ?_
  refine jx_ic_neT (tgt := 163) C dX11_done_142 (by decide) (by decide) ?_
  refine jx_iload_n C dX11_done_163 rfl ?_
  refine jx_iconst (v := 4) C dX11_done_164 (by decide) ?_
  refine jx_ic_neT (tgt := 177) C dX11_done_165 (by decide) (by decide) ?_
  refine jx_aload_n C dX11_done_177 rfl ?_
  refine jx_aload_n C dX11_done_178 rfl ?_
  refine jx_iload_n C dX11_done_179 rfl ?_
  refine jx_iload C dX11_done_180 rfl ?_
  refine jx_one C (jr_V C (c_11_tells hb (by omega) (mok_la (fun _ => hd_ho (f8_nan _)))) vw_11_97 (by decide) gg_65 rfl rfl ⟨Nat.le_of_ble_eq_true rfl, Nat.le_of_ble_eq_true rfl⟩ ⟨Nat.le_of_ble_eq_true rfl, Nat.le_of_ble_eq_true rfl⟩ dX11_done_182 rfl (Nat.le_of_ble_eq_true rfl)) ?_
  refine jx_one C (jr_V C (c_11_good) vw_11_58 (by decide) gg_65 rfl rfl ⟨Nat.le_of_ble_eq_true rfl, Nat.le_of_ble_eq_true rfl⟩ ⟨Nat.le_of_ble_eq_true rfl, Nat.le_of_ble_eq_true rfl⟩ dX11_done_185 rfl (Nat.le_of_ble_eq_true rfl)) ?_
  exact jx_iret C dX11_done_188 ⟨rfl, rfl, rfl, rfl⟩
set_option maxRecDepth 100000 in
set_option maxHeartbeats 4000000 in
theorem c_11_done_2e {l : Launch} {D : va_G} {K : Nat → ClassId} {A : Nat → Nat} {I : TI} {U : TU} {P : TP} {a b : Nat} (ha : a < 4) (hb : b < 5) {r n : Nat} {v : Int32} (ok : okR I) (hm : mlf I (5 * a + b) (nI n) = 0) (hr : I 66 (5 * a + b) = nI r) (hr20 : r < 20) (hn : n < 24) (hh : b = 2 → hd32 (U 69 (24 * r + n))) (h0 : I 65 5 = 0) : MM l yX11_done cX11_done 10 (some .int) 3 D K A (I) (U) (P) [.ref (A 65), .int 2, .int (nI a), .int (nI b), .int (nI n), .int v] (XE (some (.int (0))) (mtel I 4) (U) (P)) := by
  refine MM.go (own := RX11) (lv0 := [some (.ref (A 65)), some (.int 2), some (.int (nI a)), some (.int (nI b)), some (.int (nI n)), some (.int v), none, none, none, none]) rfl (by decide) rfl (Nat.le_of_ble_eq_true rfl) rfl ?_
  intro p e s m args below meth c C
  refine jx_iconst (v := 5) C dX11_done_0 (by decide) ?_
  refine jx_iload_n C dX11_done_1 rfl ?_
  refine jx_imul C dX11_done_2 ?_
  refine jx_iload_n C dX11_done_3 rfl ?_
  refine jx_iadd C dX11_done_4 ?_
  rw [pl5']
  refine jx_istore (lv1 := [_, _, _, _, _, _, _, _, _, _]) C dX11_done_5 (by decide) rfl ?_
  refine jx_iconst (v := 0) C dX11_done_7 (by decide) ?_
  refine jx_istore (lv1 := [_, _, _, _, _, _, _, _, _, _]) C dX11_done_8 (by decide) rfl ?_
  refine jx_iload_n C dX11_done_10 rfl ?_
  refine jx_iconst (v := 1) C dX11_done_11 (by decide) ?_
  refine jx_ic_neT (tgt := 34) C dX11_done_12 (by decide) (by decide) ?_
  refine jx_aload_n C dX11_done_34 rfl ?_
  refine jx_iload C dX11_done_35 rfl ?_
  refine jx_iload C dX11_done_37 rfl ?_
  refine jx_one C (jr_V C (c_11_wrong (by omega) ok) vw_11_84 (by decide) gg_65 rfl rfl ⟨Nat.le_of_ble_eq_true rfl, Nat.le_of_ble_eq_true rfl⟩ ⟨Nat.le_of_ble_eq_true rfl, Nat.le_of_ble_eq_true rfl⟩ dX11_done_39 rfl (Nat.le_of_ble_eq_true rfl)) ?_
  rw [hm]
  refine jx_istore (lv1 := [_, _, _, _, _, _, _, _, _, _]) C dX11_done_42 (by decide) rfl ?_
  refine jx_iload C dX11_done_44 rfl ?_
  refine jx_if_eqT (tgt := 56) C dX11_done_46 (by decide) rfl ?_
  refine jx_iload_n C dX11_done_56 rfl ?_
  refine jx_iconst (v := 2) C dX11_done_57 (by decide) ?_
  refine jx_ic_neF (tgt := 74) C dX11_done_58 (by decide) (by decide) ?_
  refine jx_aload_n C dX11_done_61 rfl ?_
  refine jx_get C fl_11_61_10 dX11_done_62 (by decide) gg_65 rfl ?_
  refine jx_if_neF (tgt := 74) C dX11_done_65 h0 (by decide) ?_
  refine jx_aload_n C dX11_done_68 rfl ?_
  refine jx_iconst (v := 4) C dX11_done_69 (by decide) ?_
  refine jx_one C (jr_V C (c_11_bad (f := 4) (by decide)) vw_11_51 (by decide) gg_65 rfl rfl ⟨Nat.le_of_ble_eq_true rfl, Nat.le_of_ble_eq_true rfl⟩ ⟨Nat.le_of_ble_eq_true rfl, Nat.le_of_ble_eq_true rfl⟩ dX11_done_70 rfl (Nat.le_of_ble_eq_true rfl)) ?_
  exact jx_iret C dX11_done_73 ⟨rfl, rfl, rfl, rfl⟩
set_option maxRecDepth 100000 in
set_option maxHeartbeats 4000000 in
theorem c_11_done_2 {l : Launch} {D : va_G} {K : Nat → ClassId} {A : Nat → Nat} {I : TI} {U : TU} {P : TP} {a b : Nat} (ha : a < 4) (hb : b < 5) {r n : Nat} {v : Int32} (ok : okR I) (hm : mlf I (5 * a + b) (nI n) = 0) (hr : I 66 (5 * a + b) = nI r) (hr20 : r < 20) (hn : n < 24) (hh : b = 2 → hd32 (U 69 (24 * r + n))) {co : Nat} (hco : I 65 5 = nI (co + 1)) (h16 : co < 16) : MM l yX11_done cX11_done 10 (some .int) 3 D K A (I) (U) (P) [.ref (A 65), .int 2, .int (nI a), .int (nI b), .int (nI n), .int v] (XE (some (.int (mfT b (24 * r + n) (mlaI b (24 * r + n) (vPull b (I 68 (24 * r + n)) (I 70 0)) (mdq I)) (mlaU b (24 * r + n) (fHo (FP.fadd (U 69 (24 * r + n)) (f8 (I 70 0)))) U)).1)) (mfT b (24 * r + n) (mlaI b (24 * r + n) (vPull b (I 68 (24 * r + n)) (I 70 0)) (mdq I)) (mlaU b (24 * r + n) (fHo (FP.fadd (U 69 (24 * r + n)) (f8 (I 70 0)))) U)).2.1 (mfT b (24 * r + n) (mlaI b (24 * r + n) (vPull b (I 68 (24 * r + n)) (I 70 0)) (mdq I)) (mlaU b (24 * r + n) (fHo (FP.fadd (U 69 (24 * r + n)) (f8 (I 70 0)))) U)).2.2 P) := by
  refine MM.go (own := RX11) (lv0 := [some (.ref (A 65)), some (.int 2), some (.int (nI a)), some (.int (nI b)), some (.int (nI n)), some (.int v), none, none, none, none]) rfl (by decide) rfl (Nat.le_of_ble_eq_true rfl) rfl ?_
  intro p e s m args below meth c C
  refine jx_iconst (v := 5) C dX11_done_0 (by decide) ?_
  refine jx_iload_n C dX11_done_1 rfl ?_
  refine jx_imul C dX11_done_2 ?_
  refine jx_iload_n C dX11_done_3 rfl ?_
  refine jx_iadd C dX11_done_4 ?_
  rw [pl5']
  refine jx_istore (lv1 := [_, _, _, _, _, _, _, _, _, _]) C dX11_done_5 (by decide) rfl ?_
  refine jx_iconst (v := 0) C dX11_done_7 (by decide) ?_
  refine jx_istore (lv1 := [_, _, _, _, _, _, _, _, _, _]) C dX11_done_8 (by decide) rfl ?_
  refine jx_iload_n C dX11_done_10 rfl ?_
  refine jx_iconst (v := 1) C dX11_done_11 (by decide) ?_
  refine jx_ic_neT (tgt := 34) C dX11_done_12 (by decide) (by decide) ?_
  refine jx_aload_n C dX11_done_34 rfl ?_
  refine jx_iload C dX11_done_35 rfl ?_
  refine jx_iload C dX11_done_37 rfl ?_
  refine jx_one C (jr_V C (c_11_wrong (by omega) ok) vw_11_84 (by decide) gg_65 rfl rfl ⟨Nat.le_of_ble_eq_true rfl, Nat.le_of_ble_eq_true rfl⟩ ⟨Nat.le_of_ble_eq_true rfl, Nat.le_of_ble_eq_true rfl⟩ dX11_done_39 rfl (Nat.le_of_ble_eq_true rfl)) ?_
  rw [hm]
  refine jx_istore (lv1 := [_, _, _, _, _, _, _, _, _, _]) C dX11_done_42 (by decide) rfl ?_
  refine jx_iload C dX11_done_44 rfl ?_
  refine jx_if_eqT (tgt := 56) C dX11_done_46 (by decide) rfl ?_
  refine jx_iload_n C dX11_done_56 rfl ?_
  refine jx_iconst (v := 2) C dX11_done_57 (by decide) ?_
  refine jx_ic_neF (tgt := 74) C dX11_done_58 (by decide) (by decide) ?_
  refine jx_aload_n C dX11_done_61 rfl ?_
  refine jx_get C fl_11_61_10 dX11_done_62 (by decide) gg_65 rfl ?_
  refine jx_if_neT (tgt := 74) C dX11_done_65 (by decide) (by rw [hco]; exact nI_ne0 (by omega) (by omega)) ?_
  refine jx_iload_n C dX11_done_74 rfl ?_
  refine jx_iconst (v := 4) C dX11_done_75 (by decide) ?_
  refine jx_ic_neT (tgt := 95) C dX11_done_76 (by decide) (by decide) ?_
  refine jx_bipush (v := 24) C dX11_done_95 (by decide) ?_
  refine jx_aload_n C dX11_done_97 rfl ?_
  refine jx_get C fl_11_7_10 dX11_done_98 (by decide) gg_65 rfl ?_
  refine jx_iload C dX11_done_101 rfl ?_
  refine jx_iald (5 * a + b) C dX11_done_103 (by decide) gg_66 rfl (by omega) (by decide) ?_
  rw [hr]
  refine jx_imul C dX11_done_104 ?_
  refine jx_iload C dX11_done_105 rfl ?_
  refine jx_iadd C dX11_done_107 ?_
  rw [ix24']
  refine jx_istore (lv1 := [_, _, _, _, _, _, _, _, _, _]) C dX11_done_108 (by decide) rfl ?_
  refine jx_iload_n C dX11_done_110 rfl ?_
  refine jx_iconst (v := 1) C dX11_done_111 (by decide) ?_
  refine jx_ic_neT (tgt := 124) C dX11_done_112 (by decide) (by decide) ?_
  refine jx_iload_n C dX11_done_124 rfl ?_
  refine jx_iconst (v := 2) C dX11_done_125 (by decide) ?_
  refine jx_ic_neF (tgt := 140) C dX11_done_126 (by decide) (by decide) ?_
  refine jx_aload_n C dX11_done_129 rfl ?_
  refine jx_iload_n C dX11_done_130 rfl ?_
  refine jx_iload C dX11_done_131 rfl ?_
  refine jx_aload_n C dX11_done_133 rfl ?_
  refine jx_one C (jr_V C (c_11_drawn hco h16) vw_11_80 (by decide) gg_65 rfl rfl ⟨Nat.le_of_ble_eq_true rfl, Nat.le_of_ble_eq_true rfl⟩ ⟨Nat.le_of_ble_eq_true rfl, Nat.le_of_ble_eq_true rfl⟩ dX11_done_134 rfl (Nat.le_of_ble_eq_true rfl)) ?_
  refine jx_void C (jr_V C (c_11_pull hb (by omega) hh) vw_11_91 (by decide) gg_65 rfl rfl ⟨Nat.le_of_ble_eq_true rfl, Nat.le_of_ble_eq_true rfl⟩ ⟨Nat.le_of_ble_eq_true rfl, Nat.le_of_ble_eq_true rfl⟩ dX11_done_137 rfl (Nat.le_of_ble_eq_true rfl)) ?_
  rw [mdq_o (by omega)]
  refine jx_iload_n C dX11_done_140 rfl ?_
  refine jx_iconst (v := 3) C dX11_done_141 (by decide) ?_
  refine jx_ic_neT (tgt := 163) C dX11_done_142 (by decide) (by decide) ?_
  refine jx_iload_n C dX11_done_163 rfl ?_
  refine jx_iconst (v := 4) C dX11_done_164 (by decide) ?_
  refine jx_ic_neT (tgt := 177) C dX11_done_165 (by decide) (by decide) ?_
  refine jx_aload_n C dX11_done_177 rfl ?_
  refine jx_aload_n C dX11_done_178 rfl ?_
  refine jx_iload_n C dX11_done_179 rfl ?_
  refine jx_iload C dX11_done_180 rfl ?_
  refine jx_one C (jr_V C (c_11_tells hb (by omega) (mok_la (fun h => hd_ho (notnan (nn_add (hh h) (f8_nan _)))))) vw_11_97 (by decide) gg_65 rfl rfl ⟨Nat.le_of_ble_eq_true rfl, Nat.le_of_ble_eq_true rfl⟩ ⟨Nat.le_of_ble_eq_true rfl, Nat.le_of_ble_eq_true rfl⟩ dX11_done_182 rfl (Nat.le_of_ble_eq_true rfl)) ?_
  refine jx_one C (jr_V C (c_11_good) vw_11_58 (by decide) gg_65 rfl rfl ⟨Nat.le_of_ble_eq_true rfl, Nat.le_of_ble_eq_true rfl⟩ ⟨Nat.le_of_ble_eq_true rfl, Nat.le_of_ble_eq_true rfl⟩ dX11_done_185 rfl (Nat.le_of_ble_eq_true rfl)) ?_
  exact jx_iret C dX11_done_188 ⟨rfl, rfl, rfl, rfl⟩
set_option maxRecDepth 100000 in
set_option maxHeartbeats 4000000 in
theorem c_11_done_3n {l : Launch} {D : va_G} {K : Nat → ClassId} {A : Nat → Nat} {I : TI} {U : TU} {P : TP} {a b : Nat} (ha : a < 4) (hb : b < 5) {r n : Nat} {v : Int32} (ok : okR I) (hm : mlf I (5 * a + b) (nI n) = 0) (hr : I 66 (5 * a + b) = nI r) (hr20 : r < 20) (hn : n < 24) (hh : b = 2 → hd32 (U 69 (24 * r + n))) (h2 : ¬ b = 2) : MM l yX11_done cX11_done 10 (some .int) 3 D K A (I) (U) (P) [.ref (A 65), .int 3, .int (nI a), .int (nI b), .int (nI n), .int v] (XE (some (.int (mfT b (24 * r + n) (mlaI b (24 * r + n) (vPull b (I 68 (24 * r + n)) 1) I) (mlaU b (24 * r + n) (fHo (FP.fadd (U 69 (24 * r + n)) (f8 8))) U)).1)) (mfT b (24 * r + n) (mlaI b (24 * r + n) (vPull b (I 68 (24 * r + n)) 1) I) (mlaU b (24 * r + n) (fHo (FP.fadd (U 69 (24 * r + n)) (f8 8))) U)).2.1 (mfT b (24 * r + n) (mlaI b (24 * r + n) (vPull b (I 68 (24 * r + n)) 1) I) (mlaU b (24 * r + n) (fHo (FP.fadd (U 69 (24 * r + n)) (f8 8))) U)).2.2 P) := by
  rw [mlaU_n h2]
  refine MM.go (own := RX11) (lv0 := [some (.ref (A 65)), some (.int 3), some (.int (nI a)), some (.int (nI b)), some (.int (nI n)), some (.int v), none, none, none, none]) rfl (by decide) rfl (Nat.le_of_ble_eq_true rfl) rfl ?_
  intro p e s m args below meth c C
  refine jx_iconst (v := 5) C dX11_done_0 (by decide) ?_
  refine jx_iload_n C dX11_done_1 rfl ?_
  refine jx_imul C dX11_done_2 ?_
  refine jx_iload_n C dX11_done_3 rfl ?_
  refine jx_iadd C dX11_done_4 ?_
  rw [pl5']
  refine jx_istore (lv1 := [_, _, _, _, _, _, _, _, _, _]) C dX11_done_5 (by decide) rfl ?_
  refine jx_iconst (v := 0) C dX11_done_7 (by decide) ?_
  refine jx_istore (lv1 := [_, _, _, _, _, _, _, _, _, _]) C dX11_done_8 (by decide) rfl ?_
  refine jx_iload_n C dX11_done_10 rfl ?_
  refine jx_iconst (v := 1) C dX11_done_11 (by decide) ?_
  refine jx_ic_neT (tgt := 34) C dX11_done_12 (by decide) (by decide) ?_
  refine jx_aload_n C dX11_done_34 rfl ?_
  refine jx_iload C dX11_done_35 rfl ?_
  refine jx_iload C dX11_done_37 rfl ?_
  refine jx_one C (jr_V C (c_11_wrong (by omega) ok) vw_11_84 (by decide) gg_65 rfl rfl ⟨Nat.le_of_ble_eq_true rfl, Nat.le_of_ble_eq_true rfl⟩ ⟨Nat.le_of_ble_eq_true rfl, Nat.le_of_ble_eq_true rfl⟩ dX11_done_39 rfl (Nat.le_of_ble_eq_true rfl)) ?_
  rw [hm]
  refine jx_istore (lv1 := [_, _, _, _, _, _, _, _, _, _]) C dX11_done_42 (by decide) rfl ?_
  refine jx_iload C dX11_done_44 rfl ?_
  refine jx_if_eqT (tgt := 56) C dX11_done_46 (by decide) rfl ?_
  refine jx_iload_n C dX11_done_56 rfl ?_
  refine jx_iconst (v := 2) C dX11_done_57 (by decide) ?_
  refine jx_ic_neT (tgt := 74) C dX11_done_58 (by decide) (by decide) ?_
  refine jx_iload_n C dX11_done_74 rfl ?_
  refine jx_iconst (v := 4) C dX11_done_75 (by decide) ?_
  refine jx_ic_neT (tgt := 95) C dX11_done_76 (by decide) (by decide) ?_
  refine jx_bipush (v := 24) C dX11_done_95 (by decide) ?_
  refine jx_aload_n C dX11_done_97 rfl ?_
  refine jx_get C fl_11_7_10 dX11_done_98 (by decide) gg_65 rfl ?_
  refine jx_iload C dX11_done_101 rfl ?_
  refine jx_iald (5 * a + b) C dX11_done_103 (by decide) gg_66 rfl (by omega) (by decide) ?_
  rw [hr]
  refine jx_imul C dX11_done_104 ?_
  refine jx_iload C dX11_done_105 rfl ?_
  refine jx_iadd C dX11_done_107 ?_
  rw [ix24']
  refine jx_istore (lv1 := [_, _, _, _, _, _, _, _, _, _]) C dX11_done_108 (by decide) rfl ?_
  refine jx_iload_n C dX11_done_110 rfl ?_
  refine jx_iconst (v := 1) C dX11_done_111 (by decide) ?_
  refine jx_ic_neT (tgt := 124) C dX11_done_112 (by decide) (by decide) ?_
  refine jx_iload_n C dX11_done_124 rfl ?_
  refine jx_iconst (v := 2) C dX11_done_125 (by decide) ?_
  refine jx_ic_neT (tgt := 140) C dX11_done_126 (by decide) (by decide) ?_
  refine jx_iload_n C dX11_done_140 rfl ?_
  refine jx_iconst (v := 3) C dX11_done_141 (by decide) ?_
  refine jx_ic_neF (tgt := 163) C dX11_done_142 (by decide) (by decide) ?_
  refine jx_aload_n C dX11_done_145 rfl ?_
  refine jx_iload_n C dX11_done_146 rfl ?_
  refine jx_iload C dX11_done_147 rfl ?_
  refine jx_iload_n C dX11_done_149 rfl ?_
  refine jx_iconst (v := 2) C dX11_done_150 (by decide) ?_
  refine jx_ic_neT (tgt := 159) C dX11_done_151 (by decide) (by rw [show (2 : Int32) = nI 2 from rfl, nI_lit (by omega) (by decide)]; omega) ?_
  refine jx_iconst (v := 1) C dX11_done_159 (by decide) ?_
  refine jx_void C (jr_V C (c_11_pull hb (by omega) hh) vw_11_91 (by decide) gg_65 rfl rfl ⟨Nat.le_of_ble_eq_true rfl, Nat.le_of_ble_eq_true rfl⟩ ⟨Nat.le_of_ble_eq_true rfl, Nat.le_of_ble_eq_true rfl⟩ dX11_done_160 rfl (Nat.le_of_ble_eq_true rfl)) ?_
  rw [mlaU_n h2]
  refine jx_iload_n C dX11_done_163 rfl ?_
  refine jx_iconst (v := 4) C dX11_done_164 (by decide) ?_
  refine jx_ic_neT (tgt := 177) C dX11_done_165 (by decide) (by decide) ?_
  refine jx_aload_n C dX11_done_177 rfl ?_
  refine jx_aload_n C dX11_done_178 rfl ?_
  refine jx_iload_n C dX11_done_179 rfl ?_
  refine jx_iload C dX11_done_180 rfl ?_
  refine jx_one C (jr_V C (c_11_tells hb (by omega) hh) vw_11_97 (by decide) gg_65 rfl rfl ⟨Nat.le_of_ble_eq_true rfl, Nat.le_of_ble_eq_true rfl⟩ ⟨Nat.le_of_ble_eq_true rfl, Nat.le_of_ble_eq_true rfl⟩ dX11_done_182 rfl (Nat.le_of_ble_eq_true rfl)) ?_
  refine jx_one C (jr_V C (c_11_good) vw_11_58 (by decide) gg_65 rfl rfl ⟨Nat.le_of_ble_eq_true rfl, Nat.le_of_ble_eq_true rfl⟩ ⟨Nat.le_of_ble_eq_true rfl, Nat.le_of_ble_eq_true rfl⟩ dX11_done_185 rfl (Nat.le_of_ble_eq_true rfl)) ?_
  exact jx_iret C dX11_done_188 ⟨rfl, rfl, rfl, rfl⟩
set_option maxRecDepth 100000 in
set_option maxHeartbeats 4000000 in
theorem c_11_done_3t {l : Launch} {D : va_G} {K : Nat → ClassId} {A : Nat → Nat} {I : TI} {U : TU} {P : TP} {a : Nat} (ha : a < 4) {r n : Nat} {v : Int32} (ok : okR I) (hm : mlf I (5 * a + 2) (nI n) = 0) (hr : I 66 (5 * a + 2) = nI r) (hr20 : r < 20) (hn : n < 24) (hh : hd32 (U 69 (24 * r + n))) : MM l yX11_done cX11_done 10 (some .int) 3 D K A (I) (U) (P) [.ref (A 65), .int 3, .int (nI a), .int 2, .int (nI n), .int v] (XE (some (.int (mfT 2 (24 * r + n) (mlaI 2 (24 * r + n) (vPull 2 (I 68 (24 * r + n)) 1) I) (mlaU 2 (24 * r + n) (fHo (FP.fadd (U 69 (24 * r + n)) (f8 8))) U)).1)) (mfT 2 (24 * r + n) (mlaI 2 (24 * r + n) (vPull 2 (I 68 (24 * r + n)) 1) I) (mlaU 2 (24 * r + n) (fHo (FP.fadd (U 69 (24 * r + n)) (f8 8))) U)).2.1 (mfT 2 (24 * r + n) (mlaI 2 (24 * r + n) (vPull 2 (I 68 (24 * r + n)) 1) I) (mlaU 2 (24 * r + n) (fHo (FP.fadd (U 69 (24 * r + n)) (f8 8))) U)).2.2 P) := by
  rw [mlaI_2]
  refine MM.go (own := RX11) (lv0 := [some (.ref (A 65)), some (.int 3), some (.int (nI a)), some (.int 2), some (.int (nI n)), some (.int v), none, none, none, none]) rfl (by decide) rfl (Nat.le_of_ble_eq_true rfl) rfl ?_
  intro p e s m args below meth c C
  refine jx_iconst (v := 5) C dX11_done_0 (by decide) ?_
  refine jx_iload_n C dX11_done_1 rfl ?_
  refine jx_imul C dX11_done_2 ?_
  refine jx_iload_n C dX11_done_3 rfl ?_
  refine jx_iadd C dX11_done_4 ?_
  rw [show 5 * nI a + 2 = nI (5 * a + 2) from pl5' a 2]
  refine jx_istore (lv1 := [_, _, _, _, _, _, _, _, _, _]) C dX11_done_5 (by decide) rfl ?_
  refine jx_iconst (v := 0) C dX11_done_7 (by decide) ?_
  refine jx_istore (lv1 := [_, _, _, _, _, _, _, _, _, _]) C dX11_done_8 (by decide) rfl ?_
  refine jx_iload_n C dX11_done_10 rfl ?_
  refine jx_iconst (v := 1) C dX11_done_11 (by decide) ?_
  refine jx_ic_neT (tgt := 34) C dX11_done_12 (by decide) (by decide) ?_
  refine jx_aload_n C dX11_done_34 rfl ?_
  refine jx_iload C dX11_done_35 rfl ?_
  refine jx_iload C dX11_done_37 rfl ?_
  refine jx_one C (jr_V C (c_11_wrong (by omega) ok) vw_11_84 (by decide) gg_65 rfl rfl ⟨Nat.le_of_ble_eq_true rfl, Nat.le_of_ble_eq_true rfl⟩ ⟨Nat.le_of_ble_eq_true rfl, Nat.le_of_ble_eq_true rfl⟩ dX11_done_39 rfl (Nat.le_of_ble_eq_true rfl)) ?_
  rw [hm]
  refine jx_istore (lv1 := [_, _, _, _, _, _, _, _, _, _]) C dX11_done_42 (by decide) rfl ?_
  refine jx_iload C dX11_done_44 rfl ?_
  refine jx_if_eqT (tgt := 56) C dX11_done_46 (by decide) rfl ?_
  refine jx_iload_n C dX11_done_56 rfl ?_
  refine jx_iconst (v := 2) C dX11_done_57 (by decide) ?_
  refine jx_ic_neT (tgt := 74) C dX11_done_58 (by decide) (by decide) ?_
  refine jx_iload_n C dX11_done_74 rfl ?_
  refine jx_iconst (v := 4) C dX11_done_75 (by decide) ?_
  refine jx_ic_neT (tgt := 95) C dX11_done_76 (by decide) (by decide) ?_
  refine jx_bipush (v := 24) C dX11_done_95 (by decide) ?_
  refine jx_aload_n C dX11_done_97 rfl ?_
  refine jx_get C fl_11_7_10 dX11_done_98 (by decide) gg_65 rfl ?_
  refine jx_iload C dX11_done_101 rfl ?_
  refine jx_iald (5 * a + 2) C dX11_done_103 (by decide) gg_66 rfl (by omega) (by decide) ?_
  rw [hr]
  refine jx_imul C dX11_done_104 ?_
  refine jx_iload C dX11_done_105 rfl ?_
  refine jx_iadd C dX11_done_107 ?_
  rw [ix24']
  refine jx_istore (lv1 := [_, _, _, _, _, _, _, _, _, _]) C dX11_done_108 (by decide) rfl ?_
  refine jx_iload_n C dX11_done_110 rfl ?_
  refine jx_iconst (v := 1) C dX11_done_111 (by decide) ?_
  refine jx_ic_neT (tgt := 124) C dX11_done_112 (by decide) (by decide) ?_
  refine jx_iload_n C dX11_done_124 rfl ?_
  refine jx_iconst (v := 2) C dX11_done_125 (by decide) ?_
  refine jx_ic_neT (tgt := 140) C dX11_done_126 (by decide) (by decide) ?_
  refine jx_iload_n C dX11_done_140 rfl ?_
  refine jx_iconst (v := 3) C dX11_done_141 (by decide) ?_
  refine jx_ic_neF (tgt := 163) C dX11_done_142 (by decide) (by decide) ?_
  refine jx_aload_n C dX11_done_145 rfl ?_
  refine jx_iload_n C dX11_done_146 rfl ?_
  refine jx_iload C dX11_done_147 rfl ?_
  refine jx_iload_n C dX11_done_149 rfl ?_
  refine jx_iconst (v := 2) C dX11_done_150 (by decide) ?_
  refine jx_ic_neF (tgt := 159) C dX11_done_151 (by decide) (by decide) ?_
  refine jx_bipush (v := 8) C dX11_done_154 (by decide) ?_
  refine jx_goto (tgt := 160) C dX11_done_156 (by decide) ?_
  refine jx_void C (jr_V C (c_11_pull (b := 2) (by decide) (by omega) (fun _ => hh)) vw_11_91 (by decide) gg_65 rfl rfl ⟨Nat.le_of_ble_eq_true rfl, Nat.le_of_ble_eq_true rfl⟩ ⟨Nat.le_of_ble_eq_true rfl, Nat.le_of_ble_eq_true rfl⟩ dX11_done_160 rfl (Nat.le_of_ble_eq_true rfl)) ?_
  rw [mlaI_2]
  refine jx_iload_n C dX11_done_163 rfl ?_
  refine jx_iconst (v := 4) C dX11_done_164 (by decide) ?_
  refine jx_ic_neT (tgt := 177) C dX11_done_165 (by decide) (by decide) ?_
  refine jx_aload_n C dX11_done_177 rfl ?_
  refine jx_aload_n C dX11_done_178 rfl ?_
  refine jx_iload_n C dX11_done_179 rfl ?_
  refine jx_iload C dX11_done_180 rfl ?_
  refine jx_one C (jr_V C (c_11_tells (b := 2) (by decide) (by omega) (mok_la (fun h => hd_ho (notnan (nn_add hh (f8_nan _)))))) vw_11_97 (by decide) gg_65 rfl rfl ⟨Nat.le_of_ble_eq_true rfl, Nat.le_of_ble_eq_true rfl⟩ ⟨Nat.le_of_ble_eq_true rfl, Nat.le_of_ble_eq_true rfl⟩ dX11_done_182 rfl (Nat.le_of_ble_eq_true rfl)) ?_
  refine jx_one C (jr_V C (c_11_good) vw_11_58 (by decide) gg_65 rfl rfl ⟨Nat.le_of_ble_eq_true rfl, Nat.le_of_ble_eq_true rfl⟩ ⟨Nat.le_of_ble_eq_true rfl, Nat.le_of_ble_eq_true rfl⟩ dX11_done_185 rfl (Nat.le_of_ble_eq_true rfl)) ?_
  exact jx_iret C dX11_done_188 ⟨rfl, rfl, rfl, rfl⟩
set_option maxRecDepth 100000 in
set_option maxHeartbeats 4000000 in
theorem c_11_done_4z {l : Launch} {D : va_G} {K : Nat → ClassId} {A : Nat → Nat} {I : TI} {U : TU} {P : TP} {a b : Nat} (ha : a < 4) (hb : b < 5) {r n : Nat} (ok : okR I) (hm : mlf I (5 * a + b) (nI n) = 0) (hr : I 66 (5 * a + b) = nI r) (hr20 : r < 20) (hn : n < 24) (hh : b = 2 → hd32 (U 69 (24 * r + n))) (h3 : ¬ b = 3) : MM l yX11_done cX11_done 10 (some .int) 3 D K A (I) (U) (P) [.ref (A 65), .int 4, .int (nI a), .int (nI b), .int (nI n), .int 0] (XE (some (.int (0))) (mtel I 5) (U) (P)) := by
  refine MM.go (own := RX11) (lv0 := [some (.ref (A 65)), some (.int 4), some (.int (nI a)), some (.int (nI b)), some (.int (nI n)), some (.int 0), none, none, none, none]) rfl (by decide) rfl (Nat.le_of_ble_eq_true rfl) rfl ?_
  intro p e s m args below meth c C
  refine jx_iconst (v := 5) C dX11_done_0 (by decide) ?_
  refine jx_iload_n C dX11_done_1 rfl ?_
  refine jx_imul C dX11_done_2 ?_
  refine jx_iload_n C dX11_done_3 rfl ?_
  refine jx_iadd C dX11_done_4 ?_
  rw [pl5']
  refine jx_istore (lv1 := [_, _, _, _, _, _, _, _, _, _]) C dX11_done_5 (by decide) rfl ?_
  refine jx_iconst (v := 0) C dX11_done_7 (by decide) ?_
  refine jx_istore (lv1 := [_, _, _, _, _, _, _, _, _, _]) C dX11_done_8 (by decide) rfl ?_
  refine jx_iload_n C dX11_done_10 rfl ?_
  refine jx_iconst (v := 1) C dX11_done_11 (by decide) ?_
  refine jx_ic_neT (tgt := 34) C dX11_done_12 (by decide) (by decide) ?_
  refine jx_aload_n C dX11_done_34 rfl ?_
  refine jx_iload C dX11_done_35 rfl ?_
  refine jx_iload C dX11_done_37 rfl ?_
  refine jx_one C (jr_V C (c_11_wrong (by omega) ok) vw_11_84 (by decide) gg_65 rfl rfl ⟨Nat.le_of_ble_eq_true rfl, Nat.le_of_ble_eq_true rfl⟩ ⟨Nat.le_of_ble_eq_true rfl, Nat.le_of_ble_eq_true rfl⟩ dX11_done_39 rfl (Nat.le_of_ble_eq_true rfl)) ?_
  rw [hm]
  refine jx_istore (lv1 := [_, _, _, _, _, _, _, _, _, _]) C dX11_done_42 (by decide) rfl ?_
  refine jx_iload C dX11_done_44 rfl ?_
  refine jx_if_eqT (tgt := 56) C dX11_done_46 (by decide) rfl ?_
  refine jx_iload_n C dX11_done_56 rfl ?_
  refine jx_iconst (v := 2) C dX11_done_57 (by decide) ?_
  refine jx_ic_neT (tgt := 74) C dX11_done_58 (by decide) (by decide) ?_
  refine jx_iload_n C dX11_done_74 rfl ?_
  refine jx_iconst (v := 4) C dX11_done_75 (by decide) ?_
  refine jx_ic_neF (tgt := 95) C dX11_done_76 (by decide) (by decide) ?_
  refine jx_iload C dX11_done_79 rfl ?_
  refine jx_if_neF (tgt := 95) C dX11_done_81 rfl (by decide) ?_
  refine jx_iload_n C dX11_done_84 rfl ?_
  refine jx_iconst (v := 3) C dX11_done_85 (by decide) ?_
  refine jx_ic_eqF (tgt := 95) C dX11_done_86 (by rw [show (3 : Int32) = nI 3 from rfl, nI_lit (by omega) (by decide)]; omega) (by decide) ?_
  refine jx_aload_n C dX11_done_89 rfl ?_
  refine jx_iconst (v := 5) C dX11_done_90 (by decide) ?_
  refine jx_one C (jr_V C (c_11_bad (f := 5) (by decide)) vw_11_51 (by decide) gg_65 rfl rfl ⟨Nat.le_of_ble_eq_true rfl, Nat.le_of_ble_eq_true rfl⟩ ⟨Nat.le_of_ble_eq_true rfl, Nat.le_of_ble_eq_true rfl⟩ dX11_done_91 rfl (Nat.le_of_ble_eq_true rfl)) ?_
  exact jx_iret C dX11_done_94 ⟨rfl, rfl, rfl, rfl⟩
set_option maxRecDepth 100000 in
set_option maxHeartbeats 4000000 in
theorem c_11_done_4a {l : Launch} {D : va_G} {K : Nat → ClassId} {A : Nat → Nat} {I : TI} {U : TU} {P : TP} {a b : Nat} (ha : a < 4) (hb : b < 5) {r n : Nat} {v : Int32} (ok : okR I) (hm : mlf I (5 * a + b) (nI n) = 0) (hr : I 66 (5 * a + b) = nI r) (hr20 : r < 20) (hn : n < 24) (hh : b = 2 → hd32 (U 69 (24 * r + n))) (hv : ¬ v = 0) : MM l yX11_done cX11_done 10 (some .int) 3 D K A (I) (U) (P) [.ref (A 65), .int 4, .int (nI a), .int (nI b), .int (nI n), .int v] (XE (some (.int (mfT b (24 * r + n) (mlaI b (24 * r + n) (vPart b (I 68 (24 * r + n)) v) I) (mlaU b (24 * r + n) (fHo (FP.fdiv (U 69 (24 * r + n)) (FP.i2f v))) U)).1)) (mfT b (24 * r + n) (mlaI b (24 * r + n) (vPart b (I 68 (24 * r + n)) v) I) (mlaU b (24 * r + n) (fHo (FP.fdiv (U 69 (24 * r + n)) (FP.i2f v))) U)).2.1 (mfT b (24 * r + n) (mlaI b (24 * r + n) (vPart b (I 68 (24 * r + n)) v) I) (mlaU b (24 * r + n) (fHo (FP.fdiv (U 69 (24 * r + n)) (FP.i2f v))) U)).2.2 P) := by
  refine MM.go (own := RX11) (lv0 := [some (.ref (A 65)), some (.int 4), some (.int (nI a)), some (.int (nI b)), some (.int (nI n)), some (.int v), none, none, none, none]) rfl (by decide) rfl (Nat.le_of_ble_eq_true rfl) rfl ?_
  intro p e s m args below meth c C
  refine jx_iconst (v := 5) C dX11_done_0 (by decide) ?_
  refine jx_iload_n C dX11_done_1 rfl ?_
  refine jx_imul C dX11_done_2 ?_
  refine jx_iload_n C dX11_done_3 rfl ?_
  refine jx_iadd C dX11_done_4 ?_
  rw [pl5']
  refine jx_istore (lv1 := [_, _, _, _, _, _, _, _, _, _]) C dX11_done_5 (by decide) rfl ?_
  refine jx_iconst (v := 0) C dX11_done_7 (by decide) ?_
  refine jx_istore (lv1 := [_, _, _, _, _, _, _, _, _, _]) C dX11_done_8 (by decide) rfl ?_
  refine jx_iload_n C dX11_done_10 rfl ?_
  refine jx_iconst (v := 1) C dX11_done_11 (by decide) ?_
  refine jx_ic_neT (tgt := 34) C dX11_done_12 (by decide) (by decide) ?_
  refine jx_aload_n C dX11_done_34 rfl ?_
  refine jx_iload C dX11_done_35 rfl ?_
  refine jx_iload C dX11_done_37 rfl ?_
  refine jx_one C (jr_V C (c_11_wrong (by omega) ok) vw_11_84 (by decide) gg_65 rfl rfl ⟨Nat.le_of_ble_eq_true rfl, Nat.le_of_ble_eq_true rfl⟩ ⟨Nat.le_of_ble_eq_true rfl, Nat.le_of_ble_eq_true rfl⟩ dX11_done_39 rfl (Nat.le_of_ble_eq_true rfl)) ?_
  rw [hm]
  refine jx_istore (lv1 := [_, _, _, _, _, _, _, _, _, _]) C dX11_done_42 (by decide) rfl ?_
  refine jx_iload C dX11_done_44 rfl ?_
  refine jx_if_eqT (tgt := 56) C dX11_done_46 (by decide) rfl ?_
  refine jx_iload_n C dX11_done_56 rfl ?_
  refine jx_iconst (v := 2) C dX11_done_57 (by decide) ?_
  refine jx_ic_neT (tgt := 74) C dX11_done_58 (by decide) (by decide) ?_
  refine jx_iload_n C dX11_done_74 rfl ?_
  refine jx_iconst (v := 4) C dX11_done_75 (by decide) ?_
  refine jx_ic_neF (tgt := 95) C dX11_done_76 (by decide) (by decide) ?_
  refine jx_iload C dX11_done_79 rfl ?_
  refine jx_if_neT (tgt := 95) C dX11_done_81 (by decide) hv ?_
  refine jx_bipush (v := 24) C dX11_done_95 (by decide) ?_
  refine jx_aload_n C dX11_done_97 rfl ?_
  refine jx_get C fl_11_7_10 dX11_done_98 (by decide) gg_65 rfl ?_
  refine jx_iload C dX11_done_101 rfl ?_
  refine jx_iald (5 * a + b) C dX11_done_103 (by decide) gg_66 rfl (by omega) (by decide) ?_
  rw [hr]
  refine jx_imul C dX11_done_104 ?_
  refine jx_iload C dX11_done_105 rfl ?_
  refine jx_iadd C dX11_done_107 ?_
  rw [ix24']
  refine jx_istore (lv1 := [_, _, _, _, _, _, _, _, _, _]) C dX11_done_108 (by decide) rfl ?_
  refine jx_iload_n C dX11_done_110 rfl ?_
  refine jx_iconst (v := 1) C dX11_done_111 (by decide) ?_
  refine jx_ic_neT (tgt := 124) C dX11_done_112 (by decide) (by decide) ?_
  refine jx_iload_n C dX11_done_124 rfl ?_
  refine jx_iconst (v := 2) C dX11_done_125 (by decide) ?_
  refine jx_ic_neT (tgt := 140) C dX11_done_126 (by decide) (by decide) ?_
  refine jx_iload_n C dX11_done_140 rfl ?_
  refine jx_iconst (v := 3) C dX11_done_141 (by decide) ?_
  refine jx_ic_neT (tgt := 163) C dX11_done_142 (by decide) (by decide) ?_
  refine jx_iload_n C dX11_done_163 rfl ?_
  refine jx_iconst (v := 4) C dX11_done_164 (by decide) ?_
  refine jx_ic_neF (tgt := 177) C dX11_done_165 (by decide) (by decide) ?_
  refine jx_aload_n C dX11_done_168 rfl ?_
  refine jx_iload_n C dX11_done_169 rfl ?_
  refine jx_iload C dX11_done_170 rfl ?_
  refine jx_iload C dX11_done_172 rfl ?_
  refine jx_void C (jr_V C (c_11_part hb (by omega) hh (Or.inl hv)) vw_11_94 (by decide) gg_65 rfl rfl ⟨Nat.le_of_ble_eq_true rfl, Nat.le_of_ble_eq_true rfl⟩ ⟨Nat.le_of_ble_eq_true rfl, Nat.le_of_ble_eq_true rfl⟩ dX11_done_174 rfl (Nat.le_of_ble_eq_true rfl)) ?_
  refine jx_aload_n C dX11_done_177 rfl ?_
  refine jx_aload_n C dX11_done_178 rfl ?_
  refine jx_iload_n C dX11_done_179 rfl ?_
  refine jx_iload C dX11_done_180 rfl ?_
  refine jx_one C (jr_V C (c_11_tells hb (by omega) (mok_la (fun h => hd_ho (notnan (nn_div (hh h) hv))))) vw_11_97 (by decide) gg_65 rfl rfl ⟨Nat.le_of_ble_eq_true rfl, Nat.le_of_ble_eq_true rfl⟩ ⟨Nat.le_of_ble_eq_true rfl, Nat.le_of_ble_eq_true rfl⟩ dX11_done_182 rfl (Nat.le_of_ble_eq_true rfl)) ?_
  refine jx_one C (jr_V C (c_11_good) vw_11_58 (by decide) gg_65 rfl rfl ⟨Nat.le_of_ble_eq_true rfl, Nat.le_of_ble_eq_true rfl⟩ ⟨Nat.le_of_ble_eq_true rfl, Nat.le_of_ble_eq_true rfl⟩ dX11_done_185 rfl (Nat.le_of_ble_eq_true rfl)) ?_
  exact jx_iret C dX11_done_188 ⟨rfl, rfl, rfl, rfl⟩
set_option maxRecDepth 100000 in
set_option maxHeartbeats 4000000 in
theorem c_11_done_4b {l : Launch} {D : va_G} {K : Nat → ClassId} {A : Nat → Nat} {I : TI} {U : TU} {P : TP} {a b : Nat} (ha : a < 4) (hb : b < 5) {r n : Nat} (ok : okR I) (hm : mlf I (5 * a + b) (nI n) = 0) (hr : I 66 (5 * a + b) = nI r) (hr20 : r < 20) (hn : n < 24) (hh : b = 2 → hd32 (U 69 (24 * r + n))) (h3 : b = 3) : MM l yX11_done cX11_done 10 (some .int) 3 D K A (I) (U) (P) [.ref (A 65), .int 4, .int (nI a), .int (nI b), .int (nI n), .int 0] (XE (some (.int (mfT b (24 * r + n) (mlaI b (24 * r + n) (vPart b (I 68 (24 * r + n)) 0) I) (mlaU b (24 * r + n) (fHo (FP.fdiv (U 69 (24 * r + n)) (FP.i2f 0))) U)).1)) (mfT b (24 * r + n) (mlaI b (24 * r + n) (vPart b (I 68 (24 * r + n)) 0) I) (mlaU b (24 * r + n) (fHo (FP.fdiv (U 69 (24 * r + n)) (FP.i2f 0))) U)).2.1 (mfT b (24 * r + n) (mlaI b (24 * r + n) (vPart b (I 68 (24 * r + n)) 0) I) (mlaU b (24 * r + n) (fHo (FP.fdiv (U 69 (24 * r + n)) (FP.i2f 0))) U)).2.2 P) := by
  refine MM.go (own := RX11) (lv0 := [some (.ref (A 65)), some (.int 4), some (.int (nI a)), some (.int (nI b)), some (.int (nI n)), some (.int 0), none, none, none, none]) rfl (by decide) rfl (Nat.le_of_ble_eq_true rfl) rfl ?_
  intro p e s m args below meth c C
  refine jx_iconst (v := 5) C dX11_done_0 (by decide) ?_
  refine jx_iload_n C dX11_done_1 rfl ?_
  refine jx_imul C dX11_done_2 ?_
  refine jx_iload_n C dX11_done_3 rfl ?_
  refine jx_iadd C dX11_done_4 ?_
  rw [pl5']
  refine jx_istore (lv1 := [_, _, _, _, _, _, _, _, _, _]) C dX11_done_5 (by decide) rfl ?_
  refine jx_iconst (v := 0) C dX11_done_7 (by decide) ?_
  refine jx_istore (lv1 := [_, _, _, _, _, _, _, _, _, _]) C dX11_done_8 (by decide) rfl ?_
  refine jx_iload_n C dX11_done_10 rfl ?_
  refine jx_iconst (v := 1) C dX11_done_11 (by decide) ?_
  refine jx_ic_neT (tgt := 34) C dX11_done_12 (by decide) (by decide) ?_
  refine jx_aload_n C dX11_done_34 rfl ?_
  refine jx_iload C dX11_done_35 rfl ?_
  refine jx_iload C dX11_done_37 rfl ?_
  refine jx_one C (jr_V C (c_11_wrong (by omega) ok) vw_11_84 (by decide) gg_65 rfl rfl ⟨Nat.le_of_ble_eq_true rfl, Nat.le_of_ble_eq_true rfl⟩ ⟨Nat.le_of_ble_eq_true rfl, Nat.le_of_ble_eq_true rfl⟩ dX11_done_39 rfl (Nat.le_of_ble_eq_true rfl)) ?_
  rw [hm]
  refine jx_istore (lv1 := [_, _, _, _, _, _, _, _, _, _]) C dX11_done_42 (by decide) rfl ?_
  refine jx_iload C dX11_done_44 rfl ?_
  refine jx_if_eqT (tgt := 56) C dX11_done_46 (by decide) rfl ?_
  refine jx_iload_n C dX11_done_56 rfl ?_
  refine jx_iconst (v := 2) C dX11_done_57 (by decide) ?_
  refine jx_ic_neT (tgt := 74) C dX11_done_58 (by decide) (by decide) ?_
  refine jx_iload_n C dX11_done_74 rfl ?_
  refine jx_iconst (v := 4) C dX11_done_75 (by decide) ?_
  refine jx_ic_neF (tgt := 95) C dX11_done_76 (by decide) (by decide) ?_
  refine jx_iload C dX11_done_79 rfl ?_
  refine jx_if_neF (tgt := 95) C dX11_done_81 (by decide) (by decide) ?_
  refine jx_iload_n C dX11_done_84 rfl ?_
  refine jx_iconst (v := 3) C dX11_done_85 (by decide) ?_
  refine jx_ic_eqT (tgt := 95) C dX11_done_86 (by decide) (by rw [h3]; rfl) ?_
  refine jx_bipush (v := 24) C dX11_done_95 (by decide) ?_
  refine jx_aload_n C dX11_done_97 rfl ?_
  refine jx_get C fl_11_7_10 dX11_done_98 (by decide) gg_65 rfl ?_
  refine jx_iload C dX11_done_101 rfl ?_
  refine jx_iald (5 * a + b) C dX11_done_103 (by decide) gg_66 rfl (by omega) (by decide) ?_
  rw [hr]
  refine jx_imul C dX11_done_104 ?_
  refine jx_iload C dX11_done_105 rfl ?_
  refine jx_iadd C dX11_done_107 ?_
  rw [ix24']
  refine jx_istore (lv1 := [_, _, _, _, _, _, _, _, _, _]) C dX11_done_108 (by decide) rfl ?_
  refine jx_iload_n C dX11_done_110 rfl ?_
  refine jx_iconst (v := 1) C dX11_done_111 (by decide) ?_
  refine jx_ic_neT (tgt := 124) C dX11_done_112 (by decide) (by decide) ?_
  refine jx_iload_n C dX11_done_124 rfl ?_
  refine jx_iconst (v := 2) C dX11_done_125 (by decide) ?_
  refine jx_ic_neT (tgt := 140) C dX11_done_126 (by decide) (by decide) ?_
  refine jx_iload_n C dX11_done_140 rfl ?_
  refine jx_iconst (v := 3) C dX11_done_141 (by decide) ?_
  refine jx_ic_neT (tgt := 163) C dX11_done_142 (by decide) (by decide) ?_
  refine jx_iload_n C dX11_done_163 rfl ?_
  refine jx_iconst (v := 4) C dX11_done_164 (by decide) ?_
  refine jx_ic_neF (tgt := 177) C dX11_done_165 (by decide) (by decide) ?_
  refine jx_aload_n C dX11_done_168 rfl ?_
  refine jx_iload_n C dX11_done_169 rfl ?_
  refine jx_iload C dX11_done_170 rfl ?_
  refine jx_iload C dX11_done_172 rfl ?_
  refine jx_void C (jr_V C (c_11_part hb (by omega) hh (Or.inr h3)) vw_11_94 (by decide) gg_65 rfl rfl ⟨Nat.le_of_ble_eq_true rfl, Nat.le_of_ble_eq_true rfl⟩ ⟨Nat.le_of_ble_eq_true rfl, Nat.le_of_ble_eq_true rfl⟩ dX11_done_174 rfl (Nat.le_of_ble_eq_true rfl)) ?_
  refine jx_aload_n C dX11_done_177 rfl ?_
  refine jx_aload_n C dX11_done_178 rfl ?_
  refine jx_iload_n C dX11_done_179 rfl ?_
  refine jx_iload C dX11_done_180 rfl ?_
  refine jx_one C (jr_V C (c_11_tells hb (by omega) (fun h => absurd h (by omega))) vw_11_97 (by decide) gg_65 rfl rfl ⟨Nat.le_of_ble_eq_true rfl, Nat.le_of_ble_eq_true rfl⟩ ⟨Nat.le_of_ble_eq_true rfl, Nat.le_of_ble_eq_true rfl⟩ dX11_done_182 rfl (Nat.le_of_ble_eq_true rfl)) ?_
  refine jx_one C (jr_V C (c_11_good) vw_11_58 (by decide) gg_65 rfl rfl ⟨Nat.le_of_ble_eq_true rfl, Nat.le_of_ble_eq_true rfl⟩ ⟨Nat.le_of_ble_eq_true rfl, Nat.le_of_ble_eq_true rfl⟩ dX11_done_185 rfl (Nat.le_of_ble_eq_true rfl)) ?_
  exact jx_iret C dX11_done_188 ⟨rfl, rfl, rfl, rfl⟩
def dnD (kd : Nat) (I : TI) : TI := if kd = 1 then mdq I else I
def dnE (kd b at0 : Nat) (v : Int32) (I : TI) (U : TU) : Int32 × TI × TU :=
  if kd = 1 then mfT b at0 (mlaI b at0 (cutTo b (I 70 0)) (mdq I)) (mlaU b at0 (fHo (f8 (I 70 0))) U)
  else if kd = 2 then (if I 65 5 = 0 then (0, mtel I 4, U) else mfT b at0 (mlaI b at0 (vPull b (I 68 at0) (I 70 0)) (mdq I)) (mlaU b at0 (fHo (FP.fadd (U 69 at0) (f8 (I 70 0)))) U))
  else if kd = 3 then mfT b at0 (mlaI b at0 (vPull b (I 68 at0) 1) I) (mlaU b at0 (fHo (FP.fadd (U 69 at0) (f8 8))) U)
  else if kd = 4 then (if v = 0 ∧ ¬ b = 3 then (0, mtel I 5, U) else mfT b at0 (mlaI b at0 (vPart b (I 68 at0) v) I) (mlaU b at0 (fHo (FP.fdiv (U 69 at0) (FP.i2f v))) U))
  else mfT b at0 I U
/-- an act of kind kd at the end i of lane pl, of sort b -/
def dn (kd pl b : Nat) (i v : Int32) (I : TI) (U : TU) : Int32 × TI × TU :=
  if kd = 1 ∧ I 65 5 = 0 then (0, mtel I 4, U) else
  if mlf I pl i = 0 then dnE kd b (24 * rN I pl + i.toNatClampNeg) v I U else (0, mtel (dnD kd I) (mlf I pl i), U)
def mokS (I : TI) : Prop := ∃ co : Nat, I 65 5 = nI co ∧ co ≤ 16
/-- rows of ends: their numbers -/
def mokN (I : TI) : Prop := ∀ r, r < 20 → ∃ c : Nat, c ≤ 24 ∧ I 67 r = nI c
set_option maxRecDepth 100000 in
set_option maxHeartbeats 4000000 in
theorem c_11_done {l : Launch} {D : va_G} {K : Nat → ClassId} {A : Nat → Nat} {I : TI} {U : TU} {P : TP} {kd a b : Nat} {x v : Int32} (hkd : kd < 5) (ha : a < 4) (hb : b < 5) (hs : mokS I) (ok : okR I) (hN : mokN I) (hU : mokU U) : MM l yX11_done cX11_done 10 (some .int) 3 D K A I U P [.ref (A 65), .int (nI kd), .int (nI a), .int (nI b), .int x, .int v] (XE (some (.int (dn kd (5 * a + b) b x v I U).1)) (dn kd (5 * a + b) b x v I U).2.1 (dn kd (5 * a + b) b x v I U).2.2 P) := by
  obtain ⟨co, hco, h16⟩ := hs
  have fact : mlf I (5 * a + b) x = 0 → ∃ r n : Nat, r < 20 ∧ n < 24 ∧ I 66 (5 * a + b) = nI r ∧ x = nI n := by
    intro hm
    rcases ok (5 * a + b) (by omega) with h | ⟨r, hr, h⟩
    · rw [mlf, if_pos h] at hm; cases hm
    · have hne : ¬ I 66 (5 * a + b) = -1 := by rw [h]; exact nI_m1 (by omega)
      have hrr : rN I (5 * a + b) = r := by unfold rN; rw [h, nI_clamp (by omega)]
      rw [mlf, if_neg hne, hrr] at hm
      obtain ⟨c, hc, hcc⟩ := hN r hr
      rw [hcc] at hm
      by_cases hin : inR (nI c) x
      · obtain ⟨n, hn, rfl⟩ := inR_of (by omega) hin
        exact ⟨r, n, hr, by omega, h, rfl⟩
      · rw [if_neg hin] at hm; cases hm
  by_cases k1 : kd = 1
  · subst k1
    by_cases h0 : I 65 5 = 0
    · rw [show dn 1 (5 * a + b) b x v I U = (0, mtel I 4, U) by simp [dn, h0]]
      exact c_11_done_1e ha hb h0
    · obtain ⟨co, rfl⟩ : ∃ c' : Nat, co = c' + 1 := by
        refine ⟨co - 1, ?_⟩
        have : co ≠ 0 := fun q => h0 (by rw [hco, q]; rfl)
        omega
      by_cases hm : mlf I (5 * a + b) x = 0
      · obtain ⟨r, n, hr, hn, hrr, rfl⟩ := fact hm
        have er : rN I (5 * a + b) = r := by unfold rN; rw [hrr, nI_clamp (by omega)]
        rw [show dn 1 (5 * a + b) b (nI n) v I U = dnE 1 b (24 * r + n) v I U by simp only [dn, h0, and_false, if_false, if_pos hm, er, nI_clamp (show n < 2 ^ 31 by omega)]]
        exact c_11_done_1 ha hb ok hm hrr hr hn (fun _ => hU _ (by omega)) hco (by omega)
      · rw [show dn 1 (5 * a + b) b x v I U = (0, mtel (mdq I) (mlf I (5 * a + b) x), U) by simp only [dn, h0, and_false, if_false, if_neg hm, dnD]; rfl]
        exact c_11_done_1w ha hb ok hm hco (by omega)
  · have hne : ¬ nI kd = 1 := by
      rw [show (1 : Int32) = nI 1 from rfl, nI_eq (by omega) (by decide)]
      exact k1
    have hD : dnD kd I = I := by rw [dnD, if_neg k1]
    by_cases hm : mlf I (5 * a + b) x = 0
    · obtain ⟨r, n, hr, hn, hrr, rfl⟩ := fact hm
      clear fact
      have er : rN I (5 * a + b) = r := by unfold rN; rw [hrr, nI_clamp (by omega)]
      have hh : b = 2 → hd32 (U 69 (24 * r + n)) := fun _ => hU _ (by omega)
      rw [show dn kd (5 * a + b) b (nI n) v I U = dnE kd b (24 * r + n) v I U by simp only [dn, k1, false_and, if_false, if_pos hm, er, nI_clamp (show n < 2 ^ 31 by omega)]]
      rcases (show kd = 0 ∨ kd = 2 ∨ kd = 3 ∨ kd = 4 by omega) with rfl | rfl | rfl | rfl
      · exact c_11_done_0 ha hb ok hm hrr hr hn hh
      · by_cases h0 : I 65 5 = 0
        · rw [show dnE 2 b (24 * r + n) v I U = (0, mtel I 4, U) by simp [dnE, h0]]
          exact c_11_done_2e ha hb ok hm hrr hr hn hh h0
        · obtain ⟨co, rfl⟩ : ∃ c' : Nat, co = c' + 1 := by
            refine ⟨co - 1, ?_⟩
            have : co ≠ 0 := fun q => h0 (by rw [hco, q]; rfl)
            omega
          rw [show dnE 2 b (24 * r + n) v I U = mfT b (24 * r + n) (mlaI b (24 * r + n) (vPull b (I 68 (24 * r + n)) (I 70 0)) (mdq I)) (mlaU b (24 * r + n) (fHo (FP.fadd (U 69 (24 * r + n)) (f8 (I 70 0)))) U) by simp [dnE, h0]]
          exact c_11_done_2 ha hb ok hm hrr hr hn hh hco (by omega)
      · by_cases h2 : b = 2
        · subst h2
          exact c_11_done_3t ha ok hm hrr hr hn (hh rfl)
        · exact c_11_done_3n ha hb ok hm hrr hr hn hh h2
      · by_cases hv : v = 0
        · subst hv
          by_cases h3 : b = 3
          · rw [show dnE 4 b (24 * r + n) 0 I U = mfT b (24 * r + n) (mlaI b (24 * r + n) (vPart b (I 68 (24 * r + n)) 0) I) (mlaU b (24 * r + n) (fHo (FP.fdiv (U 69 (24 * r + n)) (FP.i2f 0))) U) by simp only [dnE, h3]; rfl]
            exact c_11_done_4b ha hb ok hm hrr hr hn hh h3
          · rw [show dnE 4 b (24 * r + n) 0 I U = (0, mtel I 5, U) by simp [dnE, h3]]
            exact c_11_done_4z ha hb ok hm hrr hr hn hh h3
        · rw [show dnE 4 b (24 * r + n) v I U = mfT b (24 * r + n) (mlaI b (24 * r + n) (vPart b (I 68 (24 * r + n)) v) I) (mlaU b (24 * r + n) (fHo (FP.fdiv (U 69 (24 * r + n)) (FP.i2f v))) U) by simp only [dnE, hv]; rfl]
          exact c_11_done_4a ha hb ok hm hrr hr hn hh hv
    · rw [show dn kd (5 * a + b) b x v I U = (0, mtel I (mlf I (5 * a + b) x), U) by simp only [dn, k1, false_and, if_false, if_neg hm, hD]]
      exact c_11_done_gw hne ha hb ok hm
