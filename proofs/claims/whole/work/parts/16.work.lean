/-! one act at an end: work() -/
def bg (I : TI) : TI := up2 I 63 1 0
def tel (I : TI) (f : Nat) : TI := up2 (up2 I 63 1 (nI f)) 64 f (I 64 f + 1)
def fiN (I : TI) : Nat := (I 44 1).toNatClampNeg
def coN (I : TI) : Nat := (I 44 2).toNatClampNeg
def dqI (I : TI) : TI := up2 (up2 I 44 1 (nI ((fiN I + 1) % 16))) 44 2 (nI (coN I - 1))
def dqV (I : TI) : Int32 := I 45 (fiN I)
def okS (I : TI) : Prop := ∃ fi co : Nat, I 44 1 = nI fi ∧ I 44 2 = nI co ∧ fi < 16 ∧ co ≤ 16
theorem okE_la {I : TI} {U : TU} {k n : Nat} {x : Int32} {y : UInt32} (hx : k % 5 = 3 → x = 0 ∨ x = 1) (hy : k % 5 = 2 → hd32 y) : okE (laI k n x I) (laU k n y U) k n := by
  unfold okE laI laU
  constructor
  · intro h
    rw [if_neg (by omega), up2_same]
    exact hx h
  · intro h
    rw [if_pos h, up2_same]
    exact hy h
theorem cut3 {so : Nat} (h : so = 3) (v : Int32) : cutTo so v = 0 ∨ cutTo so v = 1 := by
  subst h
  exact bit1 v
theorem pull3 {so : Nat} (h : so = 3) {x v : Int32} (hx : x = 0 ∨ x = 1) : vPull so x v = 0 ∨ vPull so x v = 1 := by
  rw [vPull, if_pos h]
  rcases hx with rfl | rfl <;> rcases bit1 v with h | h <;> rw [h] <;> decide
theorem part3 {so : Nat} (h : so = 3) {x v : Int32} (hx : x = 0 ∨ x = 1) : vPart so x v = 0 ∨ vPart so x v = 1 := by
  rw [vPart, if_pos h]
  exact bit1 _
theorem okLay {I : TI} {U : TU} {k n : Nat} {v : Int32} : okE (laI k n (cutTo (k % 5) v) I) (laU k n (fHo (f8 v)) U) k n := okE_la (fun h => cut3 h v) (fun _ => hd_ho (f8_nan v))
theorem notnan {r : UInt32} (h : vf_n32 r) : FP.Core.fIsNaN r = false := by
  unfold vf_n32 at h
  rw [UInt32.le_iff_toNat_le, UInt32.toNat_and] at h
  have e : (2147483647 : UInt32).toNat = 2 ^ 31 - 1 := rfl
  have e2 : (2139095040 : UInt32).toNat = 2139095040 := rfl
  have h : r.toNat &&& (2147483647 : UInt32).toNat ≤ (2139095040 : UInt32).toNat := h
  rw [e, e2, Nat.and_two_pow_sub_one_eq_mod] at h
  cases hh : FP.Core.fIsNaN r with
  | false => rfl
  | true =>
    have := (FP.Core.isNaN_bits32 r).mp hh
    omega
theorem okPull {I I' : TI} {U : TU} {k n : Nat} {v w : Int32} (ok : okE I U k n) : okE (laI k n (vPull (k % 5) (I (5 + 2 * k) n) v) I') (laU k n (fHo (FP.fadd (U (5 + 2 * k) n) (f8 w))) U) k n := okE_la (fun h => pull3 h (ok.1 h)) (fun h => hd_ho (notnan (nn_add (ok.2 h) (f8_nan w))))
theorem okPart {I I' : TI} {U : TU} {k n : Nat} {v : Int32} (ok : okE I U k n) (hv : ¬ v = 0 ∨ k % 5 = 3) : okE (laI k n (vPart (k % 5) (I (5 + 2 * k) n) v) I') (laU k n (fHo (FP.fdiv (U (5 + 2 * k) n) (FP.i2f v))) U) k n := okE_la (fun h => part3 h (ok.1 h)) (fun h => hd_ho (notnan (nn_div (ok.2 h) (hv.resolve_right (by omega)))))
set_option maxRecDepth 100000 in
set_option maxHeartbeats 4000000 in
theorem c_10_work_1eN {l : Launch} {D : va_G} {K : Nat → ClassId} {A : Nat → Nat} {I : TI} {U : TU} {P : TP} {x v : Int32} (h0 : I 44 2 = 0) : MM l yX10_work cX10_work 7 (some .int) 3 D K A (I) (U) (P) [.ref (A 0), .int 1, .null, .int x, .int v] (XE (some (.int 0)) (tel (up2 I 63 1 0) 4) U P) := by
  refine MM.go (own := RX10) (lv0 := [some (.ref (A 0)), some (.int 1), some (.null), some (.int x), some (.int v), none, none]) rfl (by decide) rfl (Nat.le_of_ble_eq_true rfl) rfl ?_
  intro p e s m args below meth c C
  refine jx_aload_n C dX10_work_0 rfl ?_
  refine jx_get C fl_10_40_9 dX10_work_1 (by decide) gg_0 rfl ?_
  refine jx_void C (jr_V C (c_4_begin) vw_10_59 (by decide) gg_63 rfl rfl ⟨Nat.le_of_ble_eq_true rfl, Nat.le_of_ble_eq_true rfl⟩ ⟨Nat.le_of_ble_eq_true rfl, Nat.le_of_ble_eq_true rfl⟩ dX10_work_4 rfl (Nat.le_of_ble_eq_true rfl)) ?_
  refine jx_iload C dX10_work_7 rfl ?_
  refine jx_istore (lv1 := [_, _, _, _, _, _, _]) C dX10_work_9 (by decide) rfl ?_
  refine jx_iload_n C dX10_work_11 rfl ?_
  refine jx_iconst (v := 1) C dX10_work_12 (by decide) ?_
  refine jx_ic_neF (tgt := 44) C dX10_work_13 (by decide) (by decide) ?_
  refine jx_aload_n C dX10_work_16 rfl ?_
  refine jx_get C fl_10_19_9 dX10_work_17 (by decide) gg_0 rfl ?_
  refine jx_one C (jr_V C (c_6_isEmpty) vw_10_186 (by decide) gg_44 rfl rfl ⟨Nat.le_of_ble_eq_true rfl, Nat.le_of_ble_eq_true rfl⟩ ⟨Nat.le_of_ble_eq_true rfl, Nat.le_of_ble_eq_true rfl⟩ dX10_work_20 rfl (Nat.le_of_ble_eq_true rfl)) ?_
  rw [up2_ne (by omega), bI_t h0]
  refine jx_if_eqF (tgt := 35) C dX10_work_23 (by decide) (by decide) ?_
  refine jx_aload_n C dX10_work_26 rfl ?_
  refine jx_get C fl_10_40_9 dX10_work_27 (by decide) gg_0 rfl ?_
  refine jx_iconst (v := 4) C dX10_work_30 (by decide) ?_
  refine jx_one C (jr_V C (c_4_tell (f := 4) (by decide) (by decide)) vw_10_62 (by decide) gg_63 rfl rfl ⟨Nat.le_of_ble_eq_true rfl, Nat.le_of_ble_eq_true rfl⟩ ⟨Nat.le_of_ble_eq_true rfl, Nat.le_of_ble_eq_true rfl⟩ dX10_work_31 rfl (Nat.le_of_ble_eq_true rfl)) ?_
  exact jx_iret C dX10_work_34 ⟨rfl, rfl, rfl, rfl⟩
set_option maxRecDepth 100000 in
set_option maxHeartbeats 4000000 in
theorem c_10_work_1eR {l : Launch} {D : va_G} {K : Nat → ClassId} {A : Nat → Nat} {I : TI} {U : TU} {P : TP} {x v : Int32} {y : Nat} (h0 : I 44 2 = 0) : MM l yX10_work cX10_work 7 (some .int) 3 D K A (I) (U) (P) [.ref (A 0), .int 1, .ref y, .int x, .int v] (XE (some (.int 0)) (tel (up2 I 63 1 0) 4) U P) := by
  refine MM.go (own := RX10) (lv0 := [some (.ref (A 0)), some (.int 1), some (.ref y), some (.int x), some (.int v), none, none]) rfl (by decide) rfl (Nat.le_of_ble_eq_true rfl) rfl ?_
  intro p e s m args below meth c C
  refine jx_aload_n C dX10_work_0 rfl ?_
  refine jx_get C fl_10_40_9 dX10_work_1 (by decide) gg_0 rfl ?_
  refine jx_void C (jr_V C (c_4_begin) vw_10_59 (by decide) gg_63 rfl rfl ⟨Nat.le_of_ble_eq_true rfl, Nat.le_of_ble_eq_true rfl⟩ ⟨Nat.le_of_ble_eq_true rfl, Nat.le_of_ble_eq_true rfl⟩ dX10_work_4 rfl (Nat.le_of_ble_eq_true rfl)) ?_
  refine jx_iload C dX10_work_7 rfl ?_
  refine jx_istore (lv1 := [_, _, _, _, _, _, _]) C dX10_work_9 (by decide) rfl ?_
  refine jx_iload_n C dX10_work_11 rfl ?_
  refine jx_iconst (v := 1) C dX10_work_12 (by decide) ?_
  refine jx_ic_neF (tgt := 44) C dX10_work_13 (by decide) (by decide) ?_
  refine jx_aload_n C dX10_work_16 rfl ?_
  refine jx_get C fl_10_19_9 dX10_work_17 (by decide) gg_0 rfl ?_
  refine jx_one C (jr_V C (c_6_isEmpty) vw_10_186 (by decide) gg_44 rfl rfl ⟨Nat.le_of_ble_eq_true rfl, Nat.le_of_ble_eq_true rfl⟩ ⟨Nat.le_of_ble_eq_true rfl, Nat.le_of_ble_eq_true rfl⟩ dX10_work_20 rfl (Nat.le_of_ble_eq_true rfl)) ?_
  rw [up2_ne (by omega), bI_t h0]
  refine jx_if_eqF (tgt := 35) C dX10_work_23 (by decide) (by decide) ?_
  refine jx_aload_n C dX10_work_26 rfl ?_
  refine jx_get C fl_10_40_9 dX10_work_27 (by decide) gg_0 rfl ?_
  refine jx_iconst (v := 4) C dX10_work_30 (by decide) ?_
  refine jx_one C (jr_V C (c_4_tell (f := 4) (by decide) (by decide)) vw_10_62 (by decide) gg_63 rfl rfl ⟨Nat.le_of_ble_eq_true rfl, Nat.le_of_ble_eq_true rfl⟩ ⟨Nat.le_of_ble_eq_true rfl, Nat.le_of_ble_eq_true rfl⟩ dX10_work_31 rfl (Nat.le_of_ble_eq_true rfl)) ?_
  exact jx_iret C dX10_work_34 ⟨rfl, rfl, rfl, rfl⟩
set_option maxRecDepth 100000 in
set_option maxHeartbeats 4000000 in
theorem c_10_work_1N {l : Launch} {D : va_G} {K : Nat → ClassId} {A : Nat → Nat} {I : TI} {U : TU} {P : TP} {x v : Int32} {fi co : Nat} (hfi : I 44 1 = nI fi) (hco : I 44 2 = nI (co + 1)) (h1 : fi < 16) (h2 : co < 16) : MM l yX10_work cX10_work 7 (some .int) 3 D K A (I) (U) (P) [.ref (A 0), .int 1, .null, .int x, .int v] (XE (some (.int 0)) (tel (up2 (up2 (up2 I 63 1 0) 44 1 (nI ((fi + 1) % 16))) 44 2 (nI co)) 1) U P) := by
  refine MM.go (own := RX10) (lv0 := [some (.ref (A 0)), some (.int 1), some (.null), some (.int x), some (.int v), none, none]) rfl (by decide) rfl (Nat.le_of_ble_eq_true rfl) rfl ?_
  intro p e s m args below meth c C
  refine jx_aload_n C dX10_work_0 rfl ?_
  refine jx_get C fl_10_40_9 dX10_work_1 (by decide) gg_0 rfl ?_
  refine jx_void C (jr_V C (c_4_begin) vw_10_59 (by decide) gg_63 rfl rfl ⟨Nat.le_of_ble_eq_true rfl, Nat.le_of_ble_eq_true rfl⟩ ⟨Nat.le_of_ble_eq_true rfl, Nat.le_of_ble_eq_true rfl⟩ dX10_work_4 rfl (Nat.le_of_ble_eq_true rfl)) ?_
  refine jx_iload C dX10_work_7 rfl ?_
  refine jx_istore (lv1 := [_, _, _, _, _, _, _]) C dX10_work_9 (by decide) rfl ?_
  refine jx_iload_n C dX10_work_11 rfl ?_
  refine jx_iconst (v := 1) C dX10_work_12 (by decide) ?_
  refine jx_ic_neF (tgt := 44) C dX10_work_13 (by decide) (by decide) ?_
  refine jx_aload_n C dX10_work_16 rfl ?_
  refine jx_get C fl_10_19_9 dX10_work_17 (by decide) gg_0 rfl ?_
  refine jx_one C (jr_V C (c_6_isEmpty) vw_10_186 (by decide) gg_44 rfl rfl ⟨Nat.le_of_ble_eq_true rfl, Nat.le_of_ble_eq_true rfl⟩ ⟨Nat.le_of_ble_eq_true rfl, Nat.le_of_ble_eq_true rfl⟩ dX10_work_20 rfl (Nat.le_of_ble_eq_true rfl)) ?_
  rw [up2_ne (by omega), bI_f (show ¬ I 44 2 = 0 by rw [hco]; exact nI_ne0 (by omega) (by omega))]
  refine jx_if_eqT (tgt := 35) C dX10_work_23 (by decide) (by decide) ?_
  refine jx_aload_n C dX10_work_35 rfl ?_
  refine jx_get C fl_10_19_9 dX10_work_36 (by decide) gg_0 rfl ?_
  refine jx_one C (jr_V C (c_6_draw (by rw [up2_ne (by omega)]; exact hfi) (by rw [up2_ne (by omega)]; exact hco) h1 h2) vw_10_189 (by decide) gg_44 rfl rfl ⟨Nat.le_of_ble_eq_true rfl, Nat.le_of_ble_eq_true rfl⟩ ⟨Nat.le_of_ble_eq_true rfl, Nat.le_of_ble_eq_true rfl⟩ dX10_work_39 rfl (Nat.le_of_ble_eq_true rfl)) ?_
  rw [up2_ne (by omega)]
  refine jx_istore (lv1 := [_, _, _, _, _, _, _]) C dX10_work_42 (by decide) rfl ?_
  refine jx_aload_nN C dX10_work_44 rfl ?_
  refine jx_ifnonnullN C dX10_work_45 ?_
  refine jx_aload_n C dX10_work_48 rfl ?_
  refine jx_get C fl_10_40_9 dX10_work_49 (by decide) gg_0 rfl ?_
  refine jx_iconst (v := 1) C dX10_work_52 (by decide) ?_
  refine jx_one C (jr_V C (c_4_tell (f := 1) (by decide) (by decide)) vw_10_62 (by decide) gg_63 rfl rfl ⟨Nat.le_of_ble_eq_true rfl, Nat.le_of_ble_eq_true rfl⟩ ⟨Nat.le_of_ble_eq_true rfl, Nat.le_of_ble_eq_true rfl⟩ dX10_work_53 rfl (Nat.le_of_ble_eq_true rfl)) ?_
  exact jx_iret C dX10_work_56 ⟨rfl, rfl, rfl, rfl⟩
set_option maxRecDepth 100000 in
set_option maxHeartbeats 4000000 in
theorem c_10_work_1o {l : Launch} {D : va_G} {K : Nat → ClassId} {A : Nat → Nat} {I : TI} {U : TU} {P : TP} {x v : Int32} {k : Nat} (hk : k < 20) (hin : ¬ inR (I (4 + 2 * k) 0) x) {fi co : Nat} (hfi : I 44 1 = nI fi) (hco : I 44 2 = nI (co + 1)) (h1 : fi < 16) (h2 : co < 16) : MM l yX10_work cX10_work 7 (some .int) 3 D K A (I) (U) (P) [.ref (A 0), .int 1, .ref (A (4 + 2 * k)), .int x, .int v] (XE (some (.int 0)) (tel (up2 (up2 (up2 I 63 1 0) 44 1 (nI ((fi + 1) % 16))) 44 2 (nI co)) 2) U P) := by
  refine MM.go (own := RX10) (lv0 := [some (.ref (A 0)), some (.int 1), some (.ref (A (4 + 2 * k))), some (.int x), some (.int v), none, none]) rfl (by decide) rfl (Nat.le_of_ble_eq_true rfl) rfl ?_
  intro p e s m args below meth c C
  refine jx_aload_n C dX10_work_0 rfl ?_
  refine jx_get C fl_10_40_9 dX10_work_1 (by decide) gg_0 rfl ?_
  refine jx_void C (jr_V C (c_4_begin) vw_10_59 (by decide) gg_63 rfl rfl ⟨Nat.le_of_ble_eq_true rfl, Nat.le_of_ble_eq_true rfl⟩ ⟨Nat.le_of_ble_eq_true rfl, Nat.le_of_ble_eq_true rfl⟩ dX10_work_4 rfl (Nat.le_of_ble_eq_true rfl)) ?_
  refine jx_iload C dX10_work_7 rfl ?_
  refine jx_istore (lv1 := [_, _, _, _, _, _, _]) C dX10_work_9 (by decide) rfl ?_
  refine jx_iload_n C dX10_work_11 rfl ?_
  refine jx_iconst (v := 1) C dX10_work_12 (by decide) ?_
  refine jx_ic_neF (tgt := 44) C dX10_work_13 (by decide) (by decide) ?_
  refine jx_aload_n C dX10_work_16 rfl ?_
  refine jx_get C fl_10_19_9 dX10_work_17 (by decide) gg_0 rfl ?_
  refine jx_one C (jr_V C (c_6_isEmpty) vw_10_186 (by decide) gg_44 rfl rfl ⟨Nat.le_of_ble_eq_true rfl, Nat.le_of_ble_eq_true rfl⟩ ⟨Nat.le_of_ble_eq_true rfl, Nat.le_of_ble_eq_true rfl⟩ dX10_work_20 rfl (Nat.le_of_ble_eq_true rfl)) ?_
  rw [up2_ne (by omega), bI_f (show ¬ I 44 2 = 0 by rw [hco]; exact nI_ne0 (by omega) (by omega))]
  refine jx_if_eqT (tgt := 35) C dX10_work_23 (by decide) (by decide) ?_
  refine jx_aload_n C dX10_work_35 rfl ?_
  refine jx_get C fl_10_19_9 dX10_work_36 (by decide) gg_0 rfl ?_
  refine jx_one C (jr_V C (c_6_draw (by rw [up2_ne (by omega)]; exact hfi) (by rw [up2_ne (by omega)]; exact hco) h1 h2) vw_10_189 (by decide) gg_44 rfl rfl ⟨Nat.le_of_ble_eq_true rfl, Nat.le_of_ble_eq_true rfl⟩ ⟨Nat.le_of_ble_eq_true rfl, Nat.le_of_ble_eq_true rfl⟩ dX10_work_39 rfl (Nat.le_of_ble_eq_true rfl)) ?_
  rw [up2_ne (by omega)]
  refine jx_istore (lv1 := [_, _, _, _, _, _, _]) C dX10_work_42 (by decide) rfl ?_
  refine jx_aload_n C dX10_work_44 rfl ?_
  refine jx_ifnonnull (tgt := 57) C dX10_work_45 (by decide) ?_
  refine jx_aload_n C dX10_work_57 rfl ?_
  refine jx_iload_n C dX10_work_58 rfl ?_
  refine jx_one C (jv_has C dX10_work_59 hk ⟨by decide, by decide⟩ ⟨Nat.zero_le _, Nat.zero_le _⟩ (Nat.le_of_ble_eq_true rfl)) ?_
  rw [up2_ne (by omega), up2_ne (by omega), up2_ne (by omega), bI_f hin]
  refine jx_if_neF (tgt := 74) C dX10_work_62 (by decide) (by decide) ?_
  refine jx_aload_n C dX10_work_65 rfl ?_
  refine jx_get C fl_10_40_9 dX10_work_66 (by decide) gg_0 rfl ?_
  refine jx_iconst (v := 2) C dX10_work_69 (by decide) ?_
  refine jx_one C (jr_V C (c_4_tell (f := 2) (by decide) (by decide)) vw_10_62 (by decide) gg_63 rfl rfl ⟨Nat.le_of_ble_eq_true rfl, Nat.le_of_ble_eq_true rfl⟩ ⟨Nat.le_of_ble_eq_true rfl, Nat.le_of_ble_eq_true rfl⟩ dX10_work_70 rfl (Nat.le_of_ble_eq_true rfl)) ?_
  exact jx_iret C dX10_work_73 ⟨rfl, rfl, rfl, rfl⟩
set_option maxRecDepth 100000 in
set_option maxHeartbeats 4000000 in
theorem c_10_work_1 {l : Launch} {D : va_G} {K : Nat → ClassId} {A : Nat → Nat} {I : TI} {U : TU} {P : TP} {k n : Nat} {v : Int32} (hk : k < 20) (hn : n < 24) (hin : inR (I (4 + 2 * k) 0) (nI n)) {fi co : Nat} (hfi : I 44 1 = nI fi) (hco : I 44 2 = nI (co + 1)) (h1 : fi < 16) (h2 : co < 16) : MM l yX10_work cX10_work 7 (some .int) 3 D K A (I) (U) (P) [.ref (A 0), .int 1, .ref (A (4 + 2 * k)), .int (nI n), .int v] (XE (some (.int (tl (laI k n (cutTo (k % 5) (I 45 fi)) (up2 (up2 (up2 I 63 1 0) 44 1 (nI ((fi + 1) % 16))) 44 2 (nI co))) (laU k n (fHo (f8 (I 45 fi))) U) k n))) (laI k n (cutTo (k % 5) (I 45 fi)) (up2 (up2 (up2 I 63 1 0) 44 1 (nI ((fi + 1) % 16))) 44 2 (nI co))) (laU k n (fHo (f8 (I 45 fi))) U) P) := by
  refine MM.go (own := RX10) (lv0 := [some (.ref (A 0)), some (.int 1), some (.ref (A (4 + 2 * k))), some (.int (nI n)), some (.int v), none, none]) rfl (by decide) rfl (Nat.le_of_ble_eq_true rfl) rfl ?_
  intro p e s m args below meth c C
  refine jx_aload_n C dX10_work_0 rfl ?_
  refine jx_get C fl_10_40_9 dX10_work_1 (by decide) gg_0 rfl ?_
  refine jx_void C (jr_V C (c_4_begin) vw_10_59 (by decide) gg_63 rfl rfl ⟨Nat.le_of_ble_eq_true rfl, Nat.le_of_ble_eq_true rfl⟩ ⟨Nat.le_of_ble_eq_true rfl, Nat.le_of_ble_eq_true rfl⟩ dX10_work_4 rfl (Nat.le_of_ble_eq_true rfl)) ?_
  refine jx_iload C dX10_work_7 rfl ?_
  refine jx_istore (lv1 := [_, _, _, _, _, _, _]) C dX10_work_9 (by decide) rfl ?_
  refine jx_iload_n C dX10_work_11 rfl ?_
  refine jx_iconst (v := 1) C dX10_work_12 (by decide) ?_
  refine jx_ic_neF (tgt := 44) C dX10_work_13 (by decide) (by decide) ?_
  refine jx_aload_n C dX10_work_16 rfl ?_
  refine jx_get C fl_10_19_9 dX10_work_17 (by decide) gg_0 rfl ?_
  refine jx_one C (jr_V C (c_6_isEmpty) vw_10_186 (by decide) gg_44 rfl rfl ⟨Nat.le_of_ble_eq_true rfl, Nat.le_of_ble_eq_true rfl⟩ ⟨Nat.le_of_ble_eq_true rfl, Nat.le_of_ble_eq_true rfl⟩ dX10_work_20 rfl (Nat.le_of_ble_eq_true rfl)) ?_
  rw [up2_ne (by omega), bI_f (show ¬ I 44 2 = 0 by rw [hco]; exact nI_ne0 (by omega) (by omega))]
  refine jx_if_eqT (tgt := 35) C dX10_work_23 (by decide) (by decide) ?_
  refine jx_aload_n C dX10_work_35 rfl ?_
  refine jx_get C fl_10_19_9 dX10_work_36 (by decide) gg_0 rfl ?_
  refine jx_one C (jr_V C (c_6_draw (by rw [up2_ne (by omega)]; exact hfi) (by rw [up2_ne (by omega)]; exact hco) h1 h2) vw_10_189 (by decide) gg_44 rfl rfl ⟨Nat.le_of_ble_eq_true rfl, Nat.le_of_ble_eq_true rfl⟩ ⟨Nat.le_of_ble_eq_true rfl, Nat.le_of_ble_eq_true rfl⟩ dX10_work_39 rfl (Nat.le_of_ble_eq_true rfl)) ?_
  rw [up2_ne (by omega)]
  refine jx_istore (lv1 := [_, _, _, _, _, _, _]) C dX10_work_42 (by decide) rfl ?_
  refine jx_aload_n C dX10_work_44 rfl ?_
  refine jx_ifnonnull (tgt := 57) C dX10_work_45 (by decide) ?_
  refine jx_aload_n C dX10_work_57 rfl ?_
  refine jx_iload_n C dX10_work_58 rfl ?_
  refine jx_one C (jv_has C dX10_work_59 hk ⟨by decide, by decide⟩ ⟨Nat.zero_le _, Nat.zero_le _⟩ (Nat.le_of_ble_eq_true rfl)) ?_
  rw [up2_ne (by omega), up2_ne (by omega), up2_ne (by omega), bI_t hin]
  refine jx_if_neT (tgt := 74) C dX10_work_62 (by decide) (by decide) ?_
  refine jx_aload_n C dX10_work_74 rfl ?_
  refine jx_iload_n C dX10_work_75 rfl ?_
  refine jx_aload_n C dX10_work_76 rfl ?_
  refine jx_iload_n C dX10_work_77 rfl ?_
  refine jx_iload C dX10_work_78 rfl ?_
  refine jx_one C (jr_V C (c_10_change1 hk hn) vw_10_192 (by decide) gg_0 rfl rfl ⟨Nat.le_of_ble_eq_true rfl, Nat.le_of_ble_eq_true rfl⟩ ⟨Nat.le_of_ble_eq_true rfl, Nat.le_of_ble_eq_true rfl⟩ dX10_work_80 rfl (Nat.le_of_ble_eq_true rfl)) ?_
  refine jx_istore (lv1 := [_, _, _, _, _, _, _]) C dX10_work_83 (by decide) rfl ?_
  refine jx_iload C dX10_work_85 rfl ?_
  refine jx_if_neF (tgt := 98) C dX10_work_87 (by decide) (by decide) ?_
  refine jx_aload_n C dX10_work_90 rfl ?_
  refine jx_iload_n C dX10_work_91 rfl ?_
  refine jx_one C (jv_tells C dX10_work_92 hk hn okLay ⟨by decide, by decide⟩ ⟨Nat.zero_le _, Nat.zero_le _⟩ (Nat.le_of_ble_eq_true rfl)) ?_
  refine jx_goto (tgt := 107) C dX10_work_95 (by decide) ?_
  exact jx_iret C dX10_work_107 ⟨rfl, rfl, rfl, rfl⟩
set_option maxRecDepth 100000 in
set_option maxHeartbeats 4000000 in
theorem c_10_work_gN {l : Launch} {D : va_G} {K : Nat → ClassId} {A : Nat → Nat} {I : TI} {U : TU} {P : TP} {kd : Nat} (hkd : ¬ nI kd = 1) {x v : Int32} : MM l yX10_work cX10_work 7 (some .int) 3 D K A (I) (U) (P) [.ref (A 0), .int (nI kd), .null, .int x, .int v] (XE (some (.int 0)) (tel (up2 I 63 1 0) 1) U P) := by
  refine MM.go (own := RX10) (lv0 := [some (.ref (A 0)), some (.int (nI kd)), some (.null), some (.int x), some (.int v), none, none]) rfl (by decide) rfl (Nat.le_of_ble_eq_true rfl) rfl ?_
  intro p e s m args below meth c C
  refine jx_aload_n C dX10_work_0 rfl ?_
  refine jx_get C fl_10_40_9 dX10_work_1 (by decide) gg_0 rfl ?_
  refine jx_void C (jr_V C (c_4_begin) vw_10_59 (by decide) gg_63 rfl rfl ⟨Nat.le_of_ble_eq_true rfl, Nat.le_of_ble_eq_true rfl⟩ ⟨Nat.le_of_ble_eq_true rfl, Nat.le_of_ble_eq_true rfl⟩ dX10_work_4 rfl (Nat.le_of_ble_eq_true rfl)) ?_
  refine jx_iload C dX10_work_7 rfl ?_
  refine jx_istore (lv1 := [_, _, _, _, _, _, _]) C dX10_work_9 (by decide) rfl ?_
  refine jx_iload_n C dX10_work_11 rfl ?_
  refine jx_iconst (v := 1) C dX10_work_12 (by decide) ?_
  refine jx_ic_neT (tgt := 44) C dX10_work_13 (by decide) hkd ?_
  refine jx_aload_nN C dX10_work_44 rfl ?_
  refine jx_ifnonnullN C dX10_work_45 ?_
  refine jx_aload_n C dX10_work_48 rfl ?_
  refine jx_get C fl_10_40_9 dX10_work_49 (by decide) gg_0 rfl ?_
  refine jx_iconst (v := 1) C dX10_work_52 (by decide) ?_
  refine jx_one C (jr_V C (c_4_tell (f := 1) (by decide) (by decide)) vw_10_62 (by decide) gg_63 rfl rfl ⟨Nat.le_of_ble_eq_true rfl, Nat.le_of_ble_eq_true rfl⟩ ⟨Nat.le_of_ble_eq_true rfl, Nat.le_of_ble_eq_true rfl⟩ dX10_work_53 rfl (Nat.le_of_ble_eq_true rfl)) ?_
  exact jx_iret C dX10_work_56 ⟨rfl, rfl, rfl, rfl⟩
set_option maxRecDepth 100000 in
set_option maxHeartbeats 4000000 in
theorem c_10_work_go {l : Launch} {D : va_G} {K : Nat → ClassId} {A : Nat → Nat} {I : TI} {U : TU} {P : TP} {kd : Nat} (hkd : ¬ nI kd = 1) {x v : Int32} {k : Nat} (hk : k < 20) (hin : ¬ inR (I (4 + 2 * k) 0) x) : MM l yX10_work cX10_work 7 (some .int) 3 D K A (I) (U) (P) [.ref (A 0), .int (nI kd), .ref (A (4 + 2 * k)), .int x, .int v] (XE (some (.int 0)) (tel (up2 I 63 1 0) 2) U P) := by
  refine MM.go (own := RX10) (lv0 := [some (.ref (A 0)), some (.int (nI kd)), some (.ref (A (4 + 2 * k))), some (.int x), some (.int v), none, none]) rfl (by decide) rfl (Nat.le_of_ble_eq_true rfl) rfl ?_
  intro p e s m args below meth c C
  refine jx_aload_n C dX10_work_0 rfl ?_
  refine jx_get C fl_10_40_9 dX10_work_1 (by decide) gg_0 rfl ?_
  refine jx_void C (jr_V C (c_4_begin) vw_10_59 (by decide) gg_63 rfl rfl ⟨Nat.le_of_ble_eq_true rfl, Nat.le_of_ble_eq_true rfl⟩ ⟨Nat.le_of_ble_eq_true rfl, Nat.le_of_ble_eq_true rfl⟩ dX10_work_4 rfl (Nat.le_of_ble_eq_true rfl)) ?_
  refine jx_iload C dX10_work_7 rfl ?_
  refine jx_istore (lv1 := [_, _, _, _, _, _, _]) C dX10_work_9 (by decide) rfl ?_
  refine jx_iload_n C dX10_work_11 rfl ?_
  refine jx_iconst (v := 1) C dX10_work_12 (by decide) ?_
  refine jx_ic_neT (tgt := 44) C dX10_work_13 (by decide) hkd ?_
  refine jx_aload_n C dX10_work_44 rfl ?_
  refine jx_ifnonnull (tgt := 57) C dX10_work_45 (by decide) ?_
  refine jx_aload_n C dX10_work_57 rfl ?_
  refine jx_iload_n C dX10_work_58 rfl ?_
  refine jx_one C (jv_has C dX10_work_59 hk ⟨by decide, by decide⟩ ⟨Nat.zero_le _, Nat.zero_le _⟩ (Nat.le_of_ble_eq_true rfl)) ?_
  rw [up2_ne (by omega), bI_f hin]
  refine jx_if_neF (tgt := 74) C dX10_work_62 (by decide) (by decide) ?_
  refine jx_aload_n C dX10_work_65 rfl ?_
  refine jx_get C fl_10_40_9 dX10_work_66 (by decide) gg_0 rfl ?_
  refine jx_iconst (v := 2) C dX10_work_69 (by decide) ?_
  refine jx_one C (jr_V C (c_4_tell (f := 2) (by decide) (by decide)) vw_10_62 (by decide) gg_63 rfl rfl ⟨Nat.le_of_ble_eq_true rfl, Nat.le_of_ble_eq_true rfl⟩ ⟨Nat.le_of_ble_eq_true rfl, Nat.le_of_ble_eq_true rfl⟩ dX10_work_70 rfl (Nat.le_of_ble_eq_true rfl)) ?_
  exact jx_iret C dX10_work_73 ⟨rfl, rfl, rfl, rfl⟩
set_option maxRecDepth 100000 in
set_option maxHeartbeats 4000000 in
theorem c_10_work_0 {l : Launch} {D : va_G} {K : Nat → ClassId} {A : Nat → Nat} {I : TI} {U : TU} {P : TP} {k n : Nat} {v : Int32} (hk : k < 20) (hn : n < 24) (hin : inR (I (4 + 2 * k) 0) (nI n)) (ok : okE I U k n) : MM l yX10_work cX10_work 7 (some .int) 3 D K A (I) (U) (P) [.ref (A 0), .int 0, .ref (A (4 + 2 * k)), .int (nI n), .int v] (XE (some (.int (tl (up2 I 63 1 0) U k n))) (up2 I 63 1 0) U P) := by
  refine MM.go (own := RX10) (lv0 := [some (.ref (A 0)), some (.int 0), some (.ref (A (4 + 2 * k))), some (.int (nI n)), some (.int v), none, none]) rfl (by decide) rfl (Nat.le_of_ble_eq_true rfl) rfl ?_
  intro p e s m args below meth c C
  refine jx_aload_n C dX10_work_0 rfl ?_
  refine jx_get C fl_10_40_9 dX10_work_1 (by decide) gg_0 rfl ?_
  refine jx_void C (jr_V C (c_4_begin) vw_10_59 (by decide) gg_63 rfl rfl ⟨Nat.le_of_ble_eq_true rfl, Nat.le_of_ble_eq_true rfl⟩ ⟨Nat.le_of_ble_eq_true rfl, Nat.le_of_ble_eq_true rfl⟩ dX10_work_4 rfl (Nat.le_of_ble_eq_true rfl)) ?_
  refine jx_iload C dX10_work_7 rfl ?_
  refine jx_istore (lv1 := [_, _, _, _, _, _, _]) C dX10_work_9 (by decide) rfl ?_
  refine jx_iload_n C dX10_work_11 rfl ?_
  refine jx_iconst (v := 1) C dX10_work_12 (by decide) ?_
  refine jx_ic_neT (tgt := 44) C dX10_work_13 (by decide) (by decide) ?_
  refine jx_aload_n C dX10_work_44 rfl ?_
  refine jx_ifnonnull (tgt := 57) C dX10_work_45 (by decide) ?_
  refine jx_aload_n C dX10_work_57 rfl ?_
  refine jx_iload_n C dX10_work_58 rfl ?_
  refine jx_one C (jv_has C dX10_work_59 hk ⟨by decide, by decide⟩ ⟨Nat.zero_le _, Nat.zero_le _⟩ (Nat.le_of_ble_eq_true rfl)) ?_
  rw [up2_ne (by omega), bI_t hin]
  refine jx_if_neT (tgt := 74) C dX10_work_62 (by decide) (by decide) ?_
  refine jx_aload_n C dX10_work_74 rfl ?_
  refine jx_iload_n C dX10_work_75 rfl ?_
  refine jx_aload_n C dX10_work_76 rfl ?_
  refine jx_iload_n C dX10_work_77 rfl ?_
  refine jx_iload C dX10_work_78 rfl ?_
  refine jx_one C (jr_V C (c_10_change0 hk hn) vw_10_192 (by decide) gg_0 rfl rfl ⟨Nat.le_of_ble_eq_true rfl, Nat.le_of_ble_eq_true rfl⟩ ⟨Nat.le_of_ble_eq_true rfl, Nat.le_of_ble_eq_true rfl⟩ dX10_work_80 rfl (Nat.le_of_ble_eq_true rfl)) ?_
  refine jx_istore (lv1 := [_, _, _, _, _, _, _]) C dX10_work_83 (by decide) rfl ?_
  refine jx_iload C dX10_work_85 rfl ?_
  refine jx_if_neF (tgt := 98) C dX10_work_87 (by decide) (by decide) ?_
  refine jx_aload_n C dX10_work_90 rfl ?_
  refine jx_iload_n C dX10_work_91 rfl ?_
  refine jx_one C (jv_tells C dX10_work_92 hk hn (okE_I ok (by omega)) ⟨by decide, by decide⟩ ⟨Nat.zero_le _, Nat.zero_le _⟩ (Nat.le_of_ble_eq_true rfl)) ?_
  refine jx_goto (tgt := 107) C dX10_work_95 (by decide) ?_
  exact jx_iret C dX10_work_107 ⟨rfl, rfl, rfl, rfl⟩
set_option maxRecDepth 100000 in
set_option maxHeartbeats 4000000 in
theorem c_10_work_2e {l : Launch} {D : va_G} {K : Nat → ClassId} {A : Nat → Nat} {I : TI} {U : TU} {P : TP} {k n : Nat} {v : Int32} (hk : k < 20) (hn : n < 24) (hin : inR (I (4 + 2 * k) 0) (nI n)) (h0 : I 44 2 = 0) : MM l yX10_work cX10_work 7 (some .int) 3 D K A (I) (U) (P) [.ref (A 0), .int 2, .ref (A (4 + 2 * k)), .int (nI n), .int v] (XE (some (.int 0)) (tel (up2 I 63 1 0) 4) U P) := by
  refine MM.go (own := RX10) (lv0 := [some (.ref (A 0)), some (.int 2), some (.ref (A (4 + 2 * k))), some (.int (nI n)), some (.int v), none, none]) rfl (by decide) rfl (Nat.le_of_ble_eq_true rfl) rfl ?_
  intro p e s m args below meth c C
  refine jx_aload_n C dX10_work_0 rfl ?_
  refine jx_get C fl_10_40_9 dX10_work_1 (by decide) gg_0 rfl ?_
  refine jx_void C (jr_V C (c_4_begin) vw_10_59 (by decide) gg_63 rfl rfl ⟨Nat.le_of_ble_eq_true rfl, Nat.le_of_ble_eq_true rfl⟩ ⟨Nat.le_of_ble_eq_true rfl, Nat.le_of_ble_eq_true rfl⟩ dX10_work_4 rfl (Nat.le_of_ble_eq_true rfl)) ?_
  refine jx_iload C dX10_work_7 rfl ?_
  refine jx_istore (lv1 := [_, _, _, _, _, _, _]) C dX10_work_9 (by decide) rfl ?_
  refine jx_iload_n C dX10_work_11 rfl ?_
  refine jx_iconst (v := 1) C dX10_work_12 (by decide) ?_
  refine jx_ic_neT (tgt := 44) C dX10_work_13 (by decide) (by decide) ?_
  refine jx_aload_n C dX10_work_44 rfl ?_
  refine jx_ifnonnull (tgt := 57) C dX10_work_45 (by decide) ?_
  refine jx_aload_n C dX10_work_57 rfl ?_
  refine jx_iload_n C dX10_work_58 rfl ?_
  refine jx_one C (jv_has C dX10_work_59 hk ⟨by decide, by decide⟩ ⟨Nat.zero_le _, Nat.zero_le _⟩ (Nat.le_of_ble_eq_true rfl)) ?_
  rw [up2_ne (by omega), bI_t hin]
  refine jx_if_neT (tgt := 74) C dX10_work_62 (by decide) (by decide) ?_
  refine jx_aload_n C dX10_work_74 rfl ?_
  refine jx_iload_n C dX10_work_75 rfl ?_
  refine jx_aload_n C dX10_work_76 rfl ?_
  refine jx_iload_n C dX10_work_77 rfl ?_
  refine jx_iload C dX10_work_78 rfl ?_
  refine jx_one C (jr_V C (c_10_change2e hk hn (by rw [up2_ne (by omega)]; exact h0)) vw_10_192 (by decide) gg_0 rfl rfl ⟨Nat.le_of_ble_eq_true rfl, Nat.le_of_ble_eq_true rfl⟩ ⟨Nat.le_of_ble_eq_true rfl, Nat.le_of_ble_eq_true rfl⟩ dX10_work_80 rfl (Nat.le_of_ble_eq_true rfl)) ?_
  refine jx_istore (lv1 := [_, _, _, _, _, _, _]) C dX10_work_83 (by decide) rfl ?_
  refine jx_iload C dX10_work_85 rfl ?_
  refine jx_if_neT (tgt := 98) C dX10_work_87 (by decide) (by decide) ?_
  refine jx_aload_n C dX10_work_98 rfl ?_
  refine jx_get C fl_10_40_9 dX10_work_99 (by decide) gg_0 rfl ?_
  refine jx_iload C dX10_work_102 rfl ?_
  refine jx_one C (jr_V C (c_4_tell (f := 4) (by decide) (by decide)) vw_10_62 (by decide) gg_63 rfl rfl ⟨Nat.le_of_ble_eq_true rfl, Nat.le_of_ble_eq_true rfl⟩ ⟨Nat.le_of_ble_eq_true rfl, Nat.le_of_ble_eq_true rfl⟩ dX10_work_104 rfl (Nat.le_of_ble_eq_true rfl)) ?_
  exact jx_iret C dX10_work_107 ⟨rfl, rfl, rfl, rfl⟩
set_option maxRecDepth 100000 in
set_option maxHeartbeats 4000000 in
theorem c_10_work_2 {l : Launch} {D : va_G} {K : Nat → ClassId} {A : Nat → Nat} {I : TI} {U : TU} {P : TP} {k n : Nat} {v : Int32} (hk : k < 20) (hn : n < 24) (hin : inR (I (4 + 2 * k) 0) (nI n)) (ok : okE I U k n) {fi co : Nat} (hfi : I 44 1 = nI fi) (hco : I 44 2 = nI (co + 1)) (h1 : fi < 16) (h2 : co < 16) : MM l yX10_work cX10_work 7 (some .int) 3 D K A (I) (U) (P) [.ref (A 0), .int 2, .ref (A (4 + 2 * k)), .int (nI n), .int v] (XE (some (.int (tl (laI k n (vPull (k % 5) (I (5 + 2 * k) n) (I 45 fi)) (up2 (up2 (up2 I 63 1 0) 44 1 (nI ((fi + 1) % 16))) 44 2 (nI co))) (laU k n (fHo (FP.fadd (U (5 + 2 * k) n) (f8 (I 45 fi)))) U) k n))) (laI k n (vPull (k % 5) (I (5 + 2 * k) n) (I 45 fi)) (up2 (up2 (up2 I 63 1 0) 44 1 (nI ((fi + 1) % 16))) 44 2 (nI co))) (laU k n (fHo (FP.fadd (U (5 + 2 * k) n) (f8 (I 45 fi)))) U) P) := by
  refine MM.go (own := RX10) (lv0 := [some (.ref (A 0)), some (.int 2), some (.ref (A (4 + 2 * k))), some (.int (nI n)), some (.int v), none, none]) rfl (by decide) rfl (Nat.le_of_ble_eq_true rfl) rfl ?_
  intro p e s m args below meth c C
  refine jx_aload_n C dX10_work_0 rfl ?_
  refine jx_get C fl_10_40_9 dX10_work_1 (by decide) gg_0 rfl ?_
  refine jx_void C (jr_V C (c_4_begin) vw_10_59 (by decide) gg_63 rfl rfl ⟨Nat.le_of_ble_eq_true rfl, Nat.le_of_ble_eq_true rfl⟩ ⟨Nat.le_of_ble_eq_true rfl, Nat.le_of_ble_eq_true rfl⟩ dX10_work_4 rfl (Nat.le_of_ble_eq_true rfl)) ?_
  refine jx_iload C dX10_work_7 rfl ?_
  refine jx_istore (lv1 := [_, _, _, _, _, _, _]) C dX10_work_9 (by decide) rfl ?_
  refine jx_iload_n C dX10_work_11 rfl ?_
  refine jx_iconst (v := 1) C dX10_work_12 (by decide) ?_
  refine jx_ic_neT (tgt := 44) C dX10_work_13 (by decide) (by decide) ?_
  refine jx_aload_n C dX10_work_44 rfl ?_
  refine jx_ifnonnull (tgt := 57) C dX10_work_45 (by decide) ?_
  refine jx_aload_n C dX10_work_57 rfl ?_
  refine jx_iload_n C dX10_work_58 rfl ?_
  refine jx_one C (jv_has C dX10_work_59 hk ⟨by decide, by decide⟩ ⟨Nat.zero_le _, Nat.zero_le _⟩ (Nat.le_of_ble_eq_true rfl)) ?_
  rw [up2_ne (by omega), bI_t hin]
  refine jx_if_neT (tgt := 74) C dX10_work_62 (by decide) (by decide) ?_
  refine jx_aload_n C dX10_work_74 rfl ?_
  refine jx_iload_n C dX10_work_75 rfl ?_
  refine jx_aload_n C dX10_work_76 rfl ?_
  refine jx_iload_n C dX10_work_77 rfl ?_
  refine jx_iload C dX10_work_78 rfl ?_
  refine jx_one C (jr_V C (c_10_change2 hk hn (okE_I ok (by omega)) (by rw [up2_ne (by omega)]; exact hfi) (by rw [up2_ne (by omega)]; exact hco) h1 h2) vw_10_192 (by decide) gg_0 rfl rfl ⟨Nat.le_of_ble_eq_true rfl, Nat.le_of_ble_eq_true rfl⟩ ⟨Nat.le_of_ble_eq_true rfl, Nat.le_of_ble_eq_true rfl⟩ dX10_work_80 rfl (Nat.le_of_ble_eq_true rfl)) ?_
  simp only [up2_ne (show ¬ (5 + 2 * k = 63 ∧ n = 1) by omega), up2_ne (show ¬ (45 = 63 ∧ fi = 1) by omega)]
  refine jx_istore (lv1 := [_, _, _, _, _, _, _]) C dX10_work_83 (by decide) rfl ?_
  refine jx_iload C dX10_work_85 rfl ?_
  refine jx_if_neF (tgt := 98) C dX10_work_87 (by decide) (by decide) ?_
  refine jx_aload_n C dX10_work_90 rfl ?_
  refine jx_iload_n C dX10_work_91 rfl ?_
  refine jx_one C (jv_tells C dX10_work_92 hk hn (okPull ok) ⟨by decide, by decide⟩ ⟨Nat.zero_le _, Nat.zero_le _⟩ (Nat.le_of_ble_eq_true rfl)) ?_
  refine jx_goto (tgt := 107) C dX10_work_95 (by decide) ?_
  exact jx_iret C dX10_work_107 ⟨rfl, rfl, rfl, rfl⟩
set_option maxRecDepth 100000 in
set_option maxHeartbeats 4000000 in
theorem c_10_work_3 {l : Launch} {D : va_G} {K : Nat → ClassId} {A : Nat → Nat} {I : TI} {U : TU} {P : TP} {k n : Nat} {v : Int32} (hk : k < 20) (hn : n < 24) (hin : inR (I (4 + 2 * k) 0) (nI n)) (ok : okE I U k n) : MM l yX10_work cX10_work 7 (some .int) 3 D K A (I) (U) (P) [.ref (A 0), .int 3, .ref (A (4 + 2 * k)), .int (nI n), .int v] (XE (some (.int (tl (laI k n (vPull (k % 5) (I (5 + 2 * k) n) 1) (up2 I 63 1 0)) (laU k n (fHo (FP.fadd (U (5 + 2 * k) n) (f8 8))) U) k n))) (laI k n (vPull (k % 5) (I (5 + 2 * k) n) 1) (up2 I 63 1 0)) (laU k n (fHo (FP.fadd (U (5 + 2 * k) n) (f8 8))) U) P) := by
  refine MM.go (own := RX10) (lv0 := [some (.ref (A 0)), some (.int 3), some (.ref (A (4 + 2 * k))), some (.int (nI n)), some (.int v), none, none]) rfl (by decide) rfl (Nat.le_of_ble_eq_true rfl) rfl ?_
  intro p e s m args below meth c C
  refine jx_aload_n C dX10_work_0 rfl ?_
  refine jx_get C fl_10_40_9 dX10_work_1 (by decide) gg_0 rfl ?_
  refine jx_void C (jr_V C (c_4_begin) vw_10_59 (by decide) gg_63 rfl rfl ⟨Nat.le_of_ble_eq_true rfl, Nat.le_of_ble_eq_true rfl⟩ ⟨Nat.le_of_ble_eq_true rfl, Nat.le_of_ble_eq_true rfl⟩ dX10_work_4 rfl (Nat.le_of_ble_eq_true rfl)) ?_
  refine jx_iload C dX10_work_7 rfl ?_
  refine jx_istore (lv1 := [_, _, _, _, _, _, _]) C dX10_work_9 (by decide) rfl ?_
  refine jx_iload_n C dX10_work_11 rfl ?_
  refine jx_iconst (v := 1) C dX10_work_12 (by decide) ?_
  refine jx_ic_neT (tgt := 44) C dX10_work_13 (by decide) (by decide) ?_
  refine jx_aload_n C dX10_work_44 rfl ?_
  refine jx_ifnonnull (tgt := 57) C dX10_work_45 (by decide) ?_
  refine jx_aload_n C dX10_work_57 rfl ?_
  refine jx_iload_n C dX10_work_58 rfl ?_
  refine jx_one C (jv_has C dX10_work_59 hk ⟨by decide, by decide⟩ ⟨Nat.zero_le _, Nat.zero_le _⟩ (Nat.le_of_ble_eq_true rfl)) ?_
  rw [up2_ne (by omega), bI_t hin]
  refine jx_if_neT (tgt := 74) C dX10_work_62 (by decide) (by decide) ?_
  refine jx_aload_n C dX10_work_74 rfl ?_
  refine jx_iload_n C dX10_work_75 rfl ?_
  refine jx_aload_n C dX10_work_76 rfl ?_
  refine jx_iload_n C dX10_work_77 rfl ?_
  refine jx_iload C dX10_work_78 rfl ?_
  refine jx_one C (jr_V C (c_10_change3 hk hn (okE_I ok (by omega))) vw_10_192 (by decide) gg_0 rfl rfl ⟨Nat.le_of_ble_eq_true rfl, Nat.le_of_ble_eq_true rfl⟩ ⟨Nat.le_of_ble_eq_true rfl, Nat.le_of_ble_eq_true rfl⟩ dX10_work_80 rfl (Nat.le_of_ble_eq_true rfl)) ?_
  simp only [up2_ne (show ¬ (5 + 2 * k = 63 ∧ n = 1) by omega)]
  refine jx_istore (lv1 := [_, _, _, _, _, _, _]) C dX10_work_83 (by decide) rfl ?_
  refine jx_iload C dX10_work_85 rfl ?_
  refine jx_if_neF (tgt := 98) C dX10_work_87 (by decide) (by decide) ?_
  refine jx_aload_n C dX10_work_90 rfl ?_
  refine jx_iload_n C dX10_work_91 rfl ?_
  refine jx_one C (jv_tells C dX10_work_92 hk hn (okPull ok) ⟨by decide, by decide⟩ ⟨Nat.zero_le _, Nat.zero_le _⟩ (Nat.le_of_ble_eq_true rfl)) ?_
  refine jx_goto (tgt := 107) C dX10_work_95 (by decide) ?_
  exact jx_iret C dX10_work_107 ⟨rfl, rfl, rfl, rfl⟩
set_option maxRecDepth 100000 in
set_option maxHeartbeats 4000000 in
theorem c_10_work_4z {l : Launch} {D : va_G} {K : Nat → ClassId} {A : Nat → Nat} {I : TI} {U : TU} {P : TP} {k n : Nat} (hk : k < 20) (h3 : ¬ k % 5 = 3) (hin : inR (I (4 + 2 * k) 0) (nI n)) : MM l yX10_work cX10_work 7 (some .int) 3 D K A (I) (U) (P) [.ref (A 0), .int 4, .ref (A (4 + 2 * k)), .int (nI n), .int 0] (XE (some (.int 0)) (tel (up2 I 63 1 0) 5) U P) := by
  refine MM.go (own := RX10) (lv0 := [some (.ref (A 0)), some (.int 4), some (.ref (A (4 + 2 * k))), some (.int (nI n)), some (.int 0), none, none]) rfl (by decide) rfl (Nat.le_of_ble_eq_true rfl) rfl ?_
  intro p e s m args below meth c C
  refine jx_aload_n C dX10_work_0 rfl ?_
  refine jx_get C fl_10_40_9 dX10_work_1 (by decide) gg_0 rfl ?_
  refine jx_void C (jr_V C (c_4_begin) vw_10_59 (by decide) gg_63 rfl rfl ⟨Nat.le_of_ble_eq_true rfl, Nat.le_of_ble_eq_true rfl⟩ ⟨Nat.le_of_ble_eq_true rfl, Nat.le_of_ble_eq_true rfl⟩ dX10_work_4 rfl (Nat.le_of_ble_eq_true rfl)) ?_
  refine jx_iload C dX10_work_7 rfl ?_
  refine jx_istore (lv1 := [_, _, _, _, _, _, _]) C dX10_work_9 (by decide) rfl ?_
  refine jx_iload_n C dX10_work_11 rfl ?_
  refine jx_iconst (v := 1) C dX10_work_12 (by decide) ?_
  refine jx_ic_neT (tgt := 44) C dX10_work_13 (by decide) (by decide) ?_
  refine jx_aload_n C dX10_work_44 rfl ?_
  refine jx_ifnonnull (tgt := 57) C dX10_work_45 (by decide) ?_
  refine jx_aload_n C dX10_work_57 rfl ?_
  refine jx_iload_n C dX10_work_58 rfl ?_
  refine jx_one C (jv_has C dX10_work_59 hk ⟨by decide, by decide⟩ ⟨Nat.zero_le _, Nat.zero_le _⟩ (Nat.le_of_ble_eq_true rfl)) ?_
  rw [up2_ne (by omega), bI_t hin]
  refine jx_if_neT (tgt := 74) C dX10_work_62 (by decide) (by decide) ?_
  refine jx_aload_n C dX10_work_74 rfl ?_
  refine jx_iload_n C dX10_work_75 rfl ?_
  refine jx_aload_n C dX10_work_76 rfl ?_
  refine jx_iload_n C dX10_work_77 rfl ?_
  refine jx_iload C dX10_work_78 rfl ?_
  refine jx_one C (jr_V C (c_10_change4z (n := n) hk h3) vw_10_192 (by decide) gg_0 rfl rfl ⟨Nat.le_of_ble_eq_true rfl, Nat.le_of_ble_eq_true rfl⟩ ⟨Nat.le_of_ble_eq_true rfl, Nat.le_of_ble_eq_true rfl⟩ dX10_work_80 rfl (Nat.le_of_ble_eq_true rfl)) ?_
  refine jx_istore (lv1 := [_, _, _, _, _, _, _]) C dX10_work_83 (by decide) rfl ?_
  refine jx_iload C dX10_work_85 rfl ?_
  refine jx_if_neT (tgt := 98) C dX10_work_87 (by decide) (by decide) ?_
  refine jx_aload_n C dX10_work_98 rfl ?_
  refine jx_get C fl_10_40_9 dX10_work_99 (by decide) gg_0 rfl ?_
  refine jx_iload C dX10_work_102 rfl ?_
  refine jx_one C (jr_V C (c_4_tell (f := 5) (by decide) (by decide)) vw_10_62 (by decide) gg_63 rfl rfl ⟨Nat.le_of_ble_eq_true rfl, Nat.le_of_ble_eq_true rfl⟩ ⟨Nat.le_of_ble_eq_true rfl, Nat.le_of_ble_eq_true rfl⟩ dX10_work_104 rfl (Nat.le_of_ble_eq_true rfl)) ?_
  exact jx_iret C dX10_work_107 ⟨rfl, rfl, rfl, rfl⟩
set_option maxRecDepth 100000 in
set_option maxHeartbeats 4000000 in
theorem c_10_work_4 {l : Launch} {D : va_G} {K : Nat → ClassId} {A : Nat → Nat} {I : TI} {U : TU} {P : TP} {k n : Nat} {v : Int32} (hk : k < 20) (hn : n < 24) (hin : inR (I (4 + 2 * k) 0) (nI n)) (ok : okE I U k n) (hv : ¬ v = 0 ∨ k % 5 = 3) : MM l yX10_work cX10_work 7 (some .int) 3 D K A (I) (U) (P) [.ref (A 0), .int 4, .ref (A (4 + 2 * k)), .int (nI n), .int v] (XE (some (.int (tl (laI k n (vPart (k % 5) (I (5 + 2 * k) n) v) (up2 I 63 1 0)) (laU k n (fHo (FP.fdiv (U (5 + 2 * k) n) (FP.i2f v))) U) k n))) (laI k n (vPart (k % 5) (I (5 + 2 * k) n) v) (up2 I 63 1 0)) (laU k n (fHo (FP.fdiv (U (5 + 2 * k) n) (FP.i2f v))) U) P) := by
  refine MM.go (own := RX10) (lv0 := [some (.ref (A 0)), some (.int 4), some (.ref (A (4 + 2 * k))), some (.int (nI n)), some (.int v), none, none]) rfl (by decide) rfl (Nat.le_of_ble_eq_true rfl) rfl ?_
  intro p e s m args below meth c C
  refine jx_aload_n C dX10_work_0 rfl ?_
  refine jx_get C fl_10_40_9 dX10_work_1 (by decide) gg_0 rfl ?_
  refine jx_void C (jr_V C (c_4_begin) vw_10_59 (by decide) gg_63 rfl rfl ⟨Nat.le_of_ble_eq_true rfl, Nat.le_of_ble_eq_true rfl⟩ ⟨Nat.le_of_ble_eq_true rfl, Nat.le_of_ble_eq_true rfl⟩ dX10_work_4 rfl (Nat.le_of_ble_eq_true rfl)) ?_
  refine jx_iload C dX10_work_7 rfl ?_
  refine jx_istore (lv1 := [_, _, _, _, _, _, _]) C dX10_work_9 (by decide) rfl ?_
  refine jx_iload_n C dX10_work_11 rfl ?_
  refine jx_iconst (v := 1) C dX10_work_12 (by decide) ?_
  refine jx_ic_neT (tgt := 44) C dX10_work_13 (by decide) (by decide) ?_
  refine jx_aload_n C dX10_work_44 rfl ?_
  refine jx_ifnonnull (tgt := 57) C dX10_work_45 (by decide) ?_
  refine jx_aload_n C dX10_work_57 rfl ?_
  refine jx_iload_n C dX10_work_58 rfl ?_
  refine jx_one C (jv_has C dX10_work_59 hk ⟨by decide, by decide⟩ ⟨Nat.zero_le _, Nat.zero_le _⟩ (Nat.le_of_ble_eq_true rfl)) ?_
  rw [up2_ne (by omega), bI_t hin]
  refine jx_if_neT (tgt := 74) C dX10_work_62 (by decide) (by decide) ?_
  refine jx_aload_n C dX10_work_74 rfl ?_
  refine jx_iload_n C dX10_work_75 rfl ?_
  refine jx_aload_n C dX10_work_76 rfl ?_
  refine jx_iload_n C dX10_work_77 rfl ?_
  refine jx_iload C dX10_work_78 rfl ?_
  refine jx_one C (jr_V C (c_10_change4 hk hn (okE_I ok (by omega)) hv) vw_10_192 (by decide) gg_0 rfl rfl ⟨Nat.le_of_ble_eq_true rfl, Nat.le_of_ble_eq_true rfl⟩ ⟨Nat.le_of_ble_eq_true rfl, Nat.le_of_ble_eq_true rfl⟩ dX10_work_80 rfl (Nat.le_of_ble_eq_true rfl)) ?_
  simp only [up2_ne (show ¬ (5 + 2 * k = 63 ∧ n = 1) by omega)]
  refine jx_istore (lv1 := [_, _, _, _, _, _, _]) C dX10_work_83 (by decide) rfl ?_
  refine jx_iload C dX10_work_85 rfl ?_
  refine jx_if_neF (tgt := 98) C dX10_work_87 (by decide) (by decide) ?_
  refine jx_aload_n C dX10_work_90 rfl ?_
  refine jx_iload_n C dX10_work_91 rfl ?_
  refine jx_one C (jv_tells C dX10_work_92 hk hn (okPart ok hv) ⟨by decide, by decide⟩ ⟨Nat.zero_le _, Nat.zero_le _⟩ (Nat.le_of_ble_eq_true rfl)) ?_
  refine jx_goto (tgt := 107) C dX10_work_95 (by decide) ?_
  exact jx_iret C dX10_work_107 ⟨rfl, rfl, rfl, rfl⟩
