/-! the reference: leaves -/
def mbg (I : TI) : TI := up2 I 65 14 0
def mtel (I : TI) (f : Nat) : TI := up2 (up2 I 65 14 (nI f)) 74 f (I 74 f + 1)
def rN (I : TI) (pl : Nat) : Nat := (I 66 pl).toNatClampNeg
def mlf (I : TI) (pl : Nat) (i : Int32) : Nat := if I 66 pl = -1 then 1 else if inR (I 67 (rN I pl)) i then 0 else 2
def okR (I : TI) : Prop := ∀ pl, pl < 20 → I 66 pl = -1 ∨ ∃ r : Nat, r < 20 ∧ I 66 pl = nI r
def mlaI (b at0 : Nat) (x : Int32) (I : TI) : TI := if b = 2 then I else up2 I 68 at0 x
def mlaU (b at0 : Nat) (y : UInt32) (U : TU) : TU := if b = 2 then up2 U 69 at0 y else U
def mtl (I : TI) (U : TU) (b at0 : Nat) : Int32 := if b = 2 then FP.f2i (FP.fmul (U 69 at0) 1090519040) else I 68 at0
def mokU (U : TU) : Prop := ∀ x, x < 480 → hd32 (U 69 x)
theorem nI_lit {b c : Nat} (hb : b < 100) (hc : c < 100) : nI b = nI c ↔ b = c := nI_eq (by omega) (by omega)
theorem pl5' (a b : Nat) : 5 * nI a + nI b = nI (5 * a + b) := by
  rw [show (5 : Int32) = nI 5 from rfl, pk_mul, nI_add]
theorem ix24' (r u : Nat) : 24 * nI r + nI u = nI (24 * r + u) := by
  rw [show (24 : Int32) = nI 24 from rfl, pk_mul, nI_add]
set_option maxRecDepth 100000 in
set_option maxHeartbeats 4000000 in
theorem c_11_isFrame {l : Launch} {D : va_G} {K : Nat → ClassId} {A : Nat → Nat} {I : TI} {U : TU} {P : TP} {f : Int32} : MM l yX11_isFrame cX11_isFrame 1 (some .boolean) 0 D K A (I) (U) (P) [.int f] (XE (some (.int (bI (inF f)))) (I) (U) (P)) := by
  refine MM.go (own := RX11) (lv0 := [some (.int f)]) rfl (by decide) rfl (Nat.le_of_ble_eq_true rfl) rfl ?_
  intro p e s m args below meth c C
  refine jx_iload_n C dX11_isFrame_0 rfl ?_
  refine jx_if_lt (tgt := 13) C dX11_isFrame_1 (by decide) (fun c1 => ?_) (fun c1 => ?_)
  · refine jx_iconst (v := 0) C dX11_isFrame_13 (by decide) ?_
    exact jx_zret C dX11_isFrame_14 rfl ⟨by simp [bI, inF, c1], rfl, rfl, rfl⟩
  · refine jx_iload_n C dX11_isFrame_4 rfl ?_
    refine jx_iconst (v := 4) C dX11_isFrame_5 (by decide) ?_
    refine jx_ic_ge (tgt := 13) C dX11_isFrame_6 (by decide) (fun c6 => ?_) (fun c6 => ?_)
    · refine jx_iconst (v := 0) C dX11_isFrame_13 (by decide) ?_
      exact jx_zret C dX11_isFrame_14 rfl ⟨by simp [bI, inF, c1, c6], rfl, rfl, rfl⟩
    · refine jx_iconst (v := 1) C dX11_isFrame_9 (by decide) ?_
      refine jx_goto (tgt := 14) C dX11_isFrame_10 (by decide) ?_
      exact jx_zret C dX11_isFrame_14 rfl ⟨by simp [bI, inF, c1, c6], rfl, rfl, rfl⟩
set_option maxRecDepth 100000 in
set_option maxHeartbeats 4000000 in
theorem c_11_isLane {l : Launch} {D : va_G} {K : Nat → ClassId} {A : Nat → Nat} {I : TI} {U : TU} {P : TP} {f s0 : Int32} : MM l yX11_isLane cX11_isLane 2 (some .boolean) 1 D K A (I) (U) (P) [.int f, .int s0] (XE (some (.int (bI (inL f s0)))) (I) (U) (P)) := by
  refine MM.go (own := RX11) (lv0 := [some (.int f), some (.int s0)]) rfl (by decide) rfl (Nat.le_of_ble_eq_true rfl) rfl ?_
  intro p e s m args below meth c C
  refine jx_iload_n C dX11_isLane_0 rfl ?_
  by_cases h1 : inF f
  · skip
    refine jx_one C (jr_S C (c_11_isFrame) sw_11_38 rfl ⟨Nat.le_of_ble_eq_true rfl, Nat.le_of_ble_eq_true rfl⟩ ⟨Nat.le_of_ble_eq_true rfl, Nat.le_of_ble_eq_true rfl⟩ dX11_isLane_1 rfl (Nat.le_of_ble_eq_true rfl)) ?_
    rw [bI_t h1]
    refine jx_if_eqF (tgt := 20) C dX11_isLane_4 (by decide) (by decide) ?_
    refine jx_iload_n C dX11_isLane_7 rfl ?_
    refine jx_if_lt (tgt := 20) C dX11_isLane_8 (by decide) (fun c8 => ?_) (fun c8 => ?_)
    · refine jx_iconst (v := 0) C dX11_isLane_20 (by decide) ?_
      exact jx_zret C dX11_isLane_21 rfl ⟨by rw [bI_f (fun h => h.2.1 c8)], rfl, rfl, rfl⟩
    · refine jx_iload_n C dX11_isLane_11 rfl ?_
      refine jx_iconst (v := 5) C dX11_isLane_12 (by decide) ?_
      refine jx_ic_ge (tgt := 20) C dX11_isLane_13 (by decide) (fun c13 => ?_) (fun c13 => ?_)
      · refine jx_iconst (v := 0) C dX11_isLane_20 (by decide) ?_
        exact jx_zret C dX11_isLane_21 rfl ⟨by rw [bI_f (fun h => h.2.2 c13)], rfl, rfl, rfl⟩
      · refine jx_iconst (v := 1) C dX11_isLane_16 (by decide) ?_
        refine jx_goto (tgt := 21) C dX11_isLane_17 (by decide) ?_
        exact jx_zret C dX11_isLane_21 rfl ⟨by rw [bI_t ⟨h1, c8, c13⟩], rfl, rfl, rfl⟩
  · skip
    refine jx_one C (jr_S C (c_11_isFrame) sw_11_38 rfl ⟨Nat.le_of_ble_eq_true rfl, Nat.le_of_ble_eq_true rfl⟩ ⟨Nat.le_of_ble_eq_true rfl, Nat.le_of_ble_eq_true rfl⟩ dX11_isLane_1 rfl (Nat.le_of_ble_eq_true rfl)) ?_
    rw [bI_f h1]
    refine jx_if_eqT (tgt := 20) C dX11_isLane_4 (by decide) (by decide) ?_
    refine jx_iconst (v := 0) C dX11_isLane_20 (by decide) ?_
    exact jx_zret C dX11_isLane_21 rfl ⟨by rw [bI_f (fun h => h1 h.1)], rfl, rfl, rfl⟩
set_option maxRecDepth 100000 in
set_option maxHeartbeats 4000000 in
theorem c_11_bad {l : Launch} {D : va_G} {K : Nat → ClassId} {A : Nat → Nat} {I : TI} {U : TU} {P : TP} {f : Nat} (hf : f ≤ 5) : MM l yX11_bad cX11_bad 2 (some .int) 0 D K A (I) (U) (P) [.ref (A 65), .int (nI f)] (XE (some (.int (0))) (mtel I f) (U) (P)) := by
  refine MM.go (own := RX11) (lv0 := [some (.ref (A 65)), some (.int (nI f))]) rfl (by decide) rfl (Nat.le_of_ble_eq_true rfl) rfl ?_
  intro p e s m args below meth c C
  refine jx_aload_n C dX11_bad_0 rfl ?_
  refine jx_iload_n C dX11_bad_1 rfl ?_
  refine jx_putI C fp_11_42_10 dX11_bad_2 (by decide) gg_65 (Nat.le_of_ble_eq_true rfl) rfl ?_
  refine jx_aload_n C dX11_bad_5 rfl ?_
  refine jx_get C fl_11_35_10 dX11_bad_6 (by decide) gg_65 rfl ?_
  refine jx_iload_n C dX11_bad_9 rfl ?_
  refine jx_dup2 C dX11_bad_10 rfl rfl ?_
  refine jx_iald (f) C dX11_bad_11 (by decide) gg_74 rfl (by omega) (by decide) ?_
  refine jx_iconst (v := 1) C dX11_bad_12 (by decide) ?_
  refine jx_iadd C dX11_bad_13 ?_
  rw [up2_ne (by omega)]
  refine jx_iastI (f) C dX11_bad_14 (by decide) (fun _ => gg_74) rfl (by omega) (by decide) ?_
  refine jx_iconst (v := 0) C dX11_bad_15 (by decide) ?_
  exact jx_iret C dX11_bad_16 ⟨rfl, rfl, rfl, rfl⟩
set_option maxRecDepth 100000 in
set_option maxHeartbeats 4000000 in
theorem c_11_good {l : Launch} {D : va_G} {K : Nat → ClassId} {A : Nat → Nat} {I : TI} {U : TU} {P : TP} {v : Int32} : MM l yX11_good cX11_good 2 (some .int) 0 D K A (I) (U) (P) [.ref (A 65), .int v] (XE (some (.int (v))) (mbg I) (U) (P)) := by
  refine MM.go (own := RX11) (lv0 := [some (.ref (A 65)), some (.int v)]) rfl (by decide) rfl (Nat.le_of_ble_eq_true rfl) rfl ?_
  intro p e s m args below meth c C
  refine jx_aload_n C dX11_good_0 rfl ?_
  refine jx_iconst (v := 0) C dX11_good_1 (by decide) ?_
  refine jx_putI C fp_11_42_10 dX11_good_2 (by decide) gg_65 (Nat.le_of_ble_eq_true rfl) rfl ?_
  refine jx_iload_n C dX11_good_5 rfl ?_
  exact jx_iret C dX11_good_6 ⟨rfl, rfl, rfl, rfl⟩
set_option maxRecDepth 100000 in
set_option maxHeartbeats 4000000 in
theorem c_11_wrong1 {l : Launch} {D : va_G} {K : Nat → ClassId} {A : Nat → Nat} {I : TI} {U : TU} {P : TP} {pl : Nat} {x : Int32} (hpl : pl < 20) (h : I 66 pl = -1) : MM l yX11_wrong cX11_wrong 3 (some .int) 0 D K A (I) (U) (P) [.ref (A 65), .int (nI pl), .int x] (XE (some (.int (1))) (I) (U) (P)) := by
  refine MM.go (own := RX11) (lv0 := [some (.ref (A 65)), some (.int (nI pl)), some (.int x)]) rfl (by decide) rfl (Nat.le_of_ble_eq_true rfl) rfl ?_
  intro p e s m args below meth c C
  refine jx_aload_n C dX11_wrong_0 rfl ?_
  refine jx_get C fl_11_7_10 dX11_wrong_1 (by decide) gg_65 rfl ?_
  refine jx_iload_n C dX11_wrong_4 rfl ?_
  refine jx_iald (pl) C dX11_wrong_5 (by decide) gg_66 rfl hpl (by decide) ?_
  refine jx_iconst (v := (-1)) C dX11_wrong_6 (by decide) ?_
  refine jx_ic_neF (tgt := 12) C dX11_wrong_7 h (by decide) ?_
  refine jx_iconst (v := 1) C dX11_wrong_10 (by decide) ?_
  exact jx_iret C dX11_wrong_11 ⟨rfl, rfl, rfl, rfl⟩
set_option maxRecDepth 100000 in
set_option maxHeartbeats 4000000 in
theorem c_11_wrong2a {l : Launch} {D : va_G} {K : Nat → ClassId} {A : Nat → Nat} {I : TI} {U : TU} {P : TP} {pl r : Nat} {x : Int32} (hpl : pl < 20) (hr : r < 20) (h : I 66 pl = nI r) (hx : x < 0) : MM l yX11_wrong cX11_wrong 3 (some .int) 0 D K A (I) (U) (P) [.ref (A 65), .int (nI pl), .int x] (XE (some (.int (2))) (I) (U) (P)) := by
  refine MM.go (own := RX11) (lv0 := [some (.ref (A 65)), some (.int (nI pl)), some (.int x)]) rfl (by decide) rfl (Nat.le_of_ble_eq_true rfl) rfl ?_
  intro p e s m args below meth c C
  refine jx_aload_n C dX11_wrong_0 rfl ?_
  refine jx_get C fl_11_7_10 dX11_wrong_1 (by decide) gg_65 rfl ?_
  refine jx_iload_n C dX11_wrong_4 rfl ?_
  refine jx_iald (pl) C dX11_wrong_5 (by decide) gg_66 rfl hpl (by decide) ?_
  refine jx_iconst (v := (-1)) C dX11_wrong_6 (by decide) ?_
  refine jx_ic_neT (tgt := 12) C dX11_wrong_7 (by decide) (by rw [h]; exact nI_m1 (by omega)) ?_
  refine jx_iload_n C dX11_wrong_12 rfl ?_
  refine jx_if_ltT (tgt := 31) C dX11_wrong_13 (by decide) hx ?_
  refine jx_iconst (v := 2) C dX11_wrong_31 (by decide) ?_
  refine jx_goto (tgt := 36) C dX11_wrong_32 (by decide) ?_
  exact jx_iret C dX11_wrong_36 ⟨rfl, rfl, rfl, rfl⟩
set_option maxRecDepth 100000 in
set_option maxHeartbeats 4000000 in
theorem c_11_wrong2b {l : Launch} {D : va_G} {K : Nat → ClassId} {A : Nat → Nat} {I : TI} {U : TU} {P : TP} {pl r : Nat} {x : Int32} (hpl : pl < 20) (hr : r < 20) (h : I 66 pl = nI r) (hx : ¬ x < 0) (hy : ¬ x < I 67 r) : MM l yX11_wrong cX11_wrong 3 (some .int) 0 D K A (I) (U) (P) [.ref (A 65), .int (nI pl), .int x] (XE (some (.int (2))) (I) (U) (P)) := by
  refine MM.go (own := RX11) (lv0 := [some (.ref (A 65)), some (.int (nI pl)), some (.int x)]) rfl (by decide) rfl (Nat.le_of_ble_eq_true rfl) rfl ?_
  intro p e s m args below meth c C
  refine jx_aload_n C dX11_wrong_0 rfl ?_
  refine jx_get C fl_11_7_10 dX11_wrong_1 (by decide) gg_65 rfl ?_
  refine jx_iload_n C dX11_wrong_4 rfl ?_
  refine jx_iald (pl) C dX11_wrong_5 (by decide) gg_66 rfl hpl (by decide) ?_
  refine jx_iconst (v := (-1)) C dX11_wrong_6 (by decide) ?_
  refine jx_ic_neT (tgt := 12) C dX11_wrong_7 (by decide) (by rw [h]; exact nI_m1 (by omega)) ?_
  refine jx_iload_n C dX11_wrong_12 rfl ?_
  refine jx_if_ltF (tgt := 31) C dX11_wrong_13 hx (by decide) ?_
  refine jx_iload_n C dX11_wrong_16 rfl ?_
  refine jx_aload_n C dX11_wrong_17 rfl ?_
  refine jx_get C fl_11_13_10 dX11_wrong_18 (by decide) gg_65 rfl ?_
  refine jx_aload_n C dX11_wrong_21 rfl ?_
  refine jx_get C fl_11_7_10 dX11_wrong_22 (by decide) gg_65 rfl ?_
  refine jx_iload_n C dX11_wrong_25 rfl ?_
  refine jx_iald (pl) C dX11_wrong_26 (by decide) gg_66 rfl hpl (by decide) ?_
  refine jx_iald (r) C dX11_wrong_27 (by decide) gg_67 h hr (by decide) ?_
  refine jx_ic_ltF (tgt := 35) C dX11_wrong_28 hy (by decide) ?_
  refine jx_iconst (v := 2) C dX11_wrong_31 (by decide) ?_
  refine jx_goto (tgt := 36) C dX11_wrong_32 (by decide) ?_
  exact jx_iret C dX11_wrong_36 ⟨rfl, rfl, rfl, rfl⟩
set_option maxRecDepth 100000 in
set_option maxHeartbeats 4000000 in
theorem c_11_wrong0 {l : Launch} {D : va_G} {K : Nat → ClassId} {A : Nat → Nat} {I : TI} {U : TU} {P : TP} {pl r : Nat} {x : Int32} (hpl : pl < 20) (hr : r < 20) (h : I 66 pl = nI r) (hx : ¬ x < 0) (hy : x < I 67 r) : MM l yX11_wrong cX11_wrong 3 (some .int) 0 D K A (I) (U) (P) [.ref (A 65), .int (nI pl), .int x] (XE (some (.int (0))) (I) (U) (P)) := by
  refine MM.go (own := RX11) (lv0 := [some (.ref (A 65)), some (.int (nI pl)), some (.int x)]) rfl (by decide) rfl (Nat.le_of_ble_eq_true rfl) rfl ?_
  intro p e s m args below meth c C
  refine jx_aload_n C dX11_wrong_0 rfl ?_
  refine jx_get C fl_11_7_10 dX11_wrong_1 (by decide) gg_65 rfl ?_
  refine jx_iload_n C dX11_wrong_4 rfl ?_
  refine jx_iald (pl) C dX11_wrong_5 (by decide) gg_66 rfl hpl (by decide) ?_
  refine jx_iconst (v := (-1)) C dX11_wrong_6 (by decide) ?_
  refine jx_ic_neT (tgt := 12) C dX11_wrong_7 (by decide) (by rw [h]; exact nI_m1 (by omega)) ?_
  refine jx_iload_n C dX11_wrong_12 rfl ?_
  refine jx_if_ltF (tgt := 31) C dX11_wrong_13 hx (by decide) ?_
  refine jx_iload_n C dX11_wrong_16 rfl ?_
  refine jx_aload_n C dX11_wrong_17 rfl ?_
  refine jx_get C fl_11_13_10 dX11_wrong_18 (by decide) gg_65 rfl ?_
  refine jx_aload_n C dX11_wrong_21 rfl ?_
  refine jx_get C fl_11_7_10 dX11_wrong_22 (by decide) gg_65 rfl ?_
  refine jx_iload_n C dX11_wrong_25 rfl ?_
  refine jx_iald (pl) C dX11_wrong_26 (by decide) gg_66 rfl hpl (by decide) ?_
  refine jx_iald (r) C dX11_wrong_27 (by decide) gg_67 h hr (by decide) ?_
  refine jx_ic_ltT (tgt := 35) C dX11_wrong_28 (by decide) hy ?_
  refine jx_iconst (v := 0) C dX11_wrong_35 (by decide) ?_
  exact jx_iret C dX11_wrong_36 ⟨rfl, rfl, rfl, rfl⟩
theorem c_11_wrong {l : Launch} {D : va_G} {K : Nat → ClassId} {A : Nat → Nat} {I : TI} {U : TU} {P : TP} {pl : Nat} {x : Int32} (hpl : pl < 20) (ok : okR I) : MM l yX11_wrong cX11_wrong 3 (some .int) 0 D K A I U P [.ref (A 65), .int (nI pl), .int x] (XE (some (.int (nI (mlf I pl x)))) I U P) := by
  rcases ok pl hpl with h | ⟨r, hr, h⟩
  · rw [show mlf I pl x = 1 from if_pos h]
    exact c_11_wrong1 hpl h
  · have hne : ¬ I 66 pl = -1 := by rw [h]; exact nI_m1 (by omega)
    have hrr : rN I pl = r := by unfold rN; rw [h, nI_clamp (by omega)]
    unfold mlf
    rw [if_neg hne, hrr]
    by_cases hx : x < 0
    · rw [if_neg (fun q => q.1 hx)]
      exact c_11_wrong2a hpl hr h hx
    · by_cases hy : x < I 67 r
      · rw [if_pos ⟨hx, Int32.not_le.mpr hy⟩]
        exact c_11_wrong0 hpl hr h hx hy
      · rw [if_neg (fun q => hy (Int32.not_le.mp q.2))]
        exact c_11_wrong2b hpl hr h hx hy
set_option maxRecDepth 100000 in
set_option maxHeartbeats 4000000 in
theorem c_11_cutTo0 {l : Launch} {D : va_G} {K : Nat → ClassId} {A : Nat → Nat} {I : TI} {U : TU} {P : TP} {v : Int32} : MM l yX11_cutTo cX11_cutTo 2 (some .int) 0 D K A (I) (U) (P) [.int 0, .int v] (XE (some (.int (cutTo 0 v))) (I) (U) (P)) := by
  refine MM.go (own := RX11) (lv0 := [some (.int 0), some (.int v)]) rfl (by decide) rfl (Nat.le_of_ble_eq_true rfl) rfl ?_
  intro p e s m args below meth c C
  refine jx_iload_n C dX11_cutTo_0 rfl ?_
  refine jx_if_neF (tgt := 9) C dX11_cutTo_1 (by decide) (by decide) ?_
  refine jx_iload_n C dX11_cutTo_4 rfl ?_
  refine jx_ldc C dX11_cutTo_5 qw_694 ?_
  refine jx_iand C dX11_cutTo_7 ?_
  exact jx_iret C dX11_cutTo_8 ⟨rfl, rfl, rfl, rfl⟩
set_option maxRecDepth 100000 in
set_option maxHeartbeats 4000000 in
theorem c_11_cutTo1 {l : Launch} {D : va_G} {K : Nat → ClassId} {A : Nat → Nat} {I : TI} {U : TU} {P : TP} {v : Int32} : MM l yX11_cutTo cX11_cutTo 2 (some .int) 0 D K A (I) (U) (P) [.int 1, .int v] (XE (some (.int (cutTo 1 v))) (I) (U) (P)) := by
  refine MM.go (own := RX11) (lv0 := [some (.int 1), some (.int v)]) rfl (by decide) rfl (Nat.le_of_ble_eq_true rfl) rfl ?_
  intro p e s m args below meth c C
  refine jx_iload_n C dX11_cutTo_0 rfl ?_
  refine jx_if_neT (tgt := 9) C dX11_cutTo_1 (by decide) (by decide) ?_
  refine jx_iload_n C dX11_cutTo_9 rfl ?_
  refine jx_iconst (v := 1) C dX11_cutTo_10 (by decide) ?_
  refine jx_ic_neF (tgt := 22) C dX11_cutTo_11 (by decide) (by decide) ?_
  refine jx_iload_n C dX11_cutTo_14 rfl ?_
  refine jx_bipush (v := 16) C dX11_cutTo_15 (by decide) ?_
  refine jx_ishl C dX11_cutTo_17 ?_
  refine jx_bipush (v := 16) C dX11_cutTo_18 (by decide) ?_
  refine jx_ishr C dX11_cutTo_20 ?_
  exact jx_iret C dX11_cutTo_21 ⟨rfl, rfl, rfl, rfl⟩
set_option maxRecDepth 100000 in
set_option maxHeartbeats 4000000 in
theorem c_11_cutTo4 {l : Launch} {D : va_G} {K : Nat → ClassId} {A : Nat → Nat} {I : TI} {U : TU} {P : TP} {v : Int32} : MM l yX11_cutTo cX11_cutTo 2 (some .int) 0 D K A (I) (U) (P) [.int 4, .int v] (XE (some (.int (cutTo 4 v))) (I) (U) (P)) := by
  refine MM.go (own := RX11) (lv0 := [some (.int 4), some (.int v)]) rfl (by decide) rfl (Nat.le_of_ble_eq_true rfl) rfl ?_
  intro p e s m args below meth c C
  refine jx_iload_n C dX11_cutTo_0 rfl ?_
  refine jx_if_neT (tgt := 9) C dX11_cutTo_1 (by decide) (by decide) ?_
  refine jx_iload_n C dX11_cutTo_9 rfl ?_
  refine jx_iconst (v := 1) C dX11_cutTo_10 (by decide) ?_
  refine jx_ic_neT (tgt := 22) C dX11_cutTo_11 (by decide) (by decide) ?_
  refine jx_iload_n C dX11_cutTo_22 rfl ?_
  refine jx_iconst (v := 4) C dX11_cutTo_23 (by decide) ?_
  refine jx_ic_neF (tgt := 37) C dX11_cutTo_24 (by decide) (by decide) ?_
  refine jx_iload_n C dX11_cutTo_27 rfl ?_
  refine jx_bipush (v := 24) C dX11_cutTo_28 (by decide) ?_
  refine jx_ishl C dX11_cutTo_30 ?_
  refine jx_bipush (v := 24) C dX11_cutTo_31 (by decide) ?_
  refine jx_ishr C dX11_cutTo_33 ?_
  refine jx_goto (tgt := 40) C dX11_cutTo_34 (by decide) ?_
  exact jx_iret C dX11_cutTo_40 ⟨rfl, rfl, rfl, rfl⟩
set_option maxRecDepth 100000 in
set_option maxHeartbeats 4000000 in
theorem c_11_cutTo3 {l : Launch} {D : va_G} {K : Nat → ClassId} {A : Nat → Nat} {I : TI} {U : TU} {P : TP} {v : Int32} : MM l yX11_cutTo cX11_cutTo 2 (some .int) 0 D K A (I) (U) (P) [.int 3, .int v] (XE (some (.int (cutTo 3 v))) (I) (U) (P)) := by
  refine MM.go (own := RX11) (lv0 := [some (.int 3), some (.int v)]) rfl (by decide) rfl (Nat.le_of_ble_eq_true rfl) rfl ?_
  intro p e s m args below meth c C
  refine jx_iload_n C dX11_cutTo_0 rfl ?_
  refine jx_if_neT (tgt := 9) C dX11_cutTo_1 (by decide) (by decide) ?_
  refine jx_iload_n C dX11_cutTo_9 rfl ?_
  refine jx_iconst (v := 1) C dX11_cutTo_10 (by decide) ?_
  refine jx_ic_neT (tgt := 22) C dX11_cutTo_11 (by decide) (by decide) ?_
  refine jx_iload_n C dX11_cutTo_22 rfl ?_
  refine jx_iconst (v := 4) C dX11_cutTo_23 (by decide) ?_
  refine jx_ic_neT (tgt := 37) C dX11_cutTo_24 (by decide) (by decide) ?_
  refine jx_iload_n C dX11_cutTo_37 rfl ?_
  refine jx_iconst (v := 1) C dX11_cutTo_38 (by decide) ?_
  refine jx_iand C dX11_cutTo_39 ?_
  exact jx_iret C dX11_cutTo_40 ⟨rfl, rfl, rfl, rfl⟩
theorem c_11_cutTo {l : Launch} {D : va_G} {K : Nat → ClassId} {A : Nat → Nat} {I : TI} {U : TU} {P : TP} {b : Nat} {v : Int32} (hb : b < 5) (h2 : ¬ b = 2) : MM l yX11_cutTo cX11_cutTo 2 (some .int) 0 D K A I U P [.int (nI b), .int v] (XE (some (.int (cutTo b v))) I U P) := by
  rcases (show b = 0 ∨ b = 1 ∨ b = 3 ∨ b = 4 by omega) with rfl | rfl | rfl | rfl
  · exact c_11_cutTo0
  · exact c_11_cutTo1
  · exact c_11_cutTo3
  · exact c_11_cutTo4
set_option maxRecDepth 100000 in
set_option maxHeartbeats 4000000 in
theorem c_11_held {l : Launch} {D : va_G} {K : Nat → ClassId} {A : Nat → Nat} {I : TI} {U : TU} {P : TP} {x : UInt32} : MM l yX11_held cX11_held 1 (some .float) 0 D K A (I) (U) (P) [.float x] (XE (some (.float (fHo x))) I U P) := by
  refine MM.go (own := RX11) (lv0 := [some (.float x)]) rfl (by decide) rfl (Nat.le_of_ble_eq_true rfl) rfl ?_
  intro p e s m args below meth c C
  refine jx_fload_n C dX11_held_0 rfl ?_
  refine jx_ldcf C dX11_held_1 qw_689 ?_
  refine jx_fcmp C dX11_held_3 ?_
  refine jx_if_ge (tgt := 12) C dX11_held_4 (by decide) (fun c4 => ?_) (fun c4 => ?_)
  · refine jx_fload_n C dX11_held_12 rfl ?_
    refine jx_ldcf C dX11_held_13 qw_690 ?_
    refine jx_fcmp C dX11_held_15 ?_
    refine jx_if_le (tgt := 24) C dX11_held_16 (by decide) (fun c16 => ?_) (fun c16 => ?_)
    · refine jx_fload_n C dX11_held_24 rfl ?_
      exact jx_fret C dX11_held_25 ⟨by rw [cv_g] at c4; rw [cv_l] at c16; rw [fHo, if_neg c4, if_neg c16], rfl, rfl, rfl⟩
    · refine jx_ldcf C dX11_held_19 qw_690 ?_
      refine jx_goto (tgt := 25) C dX11_held_21 (by decide) ?_
      exact jx_fret C dX11_held_25 ⟨by rw [cv_g] at c4; rw [cv_l] at c16; rw [fHo, if_neg c4, if_pos (Classical.not_not.mp c16)], rfl, rfl, rfl⟩
  · refine jx_ldcf C dX11_held_7 qw_689 ?_
    refine jx_goto (tgt := 25) C dX11_held_9 (by decide) ?_
    exact jx_fret C dX11_held_25 ⟨by rw [cv_g] at c4; rw [fHo, if_pos (Classical.not_not.mp c4)], rfl, rfl, rfl⟩
set_option maxRecDepth 100000 in
set_option maxHeartbeats 4000000 in
theorem c_11_eighths {l : Launch} {D : va_G} {K : Nat → ClassId} {A : Nat → Nat} {I : TI} {U : TU} {P : TP} {v : Int32} : MM l yX11_eighths cX11_eighths 1 (some .float) 0 D K A (I) (U) (P) [.int v] (XE (some (.float (f8 v))) I U P) := by
  refine MM.go (own := RX11) (lv0 := [some (.int v)]) rfl (by decide) rfl (Nat.le_of_ble_eq_true rfl) rfl ?_
  intro p e s m args below meth c C
  refine jx_iload_n C dX11_eighths_0 rfl ?_
  refine jx_i2f C dX11_eighths_1 ?_
  refine jx_ldcf C dX11_eighths_2 qw_685 ?_
  refine jx_fdiv C dX11_eighths_4 (nn_8 v) ?_
  exact jx_fret C dX11_eighths_5 ⟨rfl, rfl, rfl, rfl⟩
set_option maxRecDepth 100000 in
set_option maxHeartbeats 4000000 in
theorem c_11_tells2 {l : Launch} {D : va_G} {K : Nat → ClassId} {A : Nat → Nat} {I : TI} {U : TU} {P : TP} {at0 : Nat} (ha : at0 < 480) (hh : hd32 (U 69 at0)) : MM l yX11_tells cX11_tells 3 (some .int) 0 D K A (I) (U) (P) [.ref (A 65), .int 2, .int (nI at0)] (XE (some (.int (FP.f2i (FP.fmul (U 69 at0) 1090519040)))) (I) (U) (P)) := by
  refine MM.go (own := RX11) (lv0 := [some (.ref (A 65)), some (.int 2), some (.int (nI at0))]) rfl (by decide) rfl (Nat.le_of_ble_eq_true rfl) rfl ?_
  intro p e s m args below meth c C
  refine jx_iload_n C dX11_tells_0 rfl ?_
  refine jx_iconst (v := 2) C dX11_tells_1 (by decide) ?_
  refine jx_ic_neF (tgt := 18) C dX11_tells_2 (by decide) (by decide) ?_
  refine jx_aload_n C dX11_tells_5 rfl ?_
  refine jx_get C fl_11_19_10 dX11_tells_6 (by decide) gg_65 rfl ?_
  refine jx_iload_n C dX11_tells_9 rfl ?_
  refine jx_fald (at0) C dX11_tells_10 (by decide) gg_69 rfl ha (by decide) ?_
  refine jx_ldcf C dX11_tells_11 qw_685 ?_
  refine jx_fmul C dX11_tells_13 (nn_tell hh) ?_
  refine jx_f2i C dX11_tells_14 ?_
  refine jx_goto (tgt := 24) C dX11_tells_15 (by decide) ?_
  exact jx_iret C dX11_tells_24 ⟨rfl, rfl, rfl, rfl⟩
set_option maxRecDepth 100000 in
set_option maxHeartbeats 4000000 in
theorem c_11_tellsn {l : Launch} {D : va_G} {K : Nat → ClassId} {A : Nat → Nat} {I : TI} {U : TU} {P : TP} {b at0 : Nat} (hb : b < 5) (ha : at0 < 480) (h2 : ¬ b = 2) : MM l yX11_tells cX11_tells 3 (some .int) 0 D K A (I) (U) (P) [.ref (A 65), .int (nI b), .int (nI at0)] (XE (some (.int (I 68 at0))) (I) (U) (P)) := by
  refine MM.go (own := RX11) (lv0 := [some (.ref (A 65)), some (.int (nI b)), some (.int (nI at0))]) rfl (by decide) rfl (Nat.le_of_ble_eq_true rfl) rfl ?_
  intro p e s m args below meth c C
  refine jx_iload_n C dX11_tells_0 rfl ?_
  refine jx_iconst (v := 2) C dX11_tells_1 (by decide) ?_
  refine jx_ic_neT (tgt := 18) C dX11_tells_2 (by decide) (by rw [show (2 : Int32) = nI 2 from rfl, nI_lit (by omega) (by decide)]; omega) ?_
  refine jx_aload_n C dX11_tells_18 rfl ?_
  refine jx_get C fl_11_16_10 dX11_tells_19 (by decide) gg_65 rfl ?_
  refine jx_iload_n C dX11_tells_22 rfl ?_
  refine jx_iald (at0) C dX11_tells_23 (by decide) gg_68 rfl ha (by decide) ?_
  exact jx_iret C dX11_tells_24 ⟨rfl, rfl, rfl, rfl⟩
set_option maxRecDepth 100000 in
set_option maxHeartbeats 4000000 in
theorem c_11_lay2 {l : Launch} {D : va_G} {K : Nat → ClassId} {A : Nat → Nat} {I : TI} {U : TU} {P : TP} {at0 : Nat} {v : Int32} (ha : at0 < 480) : MM l yX11_lay cX11_lay 4 none 1 D K A (I) (U) (P) [.ref (A 65), .int 2, .int (nI at0), .int v] (XE none (I) (up2 U 69 at0 (fHo (f8 v))) (P)) := by
  refine MM.go (own := RX11) (lv0 := [some (.ref (A 65)), some (.int 2), some (.int (nI at0)), some (.int v)]) rfl (by decide) rfl (Nat.le_of_ble_eq_true rfl) rfl ?_
  intro p e s m args below meth c C
  refine jx_iload_n C dX11_lay_0 rfl ?_
  refine jx_iconst (v := 2) C dX11_lay_1 (by decide) ?_
  refine jx_ic_neF (tgt := 21) C dX11_lay_2 (by decide) (by decide) ?_
  refine jx_aload_n C dX11_lay_5 rfl ?_
  refine jx_get C fl_11_19_10 dX11_lay_6 (by decide) gg_65 rfl ?_
  refine jx_iload_n C dX11_lay_9 rfl ?_
  refine jx_iload_n C dX11_lay_10 rfl ?_
  refine jx_one C (jr_S C (c_11_eighths) sw_11_68 rfl ⟨Nat.le_of_ble_eq_true rfl, Nat.le_of_ble_eq_true rfl⟩ ⟨Nat.le_of_ble_eq_true rfl, Nat.le_of_ble_eq_true rfl⟩ dX11_lay_11 rfl (Nat.le_of_ble_eq_true rfl)) ?_
  refine jx_one C (jr_S C (c_11_held) sw_11_72 rfl ⟨Nat.le_of_ble_eq_true rfl, Nat.le_of_ble_eq_true rfl⟩ ⟨Nat.le_of_ble_eq_true rfl, Nat.le_of_ble_eq_true rfl⟩ dX11_lay_14 rfl (Nat.le_of_ble_eq_true rfl)) ?_
  refine jx_fastU (at0) C dX11_lay_17 (by decide) (fun _ => gg_69) rfl ha (by decide) ?_
  refine jx_goto (tgt := 32) C dX11_lay_18 (by decide) ?_
  exact jx_vret C dX11_lay_32 ⟨rfl, rfl, rfl, rfl⟩
set_option maxRecDepth 100000 in
set_option maxHeartbeats 4000000 in
theorem c_11_layn {l : Launch} {D : va_G} {K : Nat → ClassId} {A : Nat → Nat} {I : TI} {U : TU} {P : TP} {b at0 : Nat} (hb : b < 5) (ha : at0 < 480) {v : Int32} (h2 : ¬ b = 2) : MM l yX11_lay cX11_lay 4 none 1 D K A (I) (U) (P) [.ref (A 65), .int (nI b), .int (nI at0), .int v] (XE none (up2 I 68 at0 (cutTo b v)) (U) (P)) := by
  refine MM.go (own := RX11) (lv0 := [some (.ref (A 65)), some (.int (nI b)), some (.int (nI at0)), some (.int v)]) rfl (by decide) rfl (Nat.le_of_ble_eq_true rfl) rfl ?_
  intro p e s m args below meth c C
  refine jx_iload_n C dX11_lay_0 rfl ?_
  refine jx_iconst (v := 2) C dX11_lay_1 (by decide) ?_
  refine jx_ic_neT (tgt := 21) C dX11_lay_2 (by decide) (by rw [show (2 : Int32) = nI 2 from rfl, nI_lit (by omega) (by decide)]; omega) ?_
  refine jx_aload_n C dX11_lay_21 rfl ?_
  refine jx_get C fl_11_16_10 dX11_lay_22 (by decide) gg_65 rfl ?_
  refine jx_iload_n C dX11_lay_25 rfl ?_
  refine jx_iload_n C dX11_lay_26 rfl ?_
  refine jx_iload_n C dX11_lay_27 rfl ?_
  refine jx_one C (jr_S C (c_11_cutTo hb h2) sw_11_76 rfl ⟨Nat.le_of_ble_eq_true rfl, Nat.le_of_ble_eq_true rfl⟩ ⟨Nat.le_of_ble_eq_true rfl, Nat.le_of_ble_eq_true rfl⟩ dX11_lay_28 rfl (Nat.le_of_ble_eq_true rfl)) ?_
  refine jx_iastI (at0) C dX11_lay_31 (by decide) (fun _ => gg_68) rfl ha (by decide) ?_
  exact jx_vret C dX11_lay_32 ⟨rfl, rfl, rfl, rfl⟩
set_option maxRecDepth 100000 in
set_option maxHeartbeats 4000000 in
theorem c_11_pull2 {l : Launch} {D : va_G} {K : Nat → ClassId} {A : Nat → Nat} {I : TI} {U : TU} {P : TP} {at0 : Nat} {v : Int32} (ha : at0 < 480) (hh : hd32 (U 69 at0)) : MM l yX11_pull cX11_pull 4 none 1 D K A (I) (U) (P) [.ref (A 65), .int 2, .int (nI at0), .int v] (XE none (I) (up2 U 69 at0 (fHo (FP.fadd (U 69 at0) (f8 v)))) (P)) := by
  refine MM.go (own := RX11) (lv0 := [some (.ref (A 65)), some (.int 2), some (.int (nI at0)), some (.int v)]) rfl (by decide) rfl (Nat.le_of_ble_eq_true rfl) rfl ?_
  intro p e s m args below meth c C
  refine jx_iload_n C dX11_pull_0 rfl ?_
  refine jx_iconst (v := 2) C dX11_pull_1 (by decide) ?_
  refine jx_ic_neF (tgt := 28) C dX11_pull_2 (by decide) (by decide) ?_
  refine jx_aload_n C dX11_pull_5 rfl ?_
  refine jx_get C fl_11_19_10 dX11_pull_6 (by decide) gg_65 rfl ?_
  refine jx_iload_n C dX11_pull_9 rfl ?_
  refine jx_aload_n C dX11_pull_10 rfl ?_
  refine jx_get C fl_11_19_10 dX11_pull_11 (by decide) gg_65 rfl ?_
  refine jx_iload_n C dX11_pull_14 rfl ?_
  refine jx_fald (at0) C dX11_pull_15 (by decide) gg_69 rfl ha (by decide) ?_
  refine jx_iload_n C dX11_pull_16 rfl ?_
  refine jx_one C (jr_S C (c_11_eighths) sw_11_68 rfl ⟨Nat.le_of_ble_eq_true rfl, Nat.le_of_ble_eq_true rfl⟩ ⟨Nat.le_of_ble_eq_true rfl, Nat.le_of_ble_eq_true rfl⟩ dX11_pull_17 rfl (Nat.le_of_ble_eq_true rfl)) ?_
  refine jx_fadd C dX11_pull_20 (nn_add hh (f8_nan v)) ?_
  refine jx_one C (jr_S C (c_11_held) sw_11_72 rfl ⟨Nat.le_of_ble_eq_true rfl, Nat.le_of_ble_eq_true rfl⟩ ⟨Nat.le_of_ble_eq_true rfl, Nat.le_of_ble_eq_true rfl⟩ dX11_pull_21 rfl (Nat.le_of_ble_eq_true rfl)) ?_
  refine jx_fastU (at0) C dX11_pull_24 (by decide) (fun _ => gg_69) rfl ha (by decide) ?_
  refine jx_goto (tgt := 70) C dX11_pull_25 (by decide) ?_
  exact jx_vret C dX11_pull_70 ⟨rfl, rfl, rfl, rfl⟩
set_option maxRecDepth 100000 in
set_option maxHeartbeats 4000000 in
theorem c_11_pull3 {l : Launch} {D : va_G} {K : Nat → ClassId} {A : Nat → Nat} {I : TI} {U : TU} {P : TP} {at0 : Nat} {v : Int32} (ha : at0 < 480) : MM l yX11_pull cX11_pull 4 none 1 D K A (I) (U) (P) [.ref (A 65), .int 3, .int (nI at0), .int v] (XE none (up2 I 68 at0 (I 68 at0 ^^^ (v &&& 1))) (U) (P)) := by
  refine MM.go (own := RX11) (lv0 := [some (.ref (A 65)), some (.int 3), some (.int (nI at0)), some (.int v)]) rfl (by decide) rfl (Nat.le_of_ble_eq_true rfl) rfl ?_
  intro p e s m args below meth c C
  refine jx_iload_n C dX11_pull_0 rfl ?_
  refine jx_iconst (v := 2) C dX11_pull_1 (by decide) ?_
  refine jx_ic_neT (tgt := 28) C dX11_pull_2 (by decide) (by decide) ?_
  refine jx_iload_n C dX11_pull_28 rfl ?_
  refine jx_iconst (v := 3) C dX11_pull_29 (by decide) ?_
  refine jx_ic_neF (tgt := 52) C dX11_pull_30 (by decide) (by decide) ?_
  refine jx_aload_n C dX11_pull_33 rfl ?_
  refine jx_get C fl_11_16_10 dX11_pull_34 (by decide) gg_65 rfl ?_
  refine jx_iload_n C dX11_pull_37 rfl ?_
  refine jx_aload_n C dX11_pull_38 rfl ?_
  refine jx_get C fl_11_16_10 dX11_pull_39 (by decide) gg_65 rfl ?_
  refine jx_iload_n C dX11_pull_42 rfl ?_
  refine jx_iald (at0) C dX11_pull_43 (by decide) gg_68 rfl ha (by decide) ?_
  refine jx_iload_n C dX11_pull_44 rfl ?_
  refine jx_iconst (v := 1) C dX11_pull_45 (by decide) ?_
  refine jx_iand C dX11_pull_46 ?_
  refine jx_ixor C dX11_pull_47 ?_
  refine jx_iastI (at0) C dX11_pull_48 (by decide) (fun _ => gg_68) rfl ha (by decide) ?_
  refine jx_goto (tgt := 70) C dX11_pull_49 (by decide) ?_
  exact jx_vret C dX11_pull_70 ⟨rfl, rfl, rfl, rfl⟩
set_option maxRecDepth 100000 in
set_option maxHeartbeats 4000000 in
theorem c_11_pulln {l : Launch} {D : va_G} {K : Nat → ClassId} {A : Nat → Nat} {I : TI} {U : TU} {P : TP} {b at0 : Nat} (hb : b < 5) (ha : at0 < 480) {v : Int32} (h2 : ¬ b = 2) (h3 : ¬ b = 3) : MM l yX11_pull cX11_pull 4 none 1 D K A (I) (U) (P) [.ref (A 65), .int (nI b), .int (nI at0), .int v] (XE none (up2 I 68 at0 (cutTo b (I 68 at0 + v))) (U) (P)) := by
  refine MM.go (own := RX11) (lv0 := [some (.ref (A 65)), some (.int (nI b)), some (.int (nI at0)), some (.int v)]) rfl (by decide) rfl (Nat.le_of_ble_eq_true rfl) rfl ?_
  intro p e s m args below meth c C
  refine jx_iload_n C dX11_pull_0 rfl ?_
  refine jx_iconst (v := 2) C dX11_pull_1 (by decide) ?_
  refine jx_ic_neT (tgt := 28) C dX11_pull_2 (by decide) (by rw [show (2 : Int32) = nI 2 from rfl, nI_lit (by omega) (by decide)]; omega) ?_
  refine jx_iload_n C dX11_pull_28 rfl ?_
  refine jx_iconst (v := 3) C dX11_pull_29 (by decide) ?_
  refine jx_ic_neT (tgt := 52) C dX11_pull_30 (by decide) (by rw [show (3 : Int32) = nI 3 from rfl, nI_lit (by omega) (by decide)]; omega) ?_
  refine jx_aload_n C dX11_pull_52 rfl ?_
  refine jx_get C fl_11_16_10 dX11_pull_53 (by decide) gg_65 rfl ?_
  refine jx_iload_n C dX11_pull_56 rfl ?_
  refine jx_iload_n C dX11_pull_57 rfl ?_
  refine jx_aload_n C dX11_pull_58 rfl ?_
  refine jx_get C fl_11_16_10 dX11_pull_59 (by decide) gg_65 rfl ?_
  refine jx_iload_n C dX11_pull_62 rfl ?_
  refine jx_iald (at0) C dX11_pull_63 (by decide) gg_68 rfl ha (by decide) ?_
  refine jx_iload_n C dX11_pull_64 rfl ?_
  refine jx_iadd C dX11_pull_65 ?_
  refine jx_one C (jr_S C (c_11_cutTo hb h2) sw_11_76 rfl ⟨Nat.le_of_ble_eq_true rfl, Nat.le_of_ble_eq_true rfl⟩ ⟨Nat.le_of_ble_eq_true rfl, Nat.le_of_ble_eq_true rfl⟩ dX11_pull_66 rfl (Nat.le_of_ble_eq_true rfl)) ?_
  refine jx_iastI (at0) C dX11_pull_69 (by decide) (fun _ => gg_68) rfl ha (by decide) ?_
  exact jx_vret C dX11_pull_70 ⟨rfl, rfl, rfl, rfl⟩
set_option maxRecDepth 100000 in
set_option maxHeartbeats 4000000 in
theorem c_11_part2 {l : Launch} {D : va_G} {K : Nat → ClassId} {A : Nat → Nat} {I : TI} {U : TU} {P : TP} {at0 : Nat} {v : Int32} (ha : at0 < 480) (hh : hd32 (U 69 at0)) (hv : ¬ v = 0) : MM l yX11_part cX11_part 4 none 1 D K A (I) (U) (P) [.ref (A 65), .int 2, .int (nI at0), .int v] (XE none (I) (up2 U 69 at0 (fHo (FP.fdiv (U 69 at0) (FP.i2f v)))) (P)) := by
  refine MM.go (own := RX11) (lv0 := [some (.ref (A 65)), some (.int 2), some (.int (nI at0)), some (.int v)]) rfl (by decide) rfl (Nat.le_of_ble_eq_true rfl) rfl ?_
  intro p e s m args below meth c C
  refine jx_iload_n C dX11_part_0 rfl ?_
  refine jx_iconst (v := 2) C dX11_part_1 (by decide) ?_
  refine jx_ic_neF (tgt := 26) C dX11_part_2 (by decide) (by decide) ?_
  refine jx_aload_n C dX11_part_5 rfl ?_
  refine jx_get C fl_11_19_10 dX11_part_6 (by decide) gg_65 rfl ?_
  refine jx_iload_n C dX11_part_9 rfl ?_
  refine jx_aload_n C dX11_part_10 rfl ?_
  refine jx_get C fl_11_19_10 dX11_part_11 (by decide) gg_65 rfl ?_
  refine jx_iload_n C dX11_part_14 rfl ?_
  refine jx_fald (at0) C dX11_part_15 (by decide) gg_69 rfl ha (by decide) ?_
  refine jx_iload_n C dX11_part_16 rfl ?_
  refine jx_i2f C dX11_part_17 ?_
  refine jx_fdiv C dX11_part_18 (nn_div hh hv) ?_
  refine jx_one C (jr_S C (c_11_held) sw_11_72 rfl ⟨Nat.le_of_ble_eq_true rfl, Nat.le_of_ble_eq_true rfl⟩ ⟨Nat.le_of_ble_eq_true rfl, Nat.le_of_ble_eq_true rfl⟩ dX11_part_19 rfl (Nat.le_of_ble_eq_true rfl)) ?_
  refine jx_fastU (at0) C dX11_part_22 (by decide) (fun _ => gg_69) rfl ha (by decide) ?_
  refine jx_goto (tgt := 83) C dX11_part_23 (by decide) ?_
  exact jx_vret C dX11_part_83 ⟨rfl, rfl, rfl, rfl⟩
set_option maxRecDepth 100000 in
set_option maxHeartbeats 4000000 in
theorem c_11_part3 {l : Launch} {D : va_G} {K : Nat → ClassId} {A : Nat → Nat} {I : TI} {U : TU} {P : TP} {at0 : Nat} {v : Int32} (ha : at0 < 480) : MM l yX11_part cX11_part 4 none 1 D K A (I) (U) (P) [.ref (A 65), .int 3, .int (nI at0), .int v] (XE none (up2 I 68 at0 (I 68 at0 &&& v &&& 1)) (U) (P)) := by
  refine MM.go (own := RX11) (lv0 := [some (.ref (A 65)), some (.int 3), some (.int (nI at0)), some (.int v)]) rfl (by decide) rfl (Nat.le_of_ble_eq_true rfl) rfl ?_
  intro p e s m args below meth c C
  refine jx_iload_n C dX11_part_0 rfl ?_
  refine jx_iconst (v := 2) C dX11_part_1 (by decide) ?_
  refine jx_ic_neT (tgt := 26) C dX11_part_2 (by decide) (by decide) ?_
  refine jx_iload_n C dX11_part_26 rfl ?_
  refine jx_iconst (v := 3) C dX11_part_27 (by decide) ?_
  refine jx_ic_neF (tgt := 50) C dX11_part_28 (by decide) (by decide) ?_
  refine jx_aload_n C dX11_part_31 rfl ?_
  refine jx_get C fl_11_16_10 dX11_part_32 (by decide) gg_65 rfl ?_
  refine jx_iload_n C dX11_part_35 rfl ?_
  refine jx_aload_n C dX11_part_36 rfl ?_
  refine jx_get C fl_11_16_10 dX11_part_37 (by decide) gg_65 rfl ?_
  refine jx_iload_n C dX11_part_40 rfl ?_
  refine jx_iald (at0) C dX11_part_41 (by decide) gg_68 rfl ha (by decide) ?_
  refine jx_iload_n C dX11_part_42 rfl ?_
  refine jx_iand C dX11_part_43 ?_
  refine jx_iconst (v := 1) C dX11_part_44 (by decide) ?_
  refine jx_iand C dX11_part_45 ?_
  refine jx_iastI (at0) C dX11_part_46 (by decide) (fun _ => gg_68) rfl ha (by decide) ?_
  refine jx_goto (tgt := 83) C dX11_part_47 (by decide) ?_
  exact jx_vret C dX11_part_83 ⟨rfl, rfl, rfl, rfl⟩
set_option maxRecDepth 100000 in
set_option maxHeartbeats 4000000 in
theorem c_11_partnm {l : Launch} {D : va_G} {K : Nat → ClassId} {A : Nat → Nat} {I : TI} {U : TU} {P : TP} {b at0 : Nat} (hb : b < 5) (ha : at0 < 480) {v : Int32} (h2 : ¬ b = 2) (h3 : ¬ b = 3) (hv : v = -1) : MM l yX11_part cX11_part 4 none 1 D K A (I) (U) (P) [.ref (A 65), .int (nI b), .int (nI at0), .int v] (XE none (up2 I 68 at0 (cutTo b (-I 68 at0))) (U) (P)) := by
  refine MM.go (own := RX11) (lv0 := [some (.ref (A 65)), some (.int (nI b)), some (.int (nI at0)), some (.int v)]) rfl (by decide) rfl (Nat.le_of_ble_eq_true rfl) rfl ?_
  intro p e s m args below meth c C
  refine jx_iload_n C dX11_part_0 rfl ?_
  refine jx_iconst (v := 2) C dX11_part_1 (by decide) ?_
  refine jx_ic_neT (tgt := 26) C dX11_part_2 (by decide) (by rw [show (2 : Int32) = nI 2 from rfl, nI_lit (by omega) (by decide)]; omega) ?_
  refine jx_iload_n C dX11_part_26 rfl ?_
  refine jx_iconst (v := 3) C dX11_part_27 (by decide) ?_
  refine jx_ic_neT (tgt := 50) C dX11_part_28 (by decide) (by rw [show (3 : Int32) = nI 3 from rfl, nI_lit (by omega) (by decide)]; omega) ?_
  refine jx_aload_n C dX11_part_50 rfl ?_
  refine jx_get C fl_11_16_10 dX11_part_51 (by decide) gg_65 rfl ?_
  refine jx_iload_n C dX11_part_54 rfl ?_
  refine jx_iload_n C dX11_part_55 rfl ?_
  refine jx_iload_n C dX11_part_56 rfl ?_
  refine jx_iconst (v := (-1)) C dX11_part_57 (by decide) ?_
  refine jx_ic_neF (tgt := 71) C dX11_part_58 hv (by decide) ?_
  refine jx_aload_n C dX11_part_61 rfl ?_
  refine jx_get C fl_11_16_10 dX11_part_62 (by decide) gg_65 rfl ?_
  refine jx_iload_n C dX11_part_65 rfl ?_
  refine jx_iald (at0) C dX11_part_66 (by decide) gg_68 rfl ha (by decide) ?_
  refine jx_ineg C dX11_part_67 ?_
  refine jx_goto (tgt := 79) C dX11_part_68 (by decide) ?_
  refine jx_one C (jr_S C (c_11_cutTo hb h2) sw_11_76 rfl ⟨Nat.le_of_ble_eq_true rfl, Nat.le_of_ble_eq_true rfl⟩ ⟨Nat.le_of_ble_eq_true rfl, Nat.le_of_ble_eq_true rfl⟩ dX11_part_79 rfl (Nat.le_of_ble_eq_true rfl)) ?_
  refine jx_iastI (at0) C dX11_part_82 (by decide) (fun _ => gg_68) rfl ha (by decide) ?_
  exact jx_vret C dX11_part_83 ⟨rfl, rfl, rfl, rfl⟩
set_option maxRecDepth 100000 in
set_option maxHeartbeats 4000000 in
theorem c_11_partnd {l : Launch} {D : va_G} {K : Nat → ClassId} {A : Nat → Nat} {I : TI} {U : TU} {P : TP} {b at0 : Nat} (hb : b < 5) (ha : at0 < 480) {v : Int32} (h2 : ¬ b = 2) (h3 : ¬ b = 3) (hv : ¬ v = -1) (h0 : ¬ v = 0) : MM l yX11_part cX11_part 4 none 1 D K A (I) (U) (P) [.ref (A 65), .int (nI b), .int (nI at0), .int v] (XE none (up2 I 68 at0 (cutTo b (I 68 at0 / v))) (U) (P)) := by
  refine MM.go (own := RX11) (lv0 := [some (.ref (A 65)), some (.int (nI b)), some (.int (nI at0)), some (.int v)]) rfl (by decide) rfl (Nat.le_of_ble_eq_true rfl) rfl ?_
  intro p e s m args below meth c C
  refine jx_iload_n C dX11_part_0 rfl ?_
  refine jx_iconst (v := 2) C dX11_part_1 (by decide) ?_
  refine jx_ic_neT (tgt := 26) C dX11_part_2 (by decide) (by rw [show (2 : Int32) = nI 2 from rfl, nI_lit (by omega) (by decide)]; omega) ?_
  refine jx_iload_n C dX11_part_26 rfl ?_
  refine jx_iconst (v := 3) C dX11_part_27 (by decide) ?_
  refine jx_ic_neT (tgt := 50) C dX11_part_28 (by decide) (by rw [show (3 : Int32) = nI 3 from rfl, nI_lit (by omega) (by decide)]; omega) ?_
  refine jx_aload_n C dX11_part_50 rfl ?_
  refine jx_get C fl_11_16_10 dX11_part_51 (by decide) gg_65 rfl ?_
  refine jx_iload_n C dX11_part_54 rfl ?_
  refine jx_iload_n C dX11_part_55 rfl ?_
  refine jx_iload_n C dX11_part_56 rfl ?_
  refine jx_iconst (v := (-1)) C dX11_part_57 (by decide) ?_
  refine jx_ic_neT (tgt := 71) C dX11_part_58 (by decide) hv ?_
  refine jx_aload_n C dX11_part_71 rfl ?_
  refine jx_get C fl_11_16_10 dX11_part_72 (by decide) gg_65 rfl ?_
  refine jx_iload_n C dX11_part_75 rfl ?_
  refine jx_iald (at0) C dX11_part_76 (by decide) gg_68 rfl ha (by decide) ?_
  refine jx_iload_n C dX11_part_77 rfl ?_
  refine jx_idiv C dX11_part_78 h0 ?_
  refine jx_one C (jr_S C (c_11_cutTo hb h2) sw_11_76 rfl ⟨Nat.le_of_ble_eq_true rfl, Nat.le_of_ble_eq_true rfl⟩ ⟨Nat.le_of_ble_eq_true rfl, Nat.le_of_ble_eq_true rfl⟩ dX11_part_79 rfl (Nat.le_of_ble_eq_true rfl)) ?_
  refine jx_iastI (at0) C dX11_part_82 (by decide) (fun _ => gg_68) rfl ha (by decide) ?_
  exact jx_vret C dX11_part_83 ⟨rfl, rfl, rfl, rfl⟩
theorem c_11_tells {l : Launch} {D : va_G} {K : Nat → ClassId} {A : Nat → Nat} {I : TI} {U : TU} {P : TP} {b at0 : Nat} (hb : b < 5) (ha : at0 < 480) (hh : b = 2 → hd32 (U 69 at0)) : MM l yX11_tells cX11_tells 3 (some .int) 0 D K A I U P [.ref (A 65), .int (nI b), .int (nI at0)] (XE (some (.int (mtl I U b at0))) I U P) := by
  by_cases h2 : b = 2
  · rw [show mtl I U b at0 = FP.f2i (FP.fmul (U 69 at0) 1090519040) from if_pos h2]
    have q := hh h2
    subst h2
    exact c_11_tells2 ha q
  · rw [show mtl I U b at0 = I 68 at0 from if_neg h2]
    exact c_11_tellsn hb ha h2
theorem c_11_lay {l : Launch} {D : va_G} {K : Nat → ClassId} {A : Nat → Nat} {I : TI} {U : TU} {P : TP} {b at0 : Nat} {v : Int32} (hb : b < 5) (ha : at0 < 480) : MM l yX11_lay cX11_lay 4 none 1 D K A I U P [.ref (A 65), .int (nI b), .int (nI at0), .int v] (XE none (mlaI b at0 (cutTo b v) I) (mlaU b at0 (fHo (f8 v)) U) P) := by
  by_cases h2 : b = 2
  · rw [mlaI, mlaU, if_pos h2, if_pos h2]
    subst h2
    exact c_11_lay2 ha
  · rw [mlaI, mlaU, if_neg h2, if_neg h2]
    exact c_11_layn hb ha h2
theorem c_11_pull {l : Launch} {D : va_G} {K : Nat → ClassId} {A : Nat → Nat} {I : TI} {U : TU} {P : TP} {b at0 : Nat} {v : Int32} (hb : b < 5) (ha : at0 < 480) (hh : b = 2 → hd32 (U 69 at0)) : MM l yX11_pull cX11_pull 4 none 1 D K A I U P [.ref (A 65), .int (nI b), .int (nI at0), .int v] (XE none (mlaI b at0 (vPull b (I 68 at0) v) I) (mlaU b at0 (fHo (FP.fadd (U 69 at0) (f8 v))) U) P) := by
  by_cases h2 : b = 2
  · rw [mlaI, mlaU, if_pos h2, if_pos h2]
    have q := hh h2
    subst h2
    exact c_11_pull2 ha q
  · rw [mlaI, mlaU, if_neg h2, if_neg h2]
    by_cases h3 : b = 3
    · rw [vPull, if_pos h3]
      subst h3
      exact c_11_pull3 ha
    · rw [vPull, if_neg h3]
      exact c_11_pulln hb ha h2 h3
theorem c_11_part {l : Launch} {D : va_G} {K : Nat → ClassId} {A : Nat → Nat} {I : TI} {U : TU} {P : TP} {b at0 : Nat} {v : Int32} (hb : b < 5) (ha : at0 < 480) (hh : b = 2 → hd32 (U 69 at0)) (hv : ¬ v = 0 ∨ b = 3) : MM l yX11_part cX11_part 4 none 1 D K A I U P [.ref (A 65), .int (nI b), .int (nI at0), .int v] (XE none (mlaI b at0 (vPart b (I 68 at0) v) I) (mlaU b at0 (fHo (FP.fdiv (U 69 at0) (FP.i2f v))) U) P) := by
  by_cases h2 : b = 2
  · rw [mlaI, mlaU, if_pos h2, if_pos h2]
    have q := hh h2
    subst h2
    exact c_11_part2 ha q (hv.resolve_right (by decide))
  · rw [mlaI, mlaU, if_neg h2, if_neg h2]
    by_cases h3 : b = 3
    · rw [vPart, if_pos h3]
      subst h3
      exact c_11_part3 ha
    · rw [vPart, if_neg h3]
      by_cases hm : v = -1
      · rw [if_pos hm]
        exact c_11_partnm hb ha h2 h3 hm
      · rw [if_neg hm]
        exact c_11_partnd hb ha h2 h3 hm (hv.resolve_right h3)
/-- the first thread is drawn: k of the others have moved -/
def mdq (I : TI) : TI := fun x y => if x = 65 ∧ y = 5 then I 65 5 - 1 else if x = 70 ∧ y < (I 65 5 - 1).toNatClampNeg then I 70 (y + 1) else I x y
def mdK (I : TI) (co k : Nat) : TI := fun x y => if x = 65 ∧ y = 5 then nI co else if x = 70 ∧ y < k then I 70 (y + 1) else I x y
theorem mdK_0 {I : TI} {co : Nat} : up2 I 65 5 (nI co) = mdK I co 0 := by
  funext x y
  simp [up2, mdK]
theorem mdK_s {I : TI} {co k : Nat} : up2 (mdK I co k) 70 k (mdK I co k 70 (k + 1)) = mdK I co (k + 1) := by
  funext x y
  simp only [up2, mdK]
  by_cases hx : x = 70
  · subst hx
    by_cases hy : y = k
    · subst hy; simp [show ¬ y + 1 < y by omega]
    · by_cases hy2 : y < k
      · simp [hy, hy2, show y < k + 1 by omega]
      · simp [hy, hy2, show ¬ y < k + 1 by omega]
  · simp [hx]
theorem mdK_e {I : TI} {co : Nat} (h : I 65 5 = nI (co + 1)) (hc : co < 100) : mdK I co co = mdq I := by
  unfold mdq
  rw [h, nI_pred, nI_clamp (by omega)]
  rfl
theorem mdK_c {I : TI} {co k : Nat} : mdK I co k 65 5 = nI co := by simp [mdK]
set_option maxRecDepth 100000 in
set_option maxHeartbeats 4000000 in
theorem lp_11_drawn {p : Program} {l : Launch} {e : Env} {R : Room} {s : State} {m : MethodId} {args : Array Value} {below : List Frame} {meth : Method} {c : Code} {D : va_G} {K : Nat → ClassId} {A : Nat → Nat} {Ax : Nat → Prop} {Q : State → Prop} {U : TU} {P : TP} {I : TI} {v : Int32} {co : Nat} (C : CX p s m args meth c RX11 cX11_drawn 3 (some .int) D K Ax) (hc : co < 16) (hz : GJ p l e R s m args below meth c 3 D Ax Q 75 A (gg A K (mdK I co co) (U) (P)) 0 0 47 [some (.ref (A 65)), some (.int v), some (.int (nI (co)))] []) : ∀ f k : Nat, k + f = co → GJ p l e R s m args below meth c 3 D Ax Q 75 A (gg A K (mdK I co k) (U) (P)) 0 0 19 [some (.ref (A 65)), some (.int v), some (.int (nI (k)))] [] := by
  intro f
  induction f with
  | zero =>
    intro k hk
    obtain rfl : k = co := by omega
    refine jx_iload_n C dX11_drawn_19 rfl ?_
    refine jx_aload_n C dX11_drawn_20 rfl ?_
    refine jx_get C fl_11_61_10 dX11_drawn_21 (by decide) gg_65 rfl ?_
    rw [mdK_c]
    refine jx_ic_geT (tgt := 47) C dX11_drawn_24 (by decide) (nI_le (Nat.le_refl _) (by omega)) ?_
    exact hz
  | succ f ih =>
    intro k hk
    refine jx_iload_n C dX11_drawn_19 rfl ?_
    refine jx_aload_n C dX11_drawn_20 rfl ?_
    refine jx_get C fl_11_61_10 dX11_drawn_21 (by decide) gg_65 rfl ?_
    rw [mdK_c]
    refine jx_ic_geF (tgt := 47) C dX11_drawn_24 (nI_ge (by omega) (by omega)) (by decide) ?_
    refine jx_aload_n C dX11_drawn_27 rfl ?_
    refine jx_get C fl_11_23_10 dX11_drawn_28 (by decide) gg_65 rfl ?_
    refine jx_iload_n C dX11_drawn_31 rfl ?_
    refine jx_aload_n C dX11_drawn_32 rfl ?_
    refine jx_get C fl_11_23_10 dX11_drawn_33 (by decide) gg_65 rfl ?_
    refine jx_iload_n C dX11_drawn_36 rfl ?_
    refine jx_iconst (v := 1) C dX11_drawn_37 (by decide) ?_
    refine jx_iadd C dX11_drawn_38 ?_
    refine jx_iald (k + 1) C dX11_drawn_39 (by decide) gg_70 (nI_1 k) (by omega) (by decide) ?_
    refine jx_iastI (k) C dX11_drawn_40 (by decide) (fun _ => gg_70) rfl (by omega) (by decide) ?_
    rw [mdK_s]
    refine jx_iinc (lv1 := [_, _, _]) C dX11_drawn_41 rfl (nI_1 k) rfl ?_
    refine jx_goto (tgt := 19) C dX11_drawn_44 (by decide) ?_
    exact ih (k + 1) (by omega)
set_option maxRecDepth 100000 in
set_option maxHeartbeats 4000000 in
theorem c_11_drawn {l : Launch} {D : va_G} {K : Nat → ClassId} {A : Nat → Nat} {I : TI} {U : TU} {P : TP} {co : Nat} (h : I 65 5 = nI (co + 1)) (hc : co < 16) : MM l yX11_drawn cX11_drawn 3 (some .int) 1 D K A (I) (U) (P) [.ref (A 65)] (XE (some (.int (I 70 0))) (mdq I) (U) (P)) := by
  refine MM.go (own := RX11) (lv0 := [some (.ref (A 65)), none, none]) rfl (by decide) rfl (Nat.le_of_ble_eq_true rfl) rfl ?_
  intro p e s m args below meth c C
  refine jx_aload_n C dX11_drawn_0 rfl ?_
  refine jx_get C fl_11_23_10 dX11_drawn_1 (by decide) gg_65 rfl ?_
  refine jx_iconst (v := 0) C dX11_drawn_4 (by decide) ?_
  refine jx_iald (0) C dX11_drawn_5 (by decide) gg_70 rfl (by decide) (by decide) ?_
  refine jx_istore_n (lv1 := [_, _, _]) C dX11_drawn_6 (by decide) rfl ?_
  refine jx_aload_n C dX11_drawn_7 rfl ?_
  refine jx_dup C dX11_drawn_8 rfl ?_
  refine jx_get C fl_11_61_10 dX11_drawn_9 (by decide) gg_65 rfl ?_
  refine jx_iconst (v := 1) C dX11_drawn_12 (by decide) ?_
  refine jx_isub C dX11_drawn_13 ?_
  rw [h, nI_pred]
  refine jx_putI C fp_11_61_10 dX11_drawn_14 (by decide) gg_65 (Nat.le_of_ble_eq_true rfl) rfl ?_
  refine jx_iconst (v := 0) C dX11_drawn_17 (by decide) ?_
  refine jx_istore_n (lv1 := [_, _, _]) C dX11_drawn_18 (by decide) rfl ?_
  rw [mdK_0]
  refine lp_11_drawn C hc ?_ co 0 (by omega)
  rw [mdK_e h (by omega)]
  refine jx_iload_n C dX11_drawn_47 rfl ?_
  exact jx_iret C dX11_drawn_48 ⟨rfl, rfl, rfl, rfl⟩
