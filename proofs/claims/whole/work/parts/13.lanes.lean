/-! the lanes -/
/-- a number that comes to an end of a sort of whole numbers, or of LIFT -/
def cutTo (so : Nat) (v : Int32) : Int32 := if so = 0 then v &&& 65535 else if so = 1 then v <<< ((16 : Int32) &&& 31) >>> ((16 : Int32) &&& 31) else if so = 4 then v <<< ((24 : Int32) &&& 31) >>> ((24 : Int32) &&& 31) else v &&& 1
def vPull (so : Nat) (x v : Int32) : Int32 := if so = 3 then x ^^^ (v &&& 1) else cutTo so (x + v)
def vPart (so : Nat) (x v : Int32) : Int32 := if so = 3 then x &&& v &&& 1 else cutTo so (if v = -1 then -x else x / v)
theorem cut_c (v : Int32) : (v.toUInt32 % 65536).toInt32 = v &&& 65535 := by
  rw [pk_char, pk_and v 16 (by decide)]
theorem shl_toInt (v : Int32) (s : Int32) (k : Nat) (hs : (s.toBitVec.smod 32).toNat = k) : (v <<< s).toInt = (v.toInt * 2 ^ k).bmod (2 ^ 32) := by
  have h1 := pk_shl v s k hs
  have h2 : (v <<< s).toInt = ((v <<< s).toBitVec.toNat : Int).bmod (2 ^ 32) := by
    show (v <<< s).toBitVec.toInt = _
    rw [BitVec.toInt_eq_toNat_bmod]
  have h3 : v.toInt = (v.toBitVec.toNat : Int).bmod (2 ^ 32) := by
    show v.toBitVec.toInt = _
    rw [BitVec.toInt_eq_toNat_bmod]
  have e : ((v.toBitVec.toNat * 2 ^ k % 2 ^ 32 : Nat) : Int) = ((v.toBitVec.toNat : Int) * 2 ^ k) % ((2 ^ 32 : Nat) : Int) := by
    rw [Int.natCast_emod, Int.natCast_mul, Int.natCast_pow]
    rfl
  rw [h2, h1, h3, e, Int.emod_bmod, Int.bmod_mul_bmod]
theorem cut_s (v : Int32) : v.toInt16.toInt32 = v <<< ((16 : Int32) &&& 31) >>> ((16 : Int32) &&& 31) := by
  apply Int32.toInt_inj.mp
  rw [pk_shr _ _ 16 (by decide), shl_toInt v _ 16 (by decide)]
  have h : v.toInt16.toInt32.toInt = v.toInt.bmod (2 ^ 16) := by
    rw [Int16.toInt_toInt32, Int32.toInt_toInt16]
  rw [h, Int.shiftRight_eq_div_pow]
  have h1 := v.toInt_lt
  have h2 := v.le_toInt
  simp only [Int.bmod_def]
  omega
theorem cut_b (v : Int32) : v.toInt8.toInt32 = v <<< ((24 : Int32) &&& 31) >>> ((24 : Int32) &&& 31) := by
  apply Int32.toInt_inj.mp
  rw [pk_shr _ _ 24 (by decide), shl_toInt v _ 24 (by decide)]
  have h : v.toInt8.toInt32.toInt = v.toInt.bmod (2 ^ 8) := by
    rw [Int8.toInt_toInt32, Int32.toInt_toInt8]
  rw [h, Int.shiftRight_eq_div_pow]
  have h1 := v.toInt_lt
  have h2 := v.le_toInt
  simp only [Int.bmod_def]
  omega
theorem bit1 (v : Int32) : v &&& 1 = 0 ∨ v &&& 1 = 1 := by
  obtain ⟨j, hj, e⟩ := pk_andE v (m := 1) 1 (by decide)
  rcases (show j = 0 ∨ j = 1 by omega) with rfl | rfl
  · exact Or.inl e
  · exact Or.inr e
theorem bit1_b (v : Int32) : bI (¬ v &&& 1 = 0) = v &&& 1 := by
  rcases bit1 v with h | h
  · rw [bI_f (fun q => q h), h]
  · rw [bI_t (by rw [h]; decide), h]
theorem div_m1 (x : Int32) : x / (-1) = -x := by
  apply Int32.toInt_inj.mp
  have h := Int32.toInt_div x (-1)
  rw [show (-1 : Int32).toInt = -1 from rfl, Int.tdiv_neg, Int.tdiv_one] at h
  rw [h, Int32.toInt_neg]
theorem part_div (x v : Int32) : (if v = -1 then -x else x / v) = x / v := by
  split
  · next h => rw [h, div_m1]
  · rfl
theorem cv_g {r : Option Ordering} : 0 ≤ Op.cmpValue r .g ↔ ¬ r = some .lt := by
  rcases r with _ | (_ | _ | _) <;> simp [Op.cmpValue]
theorem cv_l {r : Option Ordering} : Op.cmpValue r .l ≤ 0 ↔ ¬ r = some .gt := by
  rcases r with _ | (_ | _ | _) <;> simp [Op.cmpValue]
def laI (k i : Nat) (x : Int32) (I : TI) : TI := if k % 5 = 2 then I else up2 I (5 + 2 * k) i x
def laU (k i : Nat) (x : UInt32) (U : TU) : TU := if k % 5 = 2 then up2 U (5 + 2 * k) i x else U
/-- what an end tells -/
def tl (I : TI) (U : TU) (k i : Nat) : Int32 := if k % 5 = 2 then FP.f2i (FP.fmul (U (5 + 2 * k) i) 1090519040) else I (5 + 2 * k) i
def swI (k i j : Nat) (I : TI) : TI := if k % 5 = 2 then I else up2 (up2 I (5 + 2 * k) i (I (5 + 2 * k) j)) (5 + 2 * k) j (I (5 + 2 * k) i)
def swU (k i j : Nat) (U : TU) : TU := if k % 5 = 2 then up2 (up2 U (5 + 2 * k) i (U (5 + 2 * k) j)) (5 + 2 * k) j (U (5 + 2 * k) i) else U
/-- ends of a lane hold what their sort can: LIFT 0 or 1, TENSION what is held -/
def okE (I : TI) (U : TU) (k i : Nat) : Prop := (k % 5 = 3 → I (5 + 2 * k) i = 0 ∨ I (5 + 2 * k) i = 1) ∧ (k % 5 = 2 → hd32 (U (5 + 2 * k) i))
set_option maxRecDepth 100000 in
set_option maxHeartbeats 4000000 in
theorem c_3_countW {l : Launch} {D : va_G} {K : Nat → ClassId} {A : Nat → Nat} {I : TI} {U : TU} {P : TP} {k : Nat} (hk : k < 20) (h2 : ¬ k % 5 = 2) (h3 : ¬ k % 5 = 3) : MM l yX3_count cX3_count 1 (some .int) 0 D K A (I) (U) (P) [.ref (A (4 + 2 * k))] (XE (some (.int (I (4 + 2 * k) 0))) I U P) := by
  refine MM.go (own := RX3) (lv0 := [some (.ref (A (4 + 2 * k)))]) rfl (by decide) rfl (Nat.le_of_ble_eq_true rfl) rfl ?_
  intro p e s m args below meth c C
  refine jx_aload_n C dX3_count_0 rfl ?_
  refine jx_get C fl_3_9_8 dX3_count_1 (by omega) (gg_laneW hk h2 h3) rfl ?_
  exact jx_iret C dX3_count_4 ⟨rfl, rfl, rfl, rfl⟩
set_option maxRecDepth 100000 in
set_option maxHeartbeats 4000000 in
theorem c_3_hasW {l : Launch} {D : va_G} {K : Nat → ClassId} {A : Nat → Nat} {I : TI} {U : TU} {P : TP} {k : Nat} {x : Int32} (hk : k < 20) (h2 : ¬ k % 5 = 2) (h3 : ¬ k % 5 = 3) : MM l yX3_has cX3_has 2 (some .boolean) 0 D K A (I) (U) (P) [.ref (A (4 + 2 * k)), .int x] (XE (some (.int (bI (inR (I (4 + 2 * k) 0) x)))) I U P) := by
  refine MM.go (own := RX3) (lv0 := [some (.ref (A (4 + 2 * k))), some (.int x)]) rfl (by decide) rfl (Nat.le_of_ble_eq_true rfl) rfl ?_
  intro p e s m args below meth c C
  refine jx_iload_n C dX3_has_0 rfl ?_
  refine jx_if_lt (tgt := 16) C dX3_has_1 (by decide) (fun c1 => ?_) (fun c1 => ?_)
  · refine jx_iconst (v := 0) C dX3_has_16 (by decide) ?_
    exact jx_zret C dX3_has_17 rfl ⟨by simp [bI, inR, c1], rfl, rfl, rfl⟩
  · refine jx_iload_n C dX3_has_4 rfl ?_
    refine jx_aload_n C dX3_has_5 rfl ?_
    refine jx_get C fl_3_9_8 dX3_has_6 (by omega) (gg_laneW hk h2 h3) rfl ?_
    refine jx_ic_ge (tgt := 16) C dX3_has_9 (by decide) (fun c9 => ?_) (fun c9 => ?_)
    · refine jx_iconst (v := 0) C dX3_has_16 (by decide) ?_
      exact jx_zret C dX3_has_17 rfl ⟨by simp [bI, inR, c1, c9], rfl, rfl, rfl⟩
    · refine jx_iconst (v := 1) C dX3_has_12 (by decide) ?_
      refine jx_goto (tgt := 17) C dX3_has_13 (by decide) ?_
      exact jx_zret C dX3_has_17 rfl ⟨by simp [bI, inR, c1, c9], rfl, rfl, rfl⟩
set_option maxRecDepth 100000 in
set_option maxHeartbeats 4000000 in
theorem c_3_countT {l : Launch} {D : va_G} {K : Nat → ClassId} {A : Nat → Nat} {I : TI} {U : TU} {P : TP} {k : Nat} (hk : k < 20) (h2 : k % 5 = 2) : MM l yX3_count cX3_count 1 (some .int) 0 D K A (I) (U) (P) [.ref (A (4 + 2 * k))] (XE (some (.int (I (4 + 2 * k) 0))) I U P) := by
  refine MM.go (own := RX3) (lv0 := [some (.ref (A (4 + 2 * k)))]) rfl (by decide) rfl (Nat.le_of_ble_eq_true rfl) rfl ?_
  intro p e s m args below meth c C
  refine jx_aload_n C dX3_count_0 rfl ?_
  refine jx_get C fl_3_9_6 dX3_count_1 (by omega) (gg_laneT hk h2) rfl ?_
  exact jx_iret C dX3_count_4 ⟨rfl, rfl, rfl, rfl⟩
set_option maxRecDepth 100000 in
set_option maxHeartbeats 4000000 in
theorem c_3_hasT {l : Launch} {D : va_G} {K : Nat → ClassId} {A : Nat → Nat} {I : TI} {U : TU} {P : TP} {k : Nat} {x : Int32} (hk : k < 20) (h2 : k % 5 = 2) : MM l yX3_has cX3_has 2 (some .boolean) 0 D K A (I) (U) (P) [.ref (A (4 + 2 * k)), .int x] (XE (some (.int (bI (inR (I (4 + 2 * k) 0) x)))) I U P) := by
  refine MM.go (own := RX3) (lv0 := [some (.ref (A (4 + 2 * k))), some (.int x)]) rfl (by decide) rfl (Nat.le_of_ble_eq_true rfl) rfl ?_
  intro p e s m args below meth c C
  refine jx_iload_n C dX3_has_0 rfl ?_
  refine jx_if_lt (tgt := 16) C dX3_has_1 (by decide) (fun c1 => ?_) (fun c1 => ?_)
  · refine jx_iconst (v := 0) C dX3_has_16 (by decide) ?_
    exact jx_zret C dX3_has_17 rfl ⟨by simp [bI, inR, c1], rfl, rfl, rfl⟩
  · refine jx_iload_n C dX3_has_4 rfl ?_
    refine jx_aload_n C dX3_has_5 rfl ?_
    refine jx_get C fl_3_9_6 dX3_has_6 (by omega) (gg_laneT hk h2) rfl ?_
    refine jx_ic_ge (tgt := 16) C dX3_has_9 (by decide) (fun c9 => ?_) (fun c9 => ?_)
    · refine jx_iconst (v := 0) C dX3_has_16 (by decide) ?_
      exact jx_zret C dX3_has_17 rfl ⟨by simp [bI, inR, c1, c9], rfl, rfl, rfl⟩
    · refine jx_iconst (v := 1) C dX3_has_12 (by decide) ?_
      refine jx_goto (tgt := 17) C dX3_has_13 (by decide) ?_
      exact jx_zret C dX3_has_17 rfl ⟨by simp [bI, inR, c1, c9], rfl, rfl, rfl⟩
set_option maxRecDepth 100000 in
set_option maxHeartbeats 4000000 in
theorem c_3_countL {l : Launch} {D : va_G} {K : Nat → ClassId} {A : Nat → Nat} {I : TI} {U : TU} {P : TP} {k : Nat} (hk : k < 20) (h3 : k % 5 = 3) : MM l yX3_count cX3_count 1 (some .int) 0 D K A (I) (U) (P) [.ref (A (4 + 2 * k))] (XE (some (.int (I (4 + 2 * k) 0))) I U P) := by
  refine MM.go (own := RX3) (lv0 := [some (.ref (A (4 + 2 * k)))]) rfl (by decide) rfl (Nat.le_of_ble_eq_true rfl) rfl ?_
  intro p e s m args below meth c C
  refine jx_aload_n C dX3_count_0 rfl ?_
  refine jx_get C fl_3_9_4 dX3_count_1 (by omega) (gg_laneL hk h3) rfl ?_
  exact jx_iret C dX3_count_4 ⟨rfl, rfl, rfl, rfl⟩
set_option maxRecDepth 100000 in
set_option maxHeartbeats 4000000 in
theorem c_3_hasL {l : Launch} {D : va_G} {K : Nat → ClassId} {A : Nat → Nat} {I : TI} {U : TU} {P : TP} {k : Nat} {x : Int32} (hk : k < 20) (h3 : k % 5 = 3) : MM l yX3_has cX3_has 2 (some .boolean) 0 D K A (I) (U) (P) [.ref (A (4 + 2 * k)), .int x] (XE (some (.int (bI (inR (I (4 + 2 * k) 0) x)))) I U P) := by
  refine MM.go (own := RX3) (lv0 := [some (.ref (A (4 + 2 * k))), some (.int x)]) rfl (by decide) rfl (Nat.le_of_ble_eq_true rfl) rfl ?_
  intro p e s m args below meth c C
  refine jx_iload_n C dX3_has_0 rfl ?_
  refine jx_if_lt (tgt := 16) C dX3_has_1 (by decide) (fun c1 => ?_) (fun c1 => ?_)
  · refine jx_iconst (v := 0) C dX3_has_16 (by decide) ?_
    exact jx_zret C dX3_has_17 rfl ⟨by simp [bI, inR, c1], rfl, rfl, rfl⟩
  · refine jx_iload_n C dX3_has_4 rfl ?_
    refine jx_aload_n C dX3_has_5 rfl ?_
    refine jx_get C fl_3_9_4 dX3_has_6 (by omega) (gg_laneL hk h3) rfl ?_
    refine jx_ic_ge (tgt := 16) C dX3_has_9 (by decide) (fun c9 => ?_) (fun c9 => ?_)
    · refine jx_iconst (v := 0) C dX3_has_16 (by decide) ?_
      exact jx_zret C dX3_has_17 rfl ⟨by simp [bI, inR, c1, c9], rfl, rfl, rfl⟩
    · refine jx_iconst (v := 1) C dX3_has_12 (by decide) ?_
      refine jx_goto (tgt := 17) C dX3_has_13 (by decide) ?_
      exact jx_zret C dX3_has_17 rfl ⟨by simp [bI, inR, c1, c9], rfl, rfl, rfl⟩
set_option maxRecDepth 100000 in
set_option maxHeartbeats 4000000 in
theorem c_9_fit {l : Launch} {D : va_G} {K : Nat → ClassId} {A : Nat → Nat} {I : TI} {U : TU} {P : TP} {k : Nat} {v : Int32} (hk : k < 20) (h2 : ¬ k % 5 = 2) (h3 : ¬ k % 5 = 3) : MM l yX9_fit cX9_fit 2 (some .int) 0 D K A (I) (U) (P) [.ref (A (4 + 2 * k)), .int v] (XE (some (.int (cutTo (k % 5) v))) I U P) := by
  refine MM.go (own := RX9) (lv0 := [some (.ref (A (4 + 2 * k))), some (.int v)]) rfl (by decide) rfl (Nat.le_of_ble_eq_true rfl) rfl ?_
  intro p e s m args below meth c C
  refine jx_aload_n C dX9_fit_0 rfl ?_
  refine jx_get C fl_9_15_8 dX9_fit_1 (by omega) (gg_laneW hk h2 h3) rfl ?_
  rcases (show k % 5 = 0 ∨ k % 5 = 1 ∨ k % 5 = 4 by omega) with h | h | h
  · rw [h]
    refine jx_lookup (tgt := 32) C dX9_fit_4 rfl (off := 28) (by decide +kernel) (by decide) ?_
    refine jx_iload_n C dX9_fit_32 rfl ?_
    refine jx_i2c C dX9_fit_33 ?_
    exact jx_iret C dX9_fit_34 ⟨by rw [cut_c]; rfl, rfl, rfl, rfl⟩
  · rw [h]
    refine jx_lookup (tgt := 35) C dX9_fit_4 rfl (off := 31) (by decide +kernel) (by decide) ?_
    refine jx_iload_n C dX9_fit_35 rfl ?_
    refine jx_i2s C dX9_fit_36 ?_
    exact jx_iret C dX9_fit_37 ⟨by rw [cut_s]; rfl, rfl, rfl, rfl⟩
  · rw [h]
    refine jx_lookup (tgt := 38) C dX9_fit_4 rfl (off := 34) (by decide +kernel) (by decide) ?_
    refine jx_iload_n C dX9_fit_38 rfl ?_
    refine jx_i2b C dX9_fit_39 ?_
    exact jx_iret C dX9_fit_40 ⟨by rw [cut_b]; rfl, rfl, rfl, rfl⟩
set_option maxRecDepth 100000 in
set_option maxHeartbeats 4000000 in
theorem c_9_reset {l : Launch} {D : va_G} {K : Nat → ClassId} {A : Nat → Nat} {I : TI} {U : TU} {P : TP} {k : Nat} {i : Nat} (hi : i < 24) (hk : k < 20) (h2 : ¬ k % 5 = 2) (h3 : ¬ k % 5 = 3) : MM l yX9_reset cX9_reset 2 none 0 D K A (I) (U) (P) [.ref (A (4 + 2 * k)), .int (nI i)] (XE none (up2 I (5 + 2 * k) i 0) U P) := by
  refine MM.go (own := RX9) (lv0 := [some (.ref (A (4 + 2 * k))), some (.int (nI i))]) rfl (by decide) rfl (Nat.le_of_ble_eq_true rfl) rfl ?_
  intro p e s m args below meth c C
  refine jx_aload_n C dX9_reset_0 rfl ?_
  refine jx_get C fl_9_9_8 dX9_reset_1 (by omega) (gg_laneW hk h2 h3) rfl ?_
  refine jx_iload_n C dX9_reset_4 rfl ?_
  refine jx_iconst (v := 0) C dX9_reset_5 (by decide) ?_
  refine jx_iastI (i) C dX9_reset_6 (by omega) (fun _ => (gg_larrW hk h2 h3)) rfl hi (by decide) ?_
  exact jx_vret C dX9_reset_7 ⟨rfl, rfl, rfl, rfl⟩
set_option maxRecDepth 100000 in
set_option maxHeartbeats 4000000 in
theorem c_9_tells {l : Launch} {D : va_G} {K : Nat → ClassId} {A : Nat → Nat} {I : TI} {U : TU} {P : TP} {k : Nat} {i : Nat} (hi : i < 24) (hk : k < 20) (h2 : ¬ k % 5 = 2) (h3 : ¬ k % 5 = 3) : MM l yX9_tells cX9_tells 2 (some .int) 0 D K A (I) (U) (P) [.ref (A (4 + 2 * k)), .int (nI i)] (XE (some (.int (I (5 + 2 * k) i))) I U P) := by
  refine MM.go (own := RX9) (lv0 := [some (.ref (A (4 + 2 * k))), some (.int (nI i))]) rfl (by decide) rfl (Nat.le_of_ble_eq_true rfl) rfl ?_
  intro p e s m args below meth c C
  refine jx_aload_n C dX9_tells_0 rfl ?_
  refine jx_get C fl_9_9_8 dX9_tells_1 (by omega) (gg_laneW hk h2 h3) rfl ?_
  refine jx_iload_n C dX9_tells_4 rfl ?_
  refine jx_iald (i) C dX9_tells_5 (by omega) (gg_larrW hk h2 h3) rfl hi (by decide) ?_
  exact jx_iret C dX9_tells_6 ⟨rfl, rfl, rfl, rfl⟩
set_option maxRecDepth 100000 in
set_option maxHeartbeats 4000000 in
theorem c_9_lay {l : Launch} {D : va_G} {K : Nat → ClassId} {A : Nat → Nat} {I : TI} {U : TU} {P : TP} {k : Nat} {v : Int32} {i : Nat} (hi : i < 24) (hk : k < 20) (h2 : ¬ k % 5 = 2) (h3 : ¬ k % 5 = 3) : MM l yX9_lay cX9_lay 3 none 1 D K A (I) (U) (P) [.ref (A (4 + 2 * k)), .int (nI i), .int v] (XE none (up2 I (5 + 2 * k) i (cutTo (k % 5) v)) U P) := by
  refine MM.go (own := RX9) (lv0 := [some (.ref (A (4 + 2 * k))), some (.int (nI i)), some (.int v)]) rfl (by decide) rfl (Nat.le_of_ble_eq_true rfl) rfl ?_
  intro p e s m args below meth c C
  refine jx_aload_n C dX9_lay_0 rfl ?_
  refine jx_get C fl_9_9_8 dX9_lay_1 (by omega) (gg_laneW hk h2 h3) rfl ?_
  refine jx_iload_n C dX9_lay_4 rfl ?_
  refine jx_aload_n C dX9_lay_5 rfl ?_
  refine jx_iload_n C dX9_lay_6 rfl ?_
  refine jx_one C (jr_V C (c_9_fit hk h2 h3) vw_9_19 (by omega) (gg_laneW hk h2 h3) rfl rfl ⟨Nat.le_of_ble_eq_true rfl, Nat.le_of_ble_eq_true rfl⟩ ⟨Nat.le_of_ble_eq_true rfl, Nat.le_of_ble_eq_true rfl⟩ dX9_lay_7 rfl (Nat.le_of_ble_eq_true rfl)) ?_
  refine jx_iastI (i) C dX9_lay_10 (by omega) (fun _ => (gg_larrW hk h2 h3)) rfl hi (by decide) ?_
  exact jx_vret C dX9_lay_11 ⟨rfl, rfl, rfl, rfl⟩
set_option maxRecDepth 100000 in
set_option maxHeartbeats 4000000 in
theorem c_9_pull {l : Launch} {D : va_G} {K : Nat → ClassId} {A : Nat → Nat} {I : TI} {U : TU} {P : TP} {k : Nat} {v : Int32} {i : Nat} (hi : i < 24) (hk : k < 20) (h2 : ¬ k % 5 = 2) (h3 : ¬ k % 5 = 3) : MM l yX9_pull cX9_pull 3 none 1 D K A (I) (U) (P) [.ref (A (4 + 2 * k)), .int (nI i), .int v] (XE none (up2 I (5 + 2 * k) i (cutTo (k % 5) (I (5 + 2 * k) i + v))) U P) := by
  refine MM.go (own := RX9) (lv0 := [some (.ref (A (4 + 2 * k))), some (.int (nI i)), some (.int v)]) rfl (by decide) rfl (Nat.le_of_ble_eq_true rfl) rfl ?_
  intro p e s m args below meth c C
  refine jx_aload_n C dX9_pull_0 rfl ?_
  refine jx_get C fl_9_9_8 dX9_pull_1 (by omega) (gg_laneW hk h2 h3) rfl ?_
  refine jx_iload_n C dX9_pull_4 rfl ?_
  refine jx_aload_n C dX9_pull_5 rfl ?_
  refine jx_aload_n C dX9_pull_6 rfl ?_
  refine jx_get C fl_9_9_8 dX9_pull_7 (by omega) (gg_laneW hk h2 h3) rfl ?_
  refine jx_iload_n C dX9_pull_10 rfl ?_
  refine jx_iald (i) C dX9_pull_11 (by omega) (gg_larrW hk h2 h3) rfl hi (by decide) ?_
  refine jx_iload_n C dX9_pull_12 rfl ?_
  refine jx_iadd C dX9_pull_13 ?_
  refine jx_one C (jr_V C (c_9_fit hk h2 h3) vw_9_19 (by omega) (gg_laneW hk h2 h3) rfl rfl ⟨Nat.le_of_ble_eq_true rfl, Nat.le_of_ble_eq_true rfl⟩ ⟨Nat.le_of_ble_eq_true rfl, Nat.le_of_ble_eq_true rfl⟩ dX9_pull_14 rfl (Nat.le_of_ble_eq_true rfl)) ?_
  refine jx_iastI (i) C dX9_pull_17 (by omega) (fun _ => (gg_larrW hk h2 h3)) rfl hi (by decide) ?_
  exact jx_vret C dX9_pull_18 ⟨rfl, rfl, rfl, rfl⟩
set_option maxRecDepth 100000 in
set_option maxHeartbeats 4000000 in
theorem c_9_turn {l : Launch} {D : va_G} {K : Nat → ClassId} {A : Nat → Nat} {I : TI} {U : TU} {P : TP} {k : Nat} {i : Nat} (hi : i < 24) (hk : k < 20) (h2 : ¬ k % 5 = 2) (h3 : ¬ k % 5 = 3) : MM l yX9_turn cX9_turn 2 none 1 D K A (I) (U) (P) [.ref (A (4 + 2 * k)), .int (nI i)] (XE none (up2 I (5 + 2 * k) i (cutTo (k % 5) (I (5 + 2 * k) i + 1))) U P) := by
  refine MM.go (own := RX9) (lv0 := [some (.ref (A (4 + 2 * k))), some (.int (nI i))]) rfl (by decide) rfl (Nat.le_of_ble_eq_true rfl) rfl ?_
  intro p e s m args below meth c C
  refine jx_aload_n C dX9_turn_0 rfl ?_
  refine jx_get C fl_9_9_8 dX9_turn_1 (by omega) (gg_laneW hk h2 h3) rfl ?_
  refine jx_iload_n C dX9_turn_4 rfl ?_
  refine jx_aload_n C dX9_turn_5 rfl ?_
  refine jx_aload_n C dX9_turn_6 rfl ?_
  refine jx_get C fl_9_9_8 dX9_turn_7 (by omega) (gg_laneW hk h2 h3) rfl ?_
  refine jx_iload_n C dX9_turn_10 rfl ?_
  refine jx_iald (i) C dX9_turn_11 (by omega) (gg_larrW hk h2 h3) rfl hi (by decide) ?_
  refine jx_iconst (v := 1) C dX9_turn_12 (by decide) ?_
  refine jx_iadd C dX9_turn_13 ?_
  refine jx_one C (jr_V C (c_9_fit hk h2 h3) vw_9_19 (by omega) (gg_laneW hk h2 h3) rfl rfl ⟨Nat.le_of_ble_eq_true rfl, Nat.le_of_ble_eq_true rfl⟩ ⟨Nat.le_of_ble_eq_true rfl, Nat.le_of_ble_eq_true rfl⟩ dX9_turn_14 rfl (Nat.le_of_ble_eq_true rfl)) ?_
  refine jx_iastI (i) C dX9_turn_17 (by omega) (fun _ => (gg_larrW hk h2 h3)) rfl hi (by decide) ?_
  exact jx_vret C dX9_turn_18 ⟨rfl, rfl, rfl, rfl⟩
set_option maxRecDepth 100000 in
set_option maxHeartbeats 4000000 in
theorem c_9_part {l : Launch} {D : va_G} {K : Nat → ClassId} {A : Nat → Nat} {I : TI} {U : TU} {P : TP} {k : Nat} {v : Int32} (hv : ¬ v = 0) {i : Nat} (hi : i < 24) (hk : k < 20) (h2 : ¬ k % 5 = 2) (h3 : ¬ k % 5 = 3) : MM l yX9_part cX9_part 3 (some .boolean) 1 D K A (I) (U) (P) [.ref (A (4 + 2 * k)), .int (nI i), .int v] (XE (some (.int 1)) (up2 I (5 + 2 * k) i (cutTo (k % 5) (I (5 + 2 * k) i / v))) U P) := by
  refine MM.go (own := RX9) (lv0 := [some (.ref (A (4 + 2 * k))), some (.int (nI i)), some (.int v)]) rfl (by decide) rfl (Nat.le_of_ble_eq_true rfl) rfl ?_
  intro p e s m args below meth c C
  refine jx_iload_n C dX9_part_0 rfl ?_
  refine jx_if_neT (tgt := 6) C dX9_part_1 (by decide) hv ?_
  refine jx_aload_n C dX9_part_6 rfl ?_
  refine jx_get C fl_9_9_8 dX9_part_7 (by omega) (gg_laneW hk h2 h3) rfl ?_
  refine jx_iload_n C dX9_part_10 rfl ?_
  refine jx_aload_n C dX9_part_11 rfl ?_
  refine jx_aload_n C dX9_part_12 rfl ?_
  refine jx_get C fl_9_9_8 dX9_part_13 (by omega) (gg_laneW hk h2 h3) rfl ?_
  refine jx_iload_n C dX9_part_16 rfl ?_
  refine jx_iald (i) C dX9_part_17 (by omega) (gg_larrW hk h2 h3) rfl hi (by decide) ?_
  refine jx_iload_n C dX9_part_18 rfl ?_
  refine jx_idiv C dX9_part_19 hv ?_
  refine jx_one C (jr_V C (c_9_fit hk h2 h3) vw_9_19 (by omega) (gg_laneW hk h2 h3) rfl rfl ⟨Nat.le_of_ble_eq_true rfl, Nat.le_of_ble_eq_true rfl⟩ ⟨Nat.le_of_ble_eq_true rfl, Nat.le_of_ble_eq_true rfl⟩ dX9_part_20 rfl (Nat.le_of_ble_eq_true rfl)) ?_
  refine jx_iastI (i) C dX9_part_23 (by omega) (fun _ => (gg_larrW hk h2 h3)) rfl hi (by decide) ?_
  refine jx_iconst (v := 1) C dX9_part_24 (by decide) ?_
  exact jx_zret C dX9_part_25 rfl ⟨rfl, rfl, rfl, rfl⟩
set_option maxRecDepth 100000 in
set_option maxHeartbeats 4000000 in
theorem c_9_part0 {l : Launch} {D : va_G} {K : Nat → ClassId} {A : Nat → Nat} {I : TI} {U : TU} {P : TP} {k : Nat} {x : Int32} (hk : k < 20) (h2 : ¬ k % 5 = 2) (h3 : ¬ k % 5 = 3) : MM l yX9_part cX9_part 3 (some .boolean) 1 D K A (I) (U) (P) [.ref (A (4 + 2 * k)), .int x, .int 0] (XE (some (.int 0)) I U P) := by
  refine MM.go (own := RX9) (lv0 := [some (.ref (A (4 + 2 * k))), some (.int x), some (.int 0)]) rfl (by decide) rfl (Nat.le_of_ble_eq_true rfl) rfl ?_
  intro p e s m args below meth c C
  refine jx_iload_n C dX9_part_0 rfl ?_
  refine jx_if_neF (tgt := 6) C dX9_part_1 rfl (by decide) ?_
  refine jx_iconst (v := 0) C dX9_part_4 (by decide) ?_
  exact jx_zret C dX9_part_5 rfl ⟨rfl, rfl, rfl, rfl⟩
set_option maxRecDepth 100000 in
set_option maxHeartbeats 4000000 in
theorem c_9_exchange {l : Launch} {D : va_G} {K : Nat → ClassId} {A : Nat → Nat} {I : TI} {U : TU} {P : TP} {k : Nat} {i j : Nat} (hi : i < 24) (hj : j < 24) (hk : k < 20) (h2 : ¬ k % 5 = 2) (h3 : ¬ k % 5 = 3) : MM l yX9_exchange cX9_exchange 4 none 0 D K A (I) (U) (P) [.ref (A (4 + 2 * k)), .int (nI i), .int (nI j)] (XE none (up2 (up2 I (5 + 2 * k) i (I (5 + 2 * k) j)) (5 + 2 * k) j (I (5 + 2 * k) i)) U P) := by
  refine MM.go (own := RX9) (lv0 := [some (.ref (A (4 + 2 * k))), some (.int (nI i)), some (.int (nI j)), none]) rfl (by decide) rfl (Nat.le_of_ble_eq_true rfl) rfl ?_
  intro p e s m args below meth c C
  refine jx_aload_n C dX9_exchange_0 rfl ?_
  refine jx_get C fl_9_9_8 dX9_exchange_1 (by omega) (gg_laneW hk h2 h3) rfl ?_
  refine jx_iload_n C dX9_exchange_4 rfl ?_
  refine jx_iald (i) C dX9_exchange_5 (by omega) (gg_larrW hk h2 h3) rfl hi (by decide) ?_
  refine jx_istore_n (lv1 := [_, _, _, _]) C dX9_exchange_6 (by decide) rfl ?_
  refine jx_aload_n C dX9_exchange_7 rfl ?_
  refine jx_get C fl_9_9_8 dX9_exchange_8 (by omega) (gg_laneW hk h2 h3) rfl ?_
  refine jx_iload_n C dX9_exchange_11 rfl ?_
  refine jx_aload_n C dX9_exchange_12 rfl ?_
  refine jx_get C fl_9_9_8 dX9_exchange_13 (by omega) (gg_laneW hk h2 h3) rfl ?_
  refine jx_iload_n C dX9_exchange_16 rfl ?_
  refine jx_iald (j) C dX9_exchange_17 (by omega) (gg_larrW hk h2 h3) rfl hj (by decide) ?_
  refine jx_iastI (i) C dX9_exchange_18 (by omega) (fun _ => (gg_larrW hk h2 h3)) rfl hi (by decide) ?_
  refine jx_aload_n C dX9_exchange_19 rfl ?_
  refine jx_get C fl_9_9_8 dX9_exchange_20 (by omega) (gg_laneW hk h2 h3) rfl ?_
  refine jx_iload_n C dX9_exchange_23 rfl ?_
  refine jx_iload_n C dX9_exchange_24 rfl ?_
  refine jx_iastI (j) C dX9_exchange_25 (by omega) (fun _ => (gg_larrW hk h2 h3)) rfl hj (by decide) ?_
  exact jx_vret C dX9_exchange_26 ⟨rfl, rfl, rfl, rfl⟩
theorem z_nar {v : Int32} (h : v = 0 ∨ v = 1) : vp_nar .boolean v = v := by rcases h with rfl | rfl <;> rfl
theorem z_ret {v : Int32} (h : v = 0 ∨ v = 1) : narrow .boolean (.int v) = .int v := by rcases h with rfl | rfl <;> rfl
theorem bI_01 (c : Prop) [Decidable c] : bI c = 0 ∨ bI c = 1 := by unfold bI; split <;> simp
theorem x_turn {x : Int32} (h : x = 0 ∨ x = 1) : bI (x = 0) = x ^^^ (1 &&& 1) := by rcases h with rfl | rfl <;> decide
set_option maxRecDepth 100000 in
set_option maxHeartbeats 4000000 in
theorem c_5_isOdd {l : Launch} {D : va_G} {K : Nat → ClassId} {A : Nat → Nat} {I : TI} {U : TU} {P : TP} {v : Int32} : MM l yX5_isOdd cX5_isOdd 1 (some .boolean) 0 D K A (I) (U) (P) [.int v] (XE (some (.int (v &&& 1))) I U P) := by
  refine MM.go (own := RX5) (lv0 := [some (.int v)]) rfl (by decide) rfl (Nat.le_of_ble_eq_true rfl) rfl ?_
  intro p e s m args below meth c C
  refine jx_iload_n C dX5_isOdd_0 rfl ?_
  refine jx_iconst (v := 1) C dX5_isOdd_1 (by decide) ?_
  refine jx_iand C dX5_isOdd_2 ?_
  refine jx_if_eq (tgt := 10) C dX5_isOdd_3 (by decide) (fun c3 => ?_) (fun c3 => ?_)
  · refine jx_iconst (v := 0) C dX5_isOdd_10 (by decide) ?_
    exact jx_zret C dX5_isOdd_11 rfl ⟨by rw [← bit1_b]; simp [bI, c3], rfl, rfl, rfl⟩
  · refine jx_iconst (v := 1) C dX5_isOdd_6 (by decide) ?_
    refine jx_goto (tgt := 11) C dX5_isOdd_7 (by decide) ?_
    exact jx_zret C dX5_isOdd_11 rfl ⟨by rw [← bit1_b]; simp [bI, c3], rfl, rfl, rfl⟩
set_option maxRecDepth 100000 in
set_option maxHeartbeats 4000000 in
theorem c_5_reset {l : Launch} {D : va_G} {K : Nat → ClassId} {A : Nat → Nat} {I : TI} {U : TU} {P : TP} {k : Nat} {i : Nat} (hi : i < 24) (hk : k < 20) (h3 : k % 5 = 3) : MM l yX5_reset cX5_reset 2 none 0 D K A (I) (U) (P) [.ref (A (4 + 2 * k)), .int (nI i)] (XE none (up2 I (5 + 2 * k) i 0) U P) := by
  refine MM.go (own := RX5) (lv0 := [some (.ref (A (4 + 2 * k))), some (.int (nI i))]) rfl (by decide) rfl (Nat.le_of_ble_eq_true rfl) rfl ?_
  intro p e s m args below meth c C
  refine jx_aload_n C dX5_reset_0 rfl ?_
  refine jx_get C fl_5_9_4 dX5_reset_1 (by omega) (gg_laneL hk h3) rfl ?_
  refine jx_iload_n C dX5_reset_4 rfl ?_
  refine jx_iconst (v := 0) C dX5_reset_5 (by decide) ?_
  refine jx_zastI (i) C dX5_reset_6 (by omega) (fun _ => (gg_larrL hk h3)) rfl hi (by decide) rfl ?_
  exact jx_vret C dX5_reset_7 ⟨rfl, rfl, rfl, rfl⟩
set_option maxRecDepth 100000 in
set_option maxHeartbeats 4000000 in
theorem c_5_tells {l : Launch} {D : va_G} {K : Nat → ClassId} {A : Nat → Nat} {I : TI} {U : TU} {P : TP} {k : Nat} {i : Nat} (hi : i < 24) (hz : I (5 + 2 * k) i = 0 ∨ I (5 + 2 * k) i = 1) (hk : k < 20) (h3 : k % 5 = 3) : MM l yX5_tells cX5_tells 2 (some .int) 0 D K A (I) (U) (P) [.ref (A (4 + 2 * k)), .int (nI i)] (XE (some (.int (I (5 + 2 * k) i))) I U P) := by
  refine MM.go (own := RX5) (lv0 := [some (.ref (A (4 + 2 * k))), some (.int (nI i))]) rfl (by decide) rfl (Nat.le_of_ble_eq_true rfl) rfl ?_
  intro p e s m args below meth c C
  refine jx_aload_n C dX5_tells_0 rfl ?_
  refine jx_get C fl_5_9_4 dX5_tells_1 (by omega) (gg_laneL hk h3) rfl ?_
  refine jx_iload_n C dX5_tells_4 rfl ?_
  refine jx_zald (i) C dX5_tells_5 (by omega) (gg_larrL hk h3) rfl hi (by decide) ?_
  refine jx_if_eq (tgt := 13) C dX5_tells_6 (by decide) (fun c6 => ?_) (fun c6 => ?_)
  · refine jx_iconst (v := 0) C dX5_tells_13 (by decide) ?_
    exact jx_iret C dX5_tells_14 ⟨by rcases hz with h | h <;> simp [h] at c6 ⊢, rfl, rfl, rfl⟩
  · refine jx_iconst (v := 1) C dX5_tells_9 (by decide) ?_
    refine jx_goto (tgt := 14) C dX5_tells_10 (by decide) ?_
    exact jx_iret C dX5_tells_14 ⟨by rcases hz with h | h <;> simp [h] at c6 ⊢, rfl, rfl, rfl⟩
set_option maxRecDepth 100000 in
set_option maxHeartbeats 4000000 in
theorem c_5_lay {l : Launch} {D : va_G} {K : Nat → ClassId} {A : Nat → Nat} {I : TI} {U : TU} {P : TP} {k : Nat} {v : Int32} {i : Nat} (hi : i < 24) (hk : k < 20) (h3 : k % 5 = 3) : MM l yX5_lay cX5_lay 3 none 1 D K A (I) (U) (P) [.ref (A (4 + 2 * k)), .int (nI i), .int v] (XE none (up2 I (5 + 2 * k) i (v &&& 1)) U P) := by
  refine MM.go (own := RX5) (lv0 := [some (.ref (A (4 + 2 * k))), some (.int (nI i)), some (.int v)]) rfl (by decide) rfl (Nat.le_of_ble_eq_true rfl) rfl ?_
  intro p e s m args below meth c C
  refine jx_aload_n C dX5_lay_0 rfl ?_
  refine jx_get C fl_5_9_4 dX5_lay_1 (by omega) (gg_laneL hk h3) rfl ?_
  refine jx_iload_n C dX5_lay_4 rfl ?_
  refine jx_iload_n C dX5_lay_5 rfl ?_
  refine jx_one C (jr_S C (c_5_isOdd) sw_5_15 rfl ⟨Nat.le_of_ble_eq_true rfl, Nat.le_of_ble_eq_true rfl⟩ ⟨Nat.le_of_ble_eq_true rfl, Nat.le_of_ble_eq_true rfl⟩ dX5_lay_6 rfl (Nat.le_of_ble_eq_true rfl)) ?_
  refine jx_zastI (i) C dX5_lay_9 (by omega) (fun _ => (gg_larrL hk h3)) rfl hi (by decide) (z_nar (bit1 v)) ?_
  exact jx_vret C dX5_lay_10 ⟨rfl, rfl, rfl, rfl⟩
set_option maxRecDepth 100000 in
set_option maxHeartbeats 4000000 in
theorem c_5_turn {l : Launch} {D : va_G} {K : Nat → ClassId} {A : Nat → Nat} {I : TI} {U : TU} {P : TP} {k : Nat} {i : Nat} (hi : i < 24) (hz : I (5 + 2 * k) i = 0 ∨ I (5 + 2 * k) i = 1) (hk : k < 20) (h3 : k % 5 = 3) : MM l yX5_turn cX5_turn 2 none 0 D K A (I) (U) (P) [.ref (A (4 + 2 * k)), .int (nI i)] (XE none (up2 I (5 + 2 * k) i (I (5 + 2 * k) i ^^^ (1 &&& 1))) U P) := by
  refine MM.go (own := RX5) (lv0 := [some (.ref (A (4 + 2 * k))), some (.int (nI i))]) rfl (by decide) rfl (Nat.le_of_ble_eq_true rfl) rfl ?_
  intro p e s m args below meth c C
  refine jx_aload_n C dX5_turn_0 rfl ?_
  refine jx_get C fl_5_9_4 dX5_turn_1 (by omega) (gg_laneL hk h3) rfl ?_
  refine jx_iload_n C dX5_turn_4 rfl ?_
  refine jx_aload_n C dX5_turn_5 rfl ?_
  refine jx_get C fl_5_9_4 dX5_turn_6 (by omega) (gg_laneL hk h3) rfl ?_
  refine jx_iload_n C dX5_turn_9 rfl ?_
  refine jx_zald (i) C dX5_turn_10 (by omega) (gg_larrL hk h3) rfl hi (by decide) ?_
  refine jx_if_ne (tgt := 18) C dX5_turn_11 (by decide) (fun c11 => ?_) (fun c11 => ?_)
  · refine jx_iconst (v := 0) C dX5_turn_18 (by decide) ?_
    refine jx_zastI (i) C dX5_turn_19 (by omega) (fun _ => (gg_larrL hk h3)) rfl hi (by decide) rfl ?_
    exact jx_vret C dX5_turn_20 ⟨rfl, by rw [← x_turn hz]; simp [bI, c11], rfl, rfl⟩
  · refine jx_iconst (v := 1) C dX5_turn_14 (by decide) ?_
    refine jx_goto (tgt := 19) C dX5_turn_15 (by decide) ?_
    refine jx_zastI (i) C dX5_turn_19 (by omega) (fun _ => (gg_larrL hk h3)) rfl hi (by decide) rfl ?_
    exact jx_vret C dX5_turn_20 ⟨rfl, by rw [← x_turn hz]; simp [bI, c11], rfl, rfl⟩
theorem up2_id {α : Type} {I : Nat → Nat → α} (i j : Nat) : up2 I i j (I i j) = I := by
  funext a b
  by_cases h : a = i ∧ b = j
  · rw [h.1, h.2, up2_same]
  · rw [up2_ne h]
set_option maxRecDepth 100000 in
set_option maxHeartbeats 4000000 in
theorem c_5_pull {l : Launch} {D : va_G} {K : Nat → ClassId} {A : Nat → Nat} {I : TI} {U : TU} {P : TP} {k : Nat} {v : Int32} {i : Nat} (hi : i < 24) (hz : I (5 + 2 * k) i = 0 ∨ I (5 + 2 * k) i = 1) (hk : k < 20) (h3 : k % 5 = 3) : MM l yX5_pull cX5_pull 3 none 1 D K A (I) (U) (P) [.ref (A (4 + 2 * k)), .int (nI i), .int v] (XE none (up2 I (5 + 2 * k) i (I (5 + 2 * k) i ^^^ (v &&& 1))) U P) := by
  refine MM.go (own := RX5) (lv0 := [some (.ref (A (4 + 2 * k))), some (.int (nI i)), some (.int v)]) rfl (by decide) rfl (Nat.le_of_ble_eq_true rfl) rfl ?_
  intro p e s m args below meth c C
  refine jx_iload_n C dX5_pull_0 rfl ?_
  rcases bit1 v with hb | hb
  · skip
    refine jx_one C (jr_S C (c_5_isOdd) sw_5_15 rfl ⟨Nat.le_of_ble_eq_true rfl, Nat.le_of_ble_eq_true rfl⟩ ⟨Nat.le_of_ble_eq_true rfl, Nat.le_of_ble_eq_true rfl⟩ dX5_pull_1 rfl (Nat.le_of_ble_eq_true rfl)) ?_
    rw [hb]
    refine jx_if_eqT (tgt := 12) C dX5_pull_4 (by decide) (by decide) ?_
    exact jx_vret C dX5_pull_12 ⟨rfl, by rw [show I (5 + 2 * k) i ^^^ 0 = I (5 + 2 * k) i by simp]; exact (up2_id _ _).symm, rfl, rfl⟩
  · skip
    refine jx_one C (jr_S C (c_5_isOdd) sw_5_15 rfl ⟨Nat.le_of_ble_eq_true rfl, Nat.le_of_ble_eq_true rfl⟩ ⟨Nat.le_of_ble_eq_true rfl, Nat.le_of_ble_eq_true rfl⟩ dX5_pull_1 rfl (Nat.le_of_ble_eq_true rfl)) ?_
    rw [hb]
    refine jx_if_eqF (tgt := 12) C dX5_pull_4 (by decide) (by decide) ?_
    refine jx_aload_n C dX5_pull_7 rfl ?_
    refine jx_iload_n C dX5_pull_8 rfl ?_
    refine jx_void C (jr_V C (c_5_turn hi hz hk h3) vw_5_19 (by omega) (gg_laneL hk h3) rfl rfl ⟨Nat.le_of_ble_eq_true rfl, Nat.le_of_ble_eq_true rfl⟩ ⟨Nat.le_of_ble_eq_true rfl, Nat.le_of_ble_eq_true rfl⟩ dX5_pull_9 rfl (Nat.le_of_ble_eq_true rfl)) ?_
    exact jx_vret C dX5_pull_12 ⟨rfl, rfl, rfl, rfl⟩
theorem x_part {x v : Int32} (h : x = 0 ∨ x = 1) : x &&& v &&& 1 = x &&& (v &&& 1) := Int32.and_assoc ..
set_option maxRecDepth 100000 in
set_option maxHeartbeats 4000000 in
theorem c_5_part {l : Launch} {D : va_G} {K : Nat → ClassId} {A : Nat → Nat} {I : TI} {U : TU} {P : TP} {k : Nat} {v : Int32} {i : Nat} (hi : i < 24) (hz : I (5 + 2 * k) i = 0 ∨ I (5 + 2 * k) i = 1) (hk : k < 20) (h3 : k % 5 = 3) : MM l yX5_part cX5_part 3 (some .boolean) 1 D K A (I) (U) (P) [.ref (A (4 + 2 * k)), .int (nI i), .int v] (XE (some (.int 1)) (up2 I (5 + 2 * k) i (I (5 + 2 * k) i &&& v &&& 1)) U P) := by
  refine MM.go (own := RX5) (lv0 := [some (.ref (A (4 + 2 * k))), some (.int (nI i)), some (.int v)]) rfl (by decide) rfl (Nat.le_of_ble_eq_true rfl) rfl ?_
  intro p e s m args below meth c C
  refine jx_iload_n C dX5_part_0 rfl ?_
  rcases bit1 v with hb | hb
  · skip
    refine jx_one C (jr_S C (c_5_isOdd) sw_5_15 rfl ⟨Nat.le_of_ble_eq_true rfl, Nat.le_of_ble_eq_true rfl⟩ ⟨Nat.le_of_ble_eq_true rfl, Nat.le_of_ble_eq_true rfl⟩ dX5_part_1 rfl (Nat.le_of_ble_eq_true rfl)) ?_
    rw [hb]
    refine jx_if_neF (tgt := 14) C dX5_part_4 (by decide) (by decide) ?_
    refine jx_aload_n C dX5_part_7 rfl ?_
    refine jx_get C fl_5_9_4 dX5_part_8 (by omega) (gg_laneL hk h3) rfl ?_
    refine jx_iload_n C dX5_part_11 rfl ?_
    refine jx_iconst (v := 0) C dX5_part_12 (by decide) ?_
    refine jx_zastI (i) C dX5_part_13 (by omega) (fun _ => (gg_larrL hk h3)) rfl hi (by decide) rfl ?_
    refine jx_iconst (v := 1) C dX5_part_14 (by decide) ?_
    exact jx_zret C dX5_part_15 rfl ⟨rfl, by rw [x_part hz, hb, show I (5 + 2 * k) i &&& 0 = 0 by simp], rfl, rfl⟩
  · skip
    refine jx_one C (jr_S C (c_5_isOdd) sw_5_15 rfl ⟨Nat.le_of_ble_eq_true rfl, Nat.le_of_ble_eq_true rfl⟩ ⟨Nat.le_of_ble_eq_true rfl, Nat.le_of_ble_eq_true rfl⟩ dX5_part_1 rfl (Nat.le_of_ble_eq_true rfl)) ?_
    rw [hb]
    refine jx_if_neT (tgt := 14) C dX5_part_4 (by decide) (by decide) ?_
    refine jx_iconst (v := 1) C dX5_part_14 (by decide) ?_
    exact jx_zret C dX5_part_15 rfl ⟨rfl, by rw [x_part hz, hb, show I (5 + 2 * k) i &&& 1 = I (5 + 2 * k) i by rcases hz with h | h <;> rw [h] <;> rfl, up2_id], rfl, rfl⟩
set_option maxRecDepth 100000 in
set_option maxHeartbeats 4000000 in
theorem c_5_exchange {l : Launch} {D : va_G} {K : Nat → ClassId} {A : Nat → Nat} {I : TI} {U : TU} {P : TP} {k : Nat} {i j : Nat} (hi : i < 24) (hj : j < 24) (hz : I (5 + 2 * k) i = 0 ∨ I (5 + 2 * k) i = 1) (hz2 : I (5 + 2 * k) j = 0 ∨ I (5 + 2 * k) j = 1) (hk : k < 20) (h3 : k % 5 = 3) : MM l yX5_exchange cX5_exchange 4 none 0 D K A (I) (U) (P) [.ref (A (4 + 2 * k)), .int (nI i), .int (nI j)] (XE none (up2 (up2 I (5 + 2 * k) i (I (5 + 2 * k) j)) (5 + 2 * k) j (I (5 + 2 * k) i)) U P) := by
  refine MM.go (own := RX5) (lv0 := [some (.ref (A (4 + 2 * k))), some (.int (nI i)), some (.int (nI j)), none]) rfl (by decide) rfl (Nat.le_of_ble_eq_true rfl) rfl ?_
  intro p e s m args below meth c C
  refine jx_aload_n C dX5_exchange_0 rfl ?_
  refine jx_get C fl_5_9_4 dX5_exchange_1 (by omega) (gg_laneL hk h3) rfl ?_
  refine jx_iload_n C dX5_exchange_4 rfl ?_
  refine jx_zald (i) C dX5_exchange_5 (by omega) (gg_larrL hk h3) rfl hi (by decide) ?_
  refine jx_istore_n (lv1 := [_, _, _, _]) C dX5_exchange_6 (by decide) rfl ?_
  refine jx_aload_n C dX5_exchange_7 rfl ?_
  refine jx_get C fl_5_9_4 dX5_exchange_8 (by omega) (gg_laneL hk h3) rfl ?_
  refine jx_iload_n C dX5_exchange_11 rfl ?_
  refine jx_aload_n C dX5_exchange_12 rfl ?_
  refine jx_get C fl_5_9_4 dX5_exchange_13 (by omega) (gg_laneL hk h3) rfl ?_
  refine jx_iload_n C dX5_exchange_16 rfl ?_
  refine jx_zald (j) C dX5_exchange_17 (by omega) (gg_larrL hk h3) rfl hj (by decide) ?_
  refine jx_zastI (i) C dX5_exchange_18 (by omega) (fun _ => (gg_larrL hk h3)) rfl hi (by decide) (z_nar hz2) ?_
  refine jx_aload_n C dX5_exchange_19 rfl ?_
  refine jx_get C fl_5_9_4 dX5_exchange_20 (by omega) (gg_laneL hk h3) rfl ?_
  refine jx_iload_n C dX5_exchange_23 rfl ?_
  refine jx_iload_n C dX5_exchange_24 rfl ?_
  refine jx_zastI (j) C dX5_exchange_25 (by omega) (fun _ => (gg_larrL hk h3)) rfl hj (by decide) (z_nar hz) ?_
  exact jx_vret C dX5_exchange_26 ⟨rfl, rfl, rfl, rfl⟩
set_option maxRecDepth 100000 in
set_option maxHeartbeats 4000000 in
theorem c_7_hold {l : Launch} {D : va_G} {K : Nat → ClassId} {A : Nat → Nat} {I : TI} {U : TU} {P : TP} {x : UInt32} : MM l yX7_hold cX7_hold 1 (some .float) 0 D K A (I) (U) (P) [.float x] (XE (some (.float (fHo x))) I U P) := by
  refine MM.go (own := RX7) (lv0 := [some (.float x)]) rfl (by decide) rfl (Nat.le_of_ble_eq_true rfl) rfl ?_
  intro p e s m args below meth c C
  refine jx_fload_n C dX7_hold_0 rfl ?_
  refine jx_ldcf C dX7_hold_1 qw_360 ?_
  refine jx_fcmp C dX7_hold_3 ?_
  refine jx_if_ge (tgt := 10) C dX7_hold_4 (by decide) (fun c4 => ?_) (fun c4 => ?_)
  · refine jx_fload_n C dX7_hold_10 rfl ?_
    refine jx_ldcf C dX7_hold_11 qw_361 ?_
    refine jx_fcmp C dX7_hold_13 ?_
    refine jx_if_le (tgt := 22) C dX7_hold_14 (by decide) (fun c14 => ?_) (fun c14 => ?_)
    · refine jx_fload_n C dX7_hold_22 rfl ?_
      exact jx_fret C dX7_hold_23 ⟨by rw [cv_g] at c4; rw [cv_l] at c14; rw [fHo, if_neg c4, if_neg c14], rfl, rfl, rfl⟩
    · refine jx_ldcf C dX7_hold_17 qw_361 ?_
      refine jx_goto (tgt := 23) C dX7_hold_19 (by decide) ?_
      exact jx_fret C dX7_hold_23 ⟨by rw [cv_g] at c4; rw [cv_l] at c14; rw [fHo, if_neg c4, if_pos (Classical.not_not.mp c14)], rfl, rfl, rfl⟩
  · refine jx_ldcf C dX7_hold_7 qw_360 ?_
    exact jx_fret C dX7_hold_9 ⟨by rw [cv_g] at c4; rw [fHo, if_pos (Classical.not_not.mp c4)], rfl, rfl, rfl⟩
set_option maxRecDepth 100000 in
set_option maxHeartbeats 4000000 in
theorem c_7_eighths {l : Launch} {D : va_G} {K : Nat → ClassId} {A : Nat → Nat} {I : TI} {U : TU} {P : TP} {v : Int32} : MM l yX7_eighths cX7_eighths 1 (some .float) 0 D K A (I) (U) (P) [.int v] (XE (some (.float (f8 v))) I U P) := by
  refine MM.go (own := RX7) (lv0 := [some (.int v)]) rfl (by decide) rfl (Nat.le_of_ble_eq_true rfl) rfl ?_
  intro p e s m args below meth c C
  refine jx_iload_n C dX7_eighths_0 rfl ?_
  refine jx_i2f C dX7_eighths_1 ?_
  refine jx_ldcf C dX7_eighths_2 qw_356 ?_
  refine jx_fdiv C dX7_eighths_4 (nn_8 v) ?_
  exact jx_fret C dX7_eighths_5 ⟨rfl, rfl, rfl, rfl⟩
set_option maxRecDepth 100000 in
set_option maxHeartbeats 4000000 in
theorem c_7_reset {l : Launch} {D : va_G} {K : Nat → ClassId} {A : Nat → Nat} {I : TI} {U : TU} {P : TP} {k : Nat} {i : Nat} (hi : i < 24) (hk : k < 20) (h2 : k % 5 = 2) : MM l yX7_reset cX7_reset 2 none 0 D K A (I) (U) (P) [.ref (A (4 + 2 * k)), .int (nI i)] (XE none I (up2 U (5 + 2 * k) i FP.fconst0) P) := by
  refine MM.go (own := RX7) (lv0 := [some (.ref (A (4 + 2 * k))), some (.int (nI i))]) rfl (by decide) rfl (Nat.le_of_ble_eq_true rfl) rfl ?_
  intro p e s m args below meth c C
  refine jx_aload_n C dX7_reset_0 rfl ?_
  refine jx_get C fl_7_9_6 dX7_reset_1 (by omega) (gg_laneT hk h2) rfl ?_
  refine jx_iload_n C dX7_reset_4 rfl ?_
  refine jx_fconst0 C dX7_reset_5 ?_
  refine jx_fastU (i) C dX7_reset_6 (by omega) (fun _ => (gg_larrT hk h2)) rfl hi (by decide) ?_
  exact jx_vret C dX7_reset_7 ⟨rfl, rfl, rfl, rfl⟩
set_option maxRecDepth 100000 in
set_option maxHeartbeats 4000000 in
theorem c_7_tells {l : Launch} {D : va_G} {K : Nat → ClassId} {A : Nat → Nat} {I : TI} {U : TU} {P : TP} {k : Nat} {i : Nat} (hi : i < 24) (hh : hd32 (U (5 + 2 * k) i)) (hk : k < 20) (h2 : k % 5 = 2) : MM l yX7_tells cX7_tells 2 (some .int) 0 D K A (I) (U) (P) [.ref (A (4 + 2 * k)), .int (nI i)] (XE (some (.int (FP.f2i (FP.fmul (U (5 + 2 * k) i) 1090519040)))) I U P) := by
  refine MM.go (own := RX7) (lv0 := [some (.ref (A (4 + 2 * k))), some (.int (nI i))]) rfl (by decide) rfl (Nat.le_of_ble_eq_true rfl) rfl ?_
  intro p e s m args below meth c C
  refine jx_aload_n C dX7_tells_0 rfl ?_
  refine jx_get C fl_7_9_6 dX7_tells_1 (by omega) (gg_laneT hk h2) rfl ?_
  refine jx_iload_n C dX7_tells_4 rfl ?_
  refine jx_fald (i) C dX7_tells_5 (by omega) (gg_larrT hk h2) rfl hi (by decide) ?_
  refine jx_ldcf C dX7_tells_6 qw_356 ?_
  refine jx_fmul C dX7_tells_8 (nn_tell hh) ?_
  refine jx_f2i C dX7_tells_9 ?_
  exact jx_iret C dX7_tells_10 ⟨rfl, rfl, rfl, rfl⟩
set_option maxRecDepth 100000 in
set_option maxHeartbeats 4000000 in
theorem c_7_lay {l : Launch} {D : va_G} {K : Nat → ClassId} {A : Nat → Nat} {I : TI} {U : TU} {P : TP} {k : Nat} {v : Int32} {i : Nat} (hi : i < 24) (hk : k < 20) (h2 : k % 5 = 2) : MM l yX7_lay cX7_lay 3 none 1 D K A (I) (U) (P) [.ref (A (4 + 2 * k)), .int (nI i), .int v] (XE none I (up2 U (5 + 2 * k) i (fHo (f8 v))) P) := by
  refine MM.go (own := RX7) (lv0 := [some (.ref (A (4 + 2 * k))), some (.int (nI i)), some (.int v)]) rfl (by decide) rfl (Nat.le_of_ble_eq_true rfl) rfl ?_
  intro p e s m args below meth c C
  refine jx_aload_n C dX7_lay_0 rfl ?_
  refine jx_get C fl_7_9_6 dX7_lay_1 (by omega) (gg_laneT hk h2) rfl ?_
  refine jx_iload_n C dX7_lay_4 rfl ?_
  refine jx_iload_n C dX7_lay_5 rfl ?_
  refine jx_one C (jr_S C (c_7_eighths) sw_7_18 rfl ⟨Nat.le_of_ble_eq_true rfl, Nat.le_of_ble_eq_true rfl⟩ ⟨Nat.le_of_ble_eq_true rfl, Nat.le_of_ble_eq_true rfl⟩ dX7_lay_6 rfl (Nat.le_of_ble_eq_true rfl)) ?_
  refine jx_one C (jr_S C (c_7_hold) sw_7_22 rfl ⟨Nat.le_of_ble_eq_true rfl, Nat.le_of_ble_eq_true rfl⟩ ⟨Nat.le_of_ble_eq_true rfl, Nat.le_of_ble_eq_true rfl⟩ dX7_lay_9 rfl (Nat.le_of_ble_eq_true rfl)) ?_
  refine jx_fastU (i) C dX7_lay_12 (by omega) (fun _ => (gg_larrT hk h2)) rfl hi (by decide) ?_
  exact jx_vret C dX7_lay_13 ⟨rfl, rfl, rfl, rfl⟩
set_option maxRecDepth 100000 in
set_option maxHeartbeats 4000000 in
theorem c_7_pull {l : Launch} {D : va_G} {K : Nat → ClassId} {A : Nat → Nat} {I : TI} {U : TU} {P : TP} {k : Nat} {v : Int32} {i : Nat} (hi : i < 24) (hh : hd32 (U (5 + 2 * k) i)) (hk : k < 20) (h2 : k % 5 = 2) : MM l yX7_pull cX7_pull 3 none 1 D K A (I) (U) (P) [.ref (A (4 + 2 * k)), .int (nI i), .int v] (XE none I (up2 U (5 + 2 * k) i (fHo (FP.fadd (U (5 + 2 * k) i) (f8 v)))) P) := by
  refine MM.go (own := RX7) (lv0 := [some (.ref (A (4 + 2 * k))), some (.int (nI i)), some (.int v)]) rfl (by decide) rfl (Nat.le_of_ble_eq_true rfl) rfl ?_
  intro p e s m args below meth c C
  refine jx_aload_n C dX7_pull_0 rfl ?_
  refine jx_get C fl_7_9_6 dX7_pull_1 (by omega) (gg_laneT hk h2) rfl ?_
  refine jx_iload_n C dX7_pull_4 rfl ?_
  refine jx_aload_n C dX7_pull_5 rfl ?_
  refine jx_get C fl_7_9_6 dX7_pull_6 (by omega) (gg_laneT hk h2) rfl ?_
  refine jx_iload_n C dX7_pull_9 rfl ?_
  refine jx_fald (i) C dX7_pull_10 (by omega) (gg_larrT hk h2) rfl hi (by decide) ?_
  refine jx_iload_n C dX7_pull_11 rfl ?_
  refine jx_one C (jr_S C (c_7_eighths) sw_7_18 rfl ⟨Nat.le_of_ble_eq_true rfl, Nat.le_of_ble_eq_true rfl⟩ ⟨Nat.le_of_ble_eq_true rfl, Nat.le_of_ble_eq_true rfl⟩ dX7_pull_12 rfl (Nat.le_of_ble_eq_true rfl)) ?_
  refine jx_fadd C dX7_pull_15 (nn_add hh (f8_nan v)) ?_
  refine jx_one C (jr_S C (c_7_hold) sw_7_22 rfl ⟨Nat.le_of_ble_eq_true rfl, Nat.le_of_ble_eq_true rfl⟩ ⟨Nat.le_of_ble_eq_true rfl, Nat.le_of_ble_eq_true rfl⟩ dX7_pull_16 rfl (Nat.le_of_ble_eq_true rfl)) ?_
  refine jx_fastU (i) C dX7_pull_19 (by omega) (fun _ => (gg_larrT hk h2)) rfl hi (by decide) ?_
  exact jx_vret C dX7_pull_20 ⟨rfl, rfl, rfl, rfl⟩
set_option maxRecDepth 100000 in
set_option maxHeartbeats 4000000 in
theorem c_7_turn {l : Launch} {D : va_G} {K : Nat → ClassId} {A : Nat → Nat} {I : TI} {U : TU} {P : TP} {k : Nat} {i : Nat} (hi : i < 24) (hh : hd32 (U (5 + 2 * k) i)) (hk : k < 20) (h2 : k % 5 = 2) : MM l yX7_turn cX7_turn 2 none 1 D K A (I) (U) (P) [.ref (A (4 + 2 * k)), .int (nI i)] (XE none I (up2 U (5 + 2 * k) i (fHo (FP.fadd (U (5 + 2 * k) i) (f8 8)))) P) := by
  rw [f8_8]
  refine MM.go (own := RX7) (lv0 := [some (.ref (A (4 + 2 * k))), some (.int (nI i))]) rfl (by decide) rfl (Nat.le_of_ble_eq_true rfl) rfl ?_
  intro p e s m args below meth c C
  refine jx_aload_n C dX7_turn_0 rfl ?_
  refine jx_get C fl_7_9_6 dX7_turn_1 (by omega) (gg_laneT hk h2) rfl ?_
  refine jx_iload_n C dX7_turn_4 rfl ?_
  refine jx_aload_n C dX7_turn_5 rfl ?_
  refine jx_get C fl_7_9_6 dX7_turn_6 (by omega) (gg_laneT hk h2) rfl ?_
  refine jx_iload_n C dX7_turn_9 rfl ?_
  refine jx_fald (i) C dX7_turn_10 (by omega) (gg_larrT hk h2) rfl hi (by decide) ?_
  refine jx_fconst1 C dX7_turn_11 ?_
  refine jx_fadd C dX7_turn_12 (nn_add hh fin_1.notNaN) ?_
  refine jx_one C (jr_S C (c_7_hold) sw_7_22 rfl ⟨Nat.le_of_ble_eq_true rfl, Nat.le_of_ble_eq_true rfl⟩ ⟨Nat.le_of_ble_eq_true rfl, Nat.le_of_ble_eq_true rfl⟩ dX7_turn_13 rfl (Nat.le_of_ble_eq_true rfl)) ?_
  refine jx_fastU (i) C dX7_turn_16 (by omega) (fun _ => (gg_larrT hk h2)) rfl hi (by decide) ?_
  exact jx_vret C dX7_turn_17 ⟨rfl, rfl, rfl, rfl⟩
set_option maxRecDepth 100000 in
set_option maxHeartbeats 4000000 in
theorem c_7_part {l : Launch} {D : va_G} {K : Nat → ClassId} {A : Nat → Nat} {I : TI} {U : TU} {P : TP} {k : Nat} {v : Int32} (hv : ¬ v = 0) {i : Nat} (hi : i < 24) (hh : hd32 (U (5 + 2 * k) i)) (hk : k < 20) (h2 : k % 5 = 2) : MM l yX7_part cX7_part 3 (some .boolean) 0 D K A (I) (U) (P) [.ref (A (4 + 2 * k)), .int (nI i), .int v] (XE (some (.int 1)) I (up2 U (5 + 2 * k) i (fHo (FP.fdiv (U (5 + 2 * k) i) (FP.i2f v)))) P) := by
  rw [ho_id (hd_div hh hv)]
  refine MM.go (own := RX7) (lv0 := [some (.ref (A (4 + 2 * k))), some (.int (nI i)), some (.int v)]) rfl (by decide) rfl (Nat.le_of_ble_eq_true rfl) rfl ?_
  intro p e s m args below meth c C
  refine jx_iload_n C dX7_part_0 rfl ?_
  refine jx_if_neT (tgt := 6) C dX7_part_1 (by decide) hv ?_
  refine jx_aload_n C dX7_part_6 rfl ?_
  refine jx_get C fl_7_9_6 dX7_part_7 (by omega) (gg_laneT hk h2) rfl ?_
  refine jx_iload_n C dX7_part_10 rfl ?_
  refine jx_aload_n C dX7_part_11 rfl ?_
  refine jx_get C fl_7_9_6 dX7_part_12 (by omega) (gg_laneT hk h2) rfl ?_
  refine jx_iload_n C dX7_part_15 rfl ?_
  refine jx_fald (i) C dX7_part_16 (by omega) (gg_larrT hk h2) rfl hi (by decide) ?_
  refine jx_iload_n C dX7_part_17 rfl ?_
  refine jx_i2f C dX7_part_18 ?_
  refine jx_fdiv C dX7_part_19 (nn_div hh hv) ?_
  refine jx_fastU (i) C dX7_part_20 (by omega) (fun _ => (gg_larrT hk h2)) rfl hi (by decide) ?_
  refine jx_iconst (v := 1) C dX7_part_21 (by decide) ?_
  exact jx_zret C dX7_part_22 rfl ⟨rfl, rfl, rfl, rfl⟩
set_option maxRecDepth 100000 in
set_option maxHeartbeats 4000000 in
theorem c_7_part0 {l : Launch} {D : va_G} {K : Nat → ClassId} {A : Nat → Nat} {I : TI} {U : TU} {P : TP} {k : Nat} {x : Int32} (hk : k < 20) (h2 : k % 5 = 2) : MM l yX7_part cX7_part 3 (some .boolean) 0 D K A (I) (U) (P) [.ref (A (4 + 2 * k)), .int x, .int 0] (XE (some (.int 0)) I U P) := by
  refine MM.go (own := RX7) (lv0 := [some (.ref (A (4 + 2 * k))), some (.int x), some (.int 0)]) rfl (by decide) rfl (Nat.le_of_ble_eq_true rfl) rfl ?_
  intro p e s m args below meth c C
  refine jx_iload_n C dX7_part_0 rfl ?_
  refine jx_if_neF (tgt := 6) C dX7_part_1 rfl (by decide) ?_
  refine jx_iconst (v := 0) C dX7_part_4 (by decide) ?_
  exact jx_zret C dX7_part_5 rfl ⟨rfl, rfl, rfl, rfl⟩
set_option maxRecDepth 100000 in
set_option maxHeartbeats 4000000 in
theorem c_7_exchange {l : Launch} {D : va_G} {K : Nat → ClassId} {A : Nat → Nat} {I : TI} {U : TU} {P : TP} {k : Nat} {i j : Nat} (hi : i < 24) (hj : j < 24) (hk : k < 20) (h2 : k % 5 = 2) : MM l yX7_exchange cX7_exchange 4 none 0 D K A (I) (U) (P) [.ref (A (4 + 2 * k)), .int (nI i), .int (nI j)] (XE none I (up2 (up2 U (5 + 2 * k) i (U (5 + 2 * k) j)) (5 + 2 * k) j (U (5 + 2 * k) i)) P) := by
  refine MM.go (own := RX7) (lv0 := [some (.ref (A (4 + 2 * k))), some (.int (nI i)), some (.int (nI j)), none]) rfl (by decide) rfl (Nat.le_of_ble_eq_true rfl) rfl ?_
  intro p e s m args below meth c C
  refine jx_aload_n C dX7_exchange_0 rfl ?_
  refine jx_get C fl_7_9_6 dX7_exchange_1 (by omega) (gg_laneT hk h2) rfl ?_
  refine jx_iload_n C dX7_exchange_4 rfl ?_
  refine jx_fald (i) C dX7_exchange_5 (by omega) (gg_larrT hk h2) rfl hi (by decide) ?_
  refine jx_fstore_n (lv1 := [_, _, _, _]) C dX7_exchange_6 (by decide) rfl ?_
  refine jx_aload_n C dX7_exchange_7 rfl ?_
  refine jx_get C fl_7_9_6 dX7_exchange_8 (by omega) (gg_laneT hk h2) rfl ?_
  refine jx_iload_n C dX7_exchange_11 rfl ?_
  refine jx_aload_n C dX7_exchange_12 rfl ?_
  refine jx_get C fl_7_9_6 dX7_exchange_13 (by omega) (gg_laneT hk h2) rfl ?_
  refine jx_iload_n C dX7_exchange_16 rfl ?_
  refine jx_fald (j) C dX7_exchange_17 (by omega) (gg_larrT hk h2) rfl hj (by decide) ?_
  refine jx_fastU (i) C dX7_exchange_18 (by omega) (fun _ => (gg_larrT hk h2)) rfl hi (by decide) ?_
  refine jx_aload_n C dX7_exchange_19 rfl ?_
  refine jx_get C fl_7_9_6 dX7_exchange_20 (by omega) (gg_laneT hk h2) rfl ?_
  refine jx_iload_n C dX7_exchange_23 rfl ?_
  refine jx_fload_n C dX7_exchange_24 rfl ?_
  refine jx_fastU (j) C dX7_exchange_25 (by omega) (fun _ => (gg_larrT hk h2)) rfl hj (by decide) ?_
  exact jx_vret C dX7_exchange_26 ⟨rfl, rfl, rfl, rfl⟩
