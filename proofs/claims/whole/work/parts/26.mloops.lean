/-! the reference: weave() and run() -/
def mwcF (I : TI) (a u : Nat) : Nat :=
  if ¬ mlf I (5 * a + 3) (nI u) = 0 then mlf I (5 * a + 3) (nI u)
  else if I 68 (24 * rN I (5 * a + 3) + u) = 1 ∧ ¬ mlf I (5 * a + 0) (nI u) = 0 then mlf I (5 * a + 0) (nI u)
  else mlf I (5 * a + 1) (nI u)
def mwcI (I : TI) (a u r : Nat) (weft : Int32) : TI :=
  up2 (up2 I 68 (24 * rN I (5 * a + 1) + u) (cutTo 1 (I 68 (24 * rN I (5 * a + 1) + u) - 1))) 72 (24 * r + u) (if I 68 (24 * rN I (5 * a + 3) + u) = 1 then I 68 (24 * rN I (5 * a + 0) + u) else weft)
def mwv (a r : Nat) (weft : Int32) : Nat → Nat → TI → Nat × Nat × TI
  | 0, u, I => (u, 0, I)
  | f + 1, u, I => if mwcF I a u = 0 then mwv a r weft f (u + 1) (mwcI I a u r weft) else (u, mwcF I a u, I)
/-- lanes of different sorts have different rows -/
def okX (I : TI) : Prop := ∀ p q, p < 20 → q < 20 → ¬ p % 5 = q % 5 → I 66 p = -1 ∨ ¬ I 66 p = I 66 q
theorem mwcI_o {I : TI} {a u r : Nat} {weft : Int32} {x y : Nat} (h : ¬ (x = 68 ∨ x = 72)) : mwcI I a u r weft x y = I x y := by
  unfold mwcI
  rw [up2_ne (by omega), up2_ne (by omega)]
theorem mwcF_le {I : TI} {a u : Nat} : mwcF I a u ≤ 2 := by
  unfold mwcF
  split
  · exact mlf_le
  · split
    · exact mlf_le
    · exact mlf_le
theorem mlf_0 {I : TI} {pl : Nat} {x : Int32} (ok : okR I) (hpl : pl < 20) (h : mlf I pl x = 0) : ∃ r : Nat, r < 20 ∧ I 66 pl = nI r ∧ rN I pl = r := by
  rcases ok pl hpl with h1 | ⟨r, hr, h1⟩
  · rw [mlf, if_pos h1] at h; cases h
  · exact ⟨r, hr, h1, by unfold rN; rw [h1, nI_clamp (by omega)]⟩
set_option maxRecDepth 100000 in
set_option maxHeartbeats 4000000 in
theorem c_11_isUp {l : Launch} {D : va_G} {K : Nat → ClassId} {A : Nat → Nat} {I : TI} {U : TU} {P : TP} {a u r : Nat} (ha : a < 4) (hu : u < 24) (h : I 66 (5 * a + 3) = nI r) (hr : r < 20) : MM l yX11_isUp cX11_isUp 3 (some .boolean) 0 D K A (I) (U) (P) [.ref (A 65), .int (nI a), .int (nI u)] (XE (some (.int (bI (I 68 (24 * r + u) = 1)))) (I) (U) (P)) := by
  refine MM.go (own := RX11) (lv0 := [some (.ref (A 65)), some (.int (nI a)), some (.int (nI u))]) rfl (by decide) rfl (Nat.le_of_ble_eq_true rfl) rfl ?_
  intro p e s m args below meth c C
  refine jx_aload_n C dX11_isUp_0 rfl ?_
  refine jx_get C fl_11_16_10 dX11_isUp_1 (by decide) gg_65 rfl ?_
  refine jx_bipush (v := 24) C dX11_isUp_4 (by decide) ?_
  refine jx_aload_n C dX11_isUp_6 rfl ?_
  refine jx_get C fl_11_7_10 dX11_isUp_7 (by decide) gg_65 rfl ?_
  refine jx_iconst (v := 5) C dX11_isUp_10 (by decide) ?_
  refine jx_iload_n C dX11_isUp_11 rfl ?_
  refine jx_imul C dX11_isUp_12 ?_
  refine jx_iconst (v := 3) C dX11_isUp_13 (by decide) ?_
  refine jx_iadd C dX11_isUp_14 ?_
  refine jx_iald (5 * a + 3) C dX11_isUp_15 (by decide) gg_66 (pl5' a 3) (by omega) (by decide) ?_
  rw [h]
  refine jx_imul C dX11_isUp_16 ?_
  refine jx_iload_n C dX11_isUp_17 rfl ?_
  refine jx_iadd C dX11_isUp_18 ?_
  refine jx_iald (24 * r + u) C dX11_isUp_19 (by decide) gg_68 (ix24' r u) (by omega) (by decide) ?_
  refine jx_iconst (v := 1) C dX11_isUp_20 (by decide) ?_
  refine jx_ic_ne (tgt := 28) C dX11_isUp_21 (by decide) (fun c21 => ?_) (fun c21 => ?_)
  · refine jx_iconst (v := 0) C dX11_isUp_28 (by decide) ?_
    exact jx_zret C dX11_isUp_29 rfl ⟨by simp [bI, c21], rfl, rfl, rfl⟩
  · refine jx_iconst (v := 1) C dX11_isUp_24 (by decide) ?_
    refine jx_goto (tgt := 29) C dX11_isUp_25 (by decide) ?_
    exact jx_zret C dX11_isUp_29 rfl ⟨by simp [bI, c21], rfl, rfl, rfl⟩
set_option maxRecDepth 100000 in
set_option maxHeartbeats 4000000 in
theorem lp_11_weave {p : Program} {l : Launch} {e : Env} {s : State} {m : MethodId} {args : Array Value} {below : List Frame} {meth : Method} {c : Code} {D : va_G} {K : Nat → ClassId} {A : Nat → Nat} {U : TU} {P : TP} {post : TQ} {a j r w : Nat} {weft : Int32} (C : CX p s m args meth c RX11 cX11_weave 7 (some .int) D K (AX 75 A s.heap.size)) (ha : a < 4) (hj : j < 24) (hr24 : r < 24) (hw24 : w ≤ 24) : ∀ (f u : Nat) (I : TI), u + f = w → okR I → mokN I → okX I → I 71 j = nI r → I 65 8 = nI w → ((mwv a r weft f u I).2.1 = 0 → post (some (.int (nI w))) (mbg (up2 (mwv a r weft f u I).2.2 65 17 ((mwv a r weft f u I).2.2 65 17 + 1))) U P) → (¬ (mwv a r weft f u I).2.1 = 0 → post (some (.int (nI (mwv a r weft f u I).1))) (mtel (mwv a r weft f u I).2.2 (mwv a r weft f u I).2.1) U P) → ∀ z y : Option Value, GJ p l e (rmd 6) s m args below meth c 7 D (AX 75 A s.heap.size) (MQX below D K A args s post) 75 A (gg A K (I) (U) P) 0 0 32 [some (.ref (A 65)), some (.int (nI a)), some (.int (nI j)), some (.int weft), z, some (.int (nI (u))), y] [] := by
  intro f
  induction f with
  | zero =>
    intro u I hu ok hN hX hr hw h0 h1 z y
    obtain rfl : u = w := by omega
    refine jx_iload C dX11_weave_32 rfl ?_
    refine jx_aload_n C dX11_weave_34 rfl ?_
    refine jx_get C fl_11_111_10 dX11_weave_35 (by decide) gg_65 rfl ?_
    rw [hw]
    refine jx_ic_geT (tgt := 211) C dX11_weave_38 (by decide) (nI_le (Nat.le_refl _) (by omega)) ?_
    refine jx_aload_n C dX11_weave_211 rfl ?_
    refine jx_dup C dX11_weave_212 rfl ?_
    refine jx_get C fl_11_123_10 dX11_weave_213 (by decide) gg_65 rfl ?_
    refine jx_iconst (v := 1) C dX11_weave_216 (by decide) ?_
    refine jx_iadd C dX11_weave_217 ?_
    refine jx_putI C fp_11_123_10 dX11_weave_218 (by decide) gg_65 (Nat.le_of_ble_eq_true rfl) rfl ?_
    refine jx_aload_n C dX11_weave_221 rfl ?_
    refine jx_iload C dX11_weave_222 rfl ?_
    refine jx_one C (jr_V C (c_11_good) vw_11_58 (by decide) gg_65 rfl rfl ⟨Nat.le_of_ble_eq_true rfl, Nat.le_of_ble_eq_true rfl⟩ ⟨Nat.le_of_ble_eq_true rfl, Nat.le_of_ble_eq_true rfl⟩ dX11_weave_224 rfl (Nat.le_of_ble_eq_true rfl)) ?_
    exact jx_iret C dX11_weave_227 (h0 rfl)
  | succ f ih =>
    intro u I hu ok hN hX hr hw h0 h1 z y
    have hF := mwcF_le (I := I) (a := a) (u := u)
    by_cases w3 : mlf I (5 * a + 3) (nI u) = 0
    · obtain ⟨r3, hr3, e3, n3⟩ := mlf_0 ok (by omega) w3
      by_cases hx : I 68 (24 * r3 + u) = 1
      · by_cases w0 : mlf I (5 * a + 0) (nI u) = 0
        · by_cases w1 : mlf I (5 * a + 1) (nI u) = 0
          · obtain ⟨r1, hr1, e1, n1⟩ := mlf_0 ok (by omega) w1
            have d31 : ¬ r3 = r1 := fun q => (hX (5 * a + 3) (5 * a + 1) (by omega) (by omega) (by omega)).elim (fun z => nI_m1 (by omega) (e3.symm.trans z)) (fun z => z (by rw [e3, e1, q]))
            obtain ⟨r0, hr0, e0r, n0⟩ := mlf_0 ok (by omega) w0
            have d01 : ¬ r0 = r1 := fun q => (hX (5 * a + 0) (5 * a + 1) (by omega) (by omega) (by omega)).elim (fun z => nI_m1 (by omega) (e0r.symm.trans z)) (fun z => z (by rw [e0r, e1, q]))
            have eF : mwcF I a u = 0 := by rw [mwcF, n3, w3, w1, w0]; simp
            have e0 : mwv a r weft (f + 1) u I = mwv a r weft f (u + 1) (mwcI I a u r weft) := by rw [mwv, if_pos eF]
            rw [e0] at h0 h1
            have eI : mwcI I a u r weft = up2 (up2 I 68 (24 * r1 + u) (cutTo 1 (I 68 (24 * r1 + u) - 1))) 72 (24 * r + u) (I 68 (24 * r0 + u)) := by rw [mwcI, n1, n3, n0, if_pos hx]
            have hih := ih (u + 1) (mwcI I a u r weft) (by omega) (okR_same ok (fun y => mwcI_o (by decide))) (fun q hq => by rw [mwcI_o (by decide)]; exact hN q hq) (fun p q hp hq h => by rw [mwcI_o (by decide), mwcI_o (by decide)]; exact hX p q hp hq h) (by rw [mwcI_o (by decide)]; exact hr) (by rw [mwcI_o (by decide)]; exact hw) h0 h1
            rw [eI] at hih
            refine jx_iload C dX11_weave_32 rfl ?_
            refine jx_aload_n C dX11_weave_34 rfl ?_
            refine jx_get C fl_11_111_10 dX11_weave_35 (by decide) gg_65 rfl ?_
            rw [hw]
            refine jx_ic_geF (tgt := 211) C dX11_weave_38 (nI_ge (by omega) (by omega)) (by decide) ?_
            refine jx_aload_n C dX11_weave_41 rfl ?_
            refine jx_iconst (v := 5) C dX11_weave_42 (by decide) ?_
            refine jx_iload_n C dX11_weave_43 rfl ?_
            refine jx_imul C dX11_weave_44 ?_
            refine jx_iconst (v := 3) C dX11_weave_45 (by decide) ?_
            refine jx_iadd C dX11_weave_46 ?_
            refine jx_iload C dX11_weave_47 rfl ?_
            rw [show 5 * nI a + 3 = nI (5 * a + 3) from pl5' a 3]
            refine jx_one C (jr_V C (c_11_wrong (by omega) ok) vw_11_84 (by decide) gg_65 rfl rfl ⟨Nat.le_of_ble_eq_true rfl, Nat.le_of_ble_eq_true rfl⟩ ⟨Nat.le_of_ble_eq_true rfl, Nat.le_of_ble_eq_true rfl⟩ dX11_weave_49 rfl (Nat.le_of_ble_eq_true rfl)) ?_
            rw [w3]
            refine jx_istore (lv1 := [_, _, _, _, _, _, _]) C dX11_weave_52 (by decide) rfl ?_
            refine jx_iload C dX11_weave_54 rfl ?_
            refine jx_if_neF (tgt := 82) C dX11_weave_56 (by decide) (by decide) ?_
            refine jx_aload_n C dX11_weave_59 rfl ?_
            refine jx_iload_n C dX11_weave_60 rfl ?_
            refine jx_iload C dX11_weave_61 rfl ?_
            refine jx_one C (jr_V C (c_11_isUp ha (by omega) e3 hr3) vw_11_120 (by decide) gg_65 rfl rfl ⟨Nat.le_of_ble_eq_true rfl, Nat.le_of_ble_eq_true rfl⟩ ⟨Nat.le_of_ble_eq_true rfl, Nat.le_of_ble_eq_true rfl⟩ dX11_weave_63 rfl (Nat.le_of_ble_eq_true rfl)) ?_
            rw [bI_t hx]
            refine jx_if_eqF (tgt := 82) C dX11_weave_66 (by decide) (by decide) ?_
            refine jx_aload_n C dX11_weave_69 rfl ?_
            refine jx_iconst (v := 5) C dX11_weave_70 (by decide) ?_
            refine jx_iload_n C dX11_weave_71 rfl ?_
            refine jx_imul C dX11_weave_72 ?_
            refine jx_iconst (v := 0) C dX11_weave_73 (by decide) ?_
            refine jx_iadd C dX11_weave_74 ?_
            refine jx_iload C dX11_weave_75 rfl ?_
            rw [show 5 * nI a + 0 = nI (5 * a + 0) from pl5' a 0]
            refine jx_one C (jr_V C (c_11_wrong (by omega) ok) vw_11_84 (by decide) gg_65 rfl rfl ⟨Nat.le_of_ble_eq_true rfl, Nat.le_of_ble_eq_true rfl⟩ ⟨Nat.le_of_ble_eq_true rfl, Nat.le_of_ble_eq_true rfl⟩ dX11_weave_77 rfl (Nat.le_of_ble_eq_true rfl)) ?_
            rw [w0]
            refine jx_istore (lv1 := [_, _, _, _, _, _, _]) C dX11_weave_80 (by decide) rfl ?_
            refine jx_iload C dX11_weave_82 rfl ?_
            refine jx_if_neF (tgt := 100) C dX11_weave_84 (by decide) (by decide) ?_
            refine jx_aload_n C dX11_weave_87 rfl ?_
            refine jx_iconst (v := 5) C dX11_weave_88 (by decide) ?_
            refine jx_iload_n C dX11_weave_89 rfl ?_
            refine jx_imul C dX11_weave_90 ?_
            refine jx_iconst (v := 1) C dX11_weave_91 (by decide) ?_
            refine jx_iadd C dX11_weave_92 ?_
            refine jx_iload C dX11_weave_93 rfl ?_
            rw [show 5 * nI a + 1 = nI (5 * a + 1) from pl5' a 1]
            refine jx_one C (jr_V C (c_11_wrong (by omega) ok) vw_11_84 (by decide) gg_65 rfl rfl ⟨Nat.le_of_ble_eq_true rfl, Nat.le_of_ble_eq_true rfl⟩ ⟨Nat.le_of_ble_eq_true rfl, Nat.le_of_ble_eq_true rfl⟩ dX11_weave_95 rfl (Nat.le_of_ble_eq_true rfl)) ?_
            rw [w1]
            refine jx_istore (lv1 := [_, _, _, _, _, _, _]) C dX11_weave_98 (by decide) rfl ?_
            refine jx_iload C dX11_weave_100 rfl ?_
            refine jx_if_eqT (tgt := 115) C dX11_weave_102 (by decide) (by decide) ?_
            refine jx_bipush (v := 24) C dX11_weave_115 (by decide) ?_
            refine jx_aload_n C dX11_weave_117 rfl ?_
            refine jx_get C fl_11_7_10 dX11_weave_118 (by decide) gg_65 rfl ?_
            refine jx_iconst (v := 5) C dX11_weave_121 (by decide) ?_
            refine jx_iload_n C dX11_weave_122 rfl ?_
            refine jx_imul C dX11_weave_123 ?_
            refine jx_iconst (v := 1) C dX11_weave_124 (by decide) ?_
            refine jx_iadd C dX11_weave_125 ?_
            refine jx_iald (5 * a + 1) C dX11_weave_126 (by decide) gg_66 (pl5' a 1) (by omega) (by decide) ?_
            rw [e1]
            refine jx_imul C dX11_weave_127 ?_
            refine jx_iload C dX11_weave_128 rfl ?_
            refine jx_iadd C dX11_weave_130 ?_
            rw [ix24']
            refine jx_istore (lv1 := [_, _, _, _, _, _, _]) C dX11_weave_131 (by decide) rfl ?_
            refine jx_aload_n C dX11_weave_133 rfl ?_
            refine jx_get C fl_11_16_10 dX11_weave_134 (by decide) gg_65 rfl ?_
            refine jx_iload C dX11_weave_137 rfl ?_
            refine jx_iconst (v := 1) C dX11_weave_139 (by decide) ?_
            refine jx_aload_n C dX11_weave_140 rfl ?_
            refine jx_get C fl_11_16_10 dX11_weave_141 (by decide) gg_65 rfl ?_
            refine jx_iload C dX11_weave_144 rfl ?_
            refine jx_iald (24 * r1 + u) C dX11_weave_146 (by decide) gg_68 rfl (by omega) (by decide) ?_
            refine jx_iconst (v := 1) C dX11_weave_147 (by decide) ?_
            refine jx_isub C dX11_weave_148 ?_
            refine jx_one C (jr_S C (c_11_cutTo (b := 1) (by decide) (by decide)) sw_11_76 rfl ⟨Nat.le_of_ble_eq_true rfl, Nat.le_of_ble_eq_true rfl⟩ ⟨Nat.le_of_ble_eq_true rfl, Nat.le_of_ble_eq_true rfl⟩ dX11_weave_149 rfl (Nat.le_of_ble_eq_true rfl)) ?_
            refine jx_iastI (24 * r1 + u) C dX11_weave_152 (by decide) (fun _ => gg_68) rfl (by omega) (by decide) ?_
            refine jx_aload_n C dX11_weave_153 rfl ?_
            refine jx_get C fl_11_29_10 dX11_weave_154 (by decide) gg_65 rfl ?_
            refine jx_bipush (v := 24) C dX11_weave_157 (by decide) ?_
            refine jx_aload_n C dX11_weave_159 rfl ?_
            refine jx_get C fl_11_26_10 dX11_weave_160 (by decide) gg_65 rfl ?_
            refine jx_iload_n C dX11_weave_163 rfl ?_
            refine jx_iald (j) C dX11_weave_164 (by decide) gg_71 rfl hj (by decide) ?_
            rw [up2_ne (by omega), hr]
            refine jx_imul C dX11_weave_165 ?_
            refine jx_iload C dX11_weave_166 rfl ?_
            refine jx_iadd C dX11_weave_168 ?_
            rw [ix24']
            refine jx_aload_n C dX11_weave_169 rfl ?_
            refine jx_iload_n C dX11_weave_170 rfl ?_
            refine jx_iload C dX11_weave_171 rfl ?_
            refine jx_one C (jr_V C (c_11_isUp ha (by omega) (by rw [up2_ne (by omega)]; exact e3) hr3) vw_11_120 (by decide) gg_65 rfl rfl ⟨Nat.le_of_ble_eq_true rfl, Nat.le_of_ble_eq_true rfl⟩ ⟨Nat.le_of_ble_eq_true rfl, Nat.le_of_ble_eq_true rfl⟩ dX11_weave_173 rfl (Nat.le_of_ble_eq_true rfl)) ?_
            rw [up2_ne (by omega), bI_t hx]
            refine jx_if_eqF (tgt := 203) C dX11_weave_176 (by decide) (by decide) ?_
            refine jx_aload_n C dX11_weave_179 rfl ?_
            refine jx_get C fl_11_16_10 dX11_weave_180 (by decide) gg_65 rfl ?_
            refine jx_bipush (v := 24) C dX11_weave_183 (by decide) ?_
            refine jx_aload_n C dX11_weave_185 rfl ?_
            refine jx_get C fl_11_7_10 dX11_weave_186 (by decide) gg_65 rfl ?_
            refine jx_iconst (v := 5) C dX11_weave_189 (by decide) ?_
            refine jx_iload_n C dX11_weave_190 rfl ?_
            refine jx_imul C dX11_weave_191 ?_
            refine jx_iconst (v := 0) C dX11_weave_192 (by decide) ?_
            refine jx_iadd C dX11_weave_193 ?_
            refine jx_iald (5 * a + 0) C dX11_weave_194 (by decide) gg_66 (pl5' a 0) (by omega) (by decide) ?_
            rw [up2_ne (by omega), e0r]
            refine jx_imul C dX11_weave_195 ?_
            refine jx_iload C dX11_weave_196 rfl ?_
            refine jx_iadd C dX11_weave_198 ?_
            refine jx_iald (24 * r0 + u) C dX11_weave_199 (by decide) gg_68 (ix24' r0 u) (by omega) (by decide) ?_
            refine jx_goto (tgt := 204) C dX11_weave_200 (by decide) ?_
            rw [up2_ne (by omega)]
            refine jx_iastI (24 * r + u) C dX11_weave_204 (by decide) (fun _ => gg_72) rfl (by omega) (by decide) ?_
            refine jx_iinc (lv1 := [_, _, _, _, _, _, _]) C dX11_weave_205 rfl (nI_1 u) rfl ?_
            refine jx_goto (tgt := 32) C dX11_weave_208 (by decide) ?_
            exact hih _ _
          · have eF : mwcF I a u = mlf I (5 * a + 1) (nI u) := by rw [mwcF, n3, w3, w0]; simp
            have e0 : mwv a r weft (f + 1) u I = (u, mwcF I a u, I) := by rw [mwv, if_neg (by rw [eF]; exact w1)]
            have hq := h1 (by rw [e0]; show ¬ mwcF I a u = 0; rw [eF]; exact w1)
            rw [e0] at hq
            have hq : post (some (.int (nI u))) (mtel I (mwcF I a u)) U P := hq
            rw [eF] at hq
            refine jx_iload C dX11_weave_32 rfl ?_
            refine jx_aload_n C dX11_weave_34 rfl ?_
            refine jx_get C fl_11_111_10 dX11_weave_35 (by decide) gg_65 rfl ?_
            rw [hw]
            refine jx_ic_geF (tgt := 211) C dX11_weave_38 (nI_ge (by omega) (by omega)) (by decide) ?_
            refine jx_aload_n C dX11_weave_41 rfl ?_
            refine jx_iconst (v := 5) C dX11_weave_42 (by decide) ?_
            refine jx_iload_n C dX11_weave_43 rfl ?_
            refine jx_imul C dX11_weave_44 ?_
            refine jx_iconst (v := 3) C dX11_weave_45 (by decide) ?_
            refine jx_iadd C dX11_weave_46 ?_
            refine jx_iload C dX11_weave_47 rfl ?_
            rw [show 5 * nI a + 3 = nI (5 * a + 3) from pl5' a 3]
            refine jx_one C (jr_V C (c_11_wrong (by omega) ok) vw_11_84 (by decide) gg_65 rfl rfl ⟨Nat.le_of_ble_eq_true rfl, Nat.le_of_ble_eq_true rfl⟩ ⟨Nat.le_of_ble_eq_true rfl, Nat.le_of_ble_eq_true rfl⟩ dX11_weave_49 rfl (Nat.le_of_ble_eq_true rfl)) ?_
            rw [w3]
            refine jx_istore (lv1 := [_, _, _, _, _, _, _]) C dX11_weave_52 (by decide) rfl ?_
            refine jx_iload C dX11_weave_54 rfl ?_
            refine jx_if_neF (tgt := 82) C dX11_weave_56 (by decide) (by decide) ?_
            refine jx_aload_n C dX11_weave_59 rfl ?_
            refine jx_iload_n C dX11_weave_60 rfl ?_
            refine jx_iload C dX11_weave_61 rfl ?_
            refine jx_one C (jr_V C (c_11_isUp ha (by omega) e3 hr3) vw_11_120 (by decide) gg_65 rfl rfl ⟨Nat.le_of_ble_eq_true rfl, Nat.le_of_ble_eq_true rfl⟩ ⟨Nat.le_of_ble_eq_true rfl, Nat.le_of_ble_eq_true rfl⟩ dX11_weave_63 rfl (Nat.le_of_ble_eq_true rfl)) ?_
            rw [bI_t hx]
            refine jx_if_eqF (tgt := 82) C dX11_weave_66 (by decide) (by decide) ?_
            refine jx_aload_n C dX11_weave_69 rfl ?_
            refine jx_iconst (v := 5) C dX11_weave_70 (by decide) ?_
            refine jx_iload_n C dX11_weave_71 rfl ?_
            refine jx_imul C dX11_weave_72 ?_
            refine jx_iconst (v := 0) C dX11_weave_73 (by decide) ?_
            refine jx_iadd C dX11_weave_74 ?_
            refine jx_iload C dX11_weave_75 rfl ?_
            rw [show 5 * nI a + 0 = nI (5 * a + 0) from pl5' a 0]
            refine jx_one C (jr_V C (c_11_wrong (by omega) ok) vw_11_84 (by decide) gg_65 rfl rfl ⟨Nat.le_of_ble_eq_true rfl, Nat.le_of_ble_eq_true rfl⟩ ⟨Nat.le_of_ble_eq_true rfl, Nat.le_of_ble_eq_true rfl⟩ dX11_weave_77 rfl (Nat.le_of_ble_eq_true rfl)) ?_
            rw [w0]
            refine jx_istore (lv1 := [_, _, _, _, _, _, _]) C dX11_weave_80 (by decide) rfl ?_
            refine jx_iload C dX11_weave_82 rfl ?_
            refine jx_if_neF (tgt := 100) C dX11_weave_84 (by decide) (by decide) ?_
            refine jx_aload_n C dX11_weave_87 rfl ?_
            refine jx_iconst (v := 5) C dX11_weave_88 (by decide) ?_
            refine jx_iload_n C dX11_weave_89 rfl ?_
            refine jx_imul C dX11_weave_90 ?_
            refine jx_iconst (v := 1) C dX11_weave_91 (by decide) ?_
            refine jx_iadd C dX11_weave_92 ?_
            refine jx_iload C dX11_weave_93 rfl ?_
            rw [show 5 * nI a + 1 = nI (5 * a + 1) from pl5' a 1]
            refine jx_one C (jr_V C (c_11_wrong (by omega) ok) vw_11_84 (by decide) gg_65 rfl rfl ⟨Nat.le_of_ble_eq_true rfl, Nat.le_of_ble_eq_true rfl⟩ ⟨Nat.le_of_ble_eq_true rfl, Nat.le_of_ble_eq_true rfl⟩ dX11_weave_95 rfl (Nat.le_of_ble_eq_true rfl)) ?_
            refine jx_istore (lv1 := [_, _, _, _, _, _, _]) C dX11_weave_98 (by decide) rfl ?_
            refine jx_iload C dX11_weave_100 rfl ?_
            refine jx_if_eqF (tgt := 115) C dX11_weave_102 (fun q => w1 ((nI_eq0 (Nat.lt_of_le_of_lt mlf_le (by decide))).mp q)) (by decide) ?_
            refine jx_aload_n C dX11_weave_105 rfl ?_
            refine jx_iload C dX11_weave_106 rfl ?_
            refine jx_one C (jr_V C (c_11_bad (Nat.le_trans mlf_le (by decide))) vw_11_51 (by decide) gg_65 rfl rfl ⟨Nat.le_of_ble_eq_true rfl, Nat.le_of_ble_eq_true rfl⟩ ⟨Nat.le_of_ble_eq_true rfl, Nat.le_of_ble_eq_true rfl⟩ dX11_weave_108 rfl (Nat.le_of_ble_eq_true rfl)) ?_
            refine jx_pop C dX11_weave_111 rfl ?_
            refine jx_iload C dX11_weave_112 rfl ?_
            exact jx_iret C dX11_weave_114 hq
        · have eF : mwcF I a u = mlf I (5 * a + 0) (nI u) := by rw [mwcF, n3, w3]; simp only [hx, w0]; simp
          have e0 : mwv a r weft (f + 1) u I = (u, mwcF I a u, I) := by rw [mwv, if_neg (by rw [eF]; exact w0)]
          have hq := h1 (by rw [e0]; show ¬ mwcF I a u = 0; rw [eF]; exact w0)
          rw [e0] at hq
          have hq : post (some (.int (nI u))) (mtel I (mwcF I a u)) U P := hq
          rw [eF] at hq
          refine jx_iload C dX11_weave_32 rfl ?_
          refine jx_aload_n C dX11_weave_34 rfl ?_
          refine jx_get C fl_11_111_10 dX11_weave_35 (by decide) gg_65 rfl ?_
          rw [hw]
          refine jx_ic_geF (tgt := 211) C dX11_weave_38 (nI_ge (by omega) (by omega)) (by decide) ?_
          refine jx_aload_n C dX11_weave_41 rfl ?_
          refine jx_iconst (v := 5) C dX11_weave_42 (by decide) ?_
          refine jx_iload_n C dX11_weave_43 rfl ?_
          refine jx_imul C dX11_weave_44 ?_
          refine jx_iconst (v := 3) C dX11_weave_45 (by decide) ?_
          refine jx_iadd C dX11_weave_46 ?_
          refine jx_iload C dX11_weave_47 rfl ?_
          rw [show 5 * nI a + 3 = nI (5 * a + 3) from pl5' a 3]
          refine jx_one C (jr_V C (c_11_wrong (by omega) ok) vw_11_84 (by decide) gg_65 rfl rfl ⟨Nat.le_of_ble_eq_true rfl, Nat.le_of_ble_eq_true rfl⟩ ⟨Nat.le_of_ble_eq_true rfl, Nat.le_of_ble_eq_true rfl⟩ dX11_weave_49 rfl (Nat.le_of_ble_eq_true rfl)) ?_
          rw [w3]
          refine jx_istore (lv1 := [_, _, _, _, _, _, _]) C dX11_weave_52 (by decide) rfl ?_
          refine jx_iload C dX11_weave_54 rfl ?_
          refine jx_if_neF (tgt := 82) C dX11_weave_56 (by decide) (by decide) ?_
          refine jx_aload_n C dX11_weave_59 rfl ?_
          refine jx_iload_n C dX11_weave_60 rfl ?_
          refine jx_iload C dX11_weave_61 rfl ?_
          refine jx_one C (jr_V C (c_11_isUp ha (by omega) e3 hr3) vw_11_120 (by decide) gg_65 rfl rfl ⟨Nat.le_of_ble_eq_true rfl, Nat.le_of_ble_eq_true rfl⟩ ⟨Nat.le_of_ble_eq_true rfl, Nat.le_of_ble_eq_true rfl⟩ dX11_weave_63 rfl (Nat.le_of_ble_eq_true rfl)) ?_
          rw [bI_t hx]
          refine jx_if_eqF (tgt := 82) C dX11_weave_66 (by decide) (by decide) ?_
          refine jx_aload_n C dX11_weave_69 rfl ?_
          refine jx_iconst (v := 5) C dX11_weave_70 (by decide) ?_
          refine jx_iload_n C dX11_weave_71 rfl ?_
          refine jx_imul C dX11_weave_72 ?_
          refine jx_iconst (v := 0) C dX11_weave_73 (by decide) ?_
          refine jx_iadd C dX11_weave_74 ?_
          refine jx_iload C dX11_weave_75 rfl ?_
          rw [show 5 * nI a + 0 = nI (5 * a + 0) from pl5' a 0]
          refine jx_one C (jr_V C (c_11_wrong (by omega) ok) vw_11_84 (by decide) gg_65 rfl rfl ⟨Nat.le_of_ble_eq_true rfl, Nat.le_of_ble_eq_true rfl⟩ ⟨Nat.le_of_ble_eq_true rfl, Nat.le_of_ble_eq_true rfl⟩ dX11_weave_77 rfl (Nat.le_of_ble_eq_true rfl)) ?_
          refine jx_istore (lv1 := [_, _, _, _, _, _, _]) C dX11_weave_80 (by decide) rfl ?_
          refine jx_iload C dX11_weave_82 rfl ?_
          refine jx_if_neT (tgt := 100) C dX11_weave_84 (by decide) (fun q => w0 ((nI_eq0 (Nat.lt_of_le_of_lt mlf_le (by decide))).mp q)) ?_
          refine jx_iload C dX11_weave_100 rfl ?_
          refine jx_if_eqF (tgt := 115) C dX11_weave_102 (fun q => w0 ((nI_eq0 (Nat.lt_of_le_of_lt mlf_le (by decide))).mp q)) (by decide) ?_
          refine jx_aload_n C dX11_weave_105 rfl ?_
          refine jx_iload C dX11_weave_106 rfl ?_
          refine jx_one C (jr_V C (c_11_bad (Nat.le_trans mlf_le (by decide))) vw_11_51 (by decide) gg_65 rfl rfl ⟨Nat.le_of_ble_eq_true rfl, Nat.le_of_ble_eq_true rfl⟩ ⟨Nat.le_of_ble_eq_true rfl, Nat.le_of_ble_eq_true rfl⟩ dX11_weave_108 rfl (Nat.le_of_ble_eq_true rfl)) ?_
          refine jx_pop C dX11_weave_111 rfl ?_
          refine jx_iload C dX11_weave_112 rfl ?_
          exact jx_iret C dX11_weave_114 hq
      · by_cases w1 : mlf I (5 * a + 1) (nI u) = 0
        · obtain ⟨r1, hr1, e1, n1⟩ := mlf_0 ok (by omega) w1
          have d31 : ¬ r3 = r1 := fun q => (hX (5 * a + 3) (5 * a + 1) (by omega) (by omega) (by omega)).elim (fun z => nI_m1 (by omega) (e3.symm.trans z)) (fun z => z (by rw [e3, e1, q]))
          have eF : mwcF I a u = 0 := by rw [mwcF, n3, w3, w1]; simp [hx]
          have e0 : mwv a r weft (f + 1) u I = mwv a r weft f (u + 1) (mwcI I a u r weft) := by rw [mwv, if_pos eF]
          rw [e0] at h0 h1
          have eI : mwcI I a u r weft = up2 (up2 I 68 (24 * r1 + u) (cutTo 1 (I 68 (24 * r1 + u) - 1))) 72 (24 * r + u) (weft) := by rw [mwcI, n1, n3, if_neg hx]
          have hih := ih (u + 1) (mwcI I a u r weft) (by omega) (okR_same ok (fun y => mwcI_o (by decide))) (fun q hq => by rw [mwcI_o (by decide)]; exact hN q hq) (fun p q hp hq h => by rw [mwcI_o (by decide), mwcI_o (by decide)]; exact hX p q hp hq h) (by rw [mwcI_o (by decide)]; exact hr) (by rw [mwcI_o (by decide)]; exact hw) h0 h1
          rw [eI] at hih
          refine jx_iload C dX11_weave_32 rfl ?_
          refine jx_aload_n C dX11_weave_34 rfl ?_
          refine jx_get C fl_11_111_10 dX11_weave_35 (by decide) gg_65 rfl ?_
          rw [hw]
          refine jx_ic_geF (tgt := 211) C dX11_weave_38 (nI_ge (by omega) (by omega)) (by decide) ?_
          refine jx_aload_n C dX11_weave_41 rfl ?_
          refine jx_iconst (v := 5) C dX11_weave_42 (by decide) ?_
          refine jx_iload_n C dX11_weave_43 rfl ?_
          refine jx_imul C dX11_weave_44 ?_
          refine jx_iconst (v := 3) C dX11_weave_45 (by decide) ?_
          refine jx_iadd C dX11_weave_46 ?_
          refine jx_iload C dX11_weave_47 rfl ?_
          rw [show 5 * nI a + 3 = nI (5 * a + 3) from pl5' a 3]
          refine jx_one C (jr_V C (c_11_wrong (by omega) ok) vw_11_84 (by decide) gg_65 rfl rfl ⟨Nat.le_of_ble_eq_true rfl, Nat.le_of_ble_eq_true rfl⟩ ⟨Nat.le_of_ble_eq_true rfl, Nat.le_of_ble_eq_true rfl⟩ dX11_weave_49 rfl (Nat.le_of_ble_eq_true rfl)) ?_
          rw [w3]
          refine jx_istore (lv1 := [_, _, _, _, _, _, _]) C dX11_weave_52 (by decide) rfl ?_
          refine jx_iload C dX11_weave_54 rfl ?_
          refine jx_if_neF (tgt := 82) C dX11_weave_56 (by decide) (by decide) ?_
          refine jx_aload_n C dX11_weave_59 rfl ?_
          refine jx_iload_n C dX11_weave_60 rfl ?_
          refine jx_iload C dX11_weave_61 rfl ?_
          refine jx_one C (jr_V C (c_11_isUp ha (by omega) e3 hr3) vw_11_120 (by decide) gg_65 rfl rfl ⟨Nat.le_of_ble_eq_true rfl, Nat.le_of_ble_eq_true rfl⟩ ⟨Nat.le_of_ble_eq_true rfl, Nat.le_of_ble_eq_true rfl⟩ dX11_weave_63 rfl (Nat.le_of_ble_eq_true rfl)) ?_
          rw [bI_f hx]
          refine jx_if_eqT (tgt := 82) C dX11_weave_66 (by decide) (by decide) ?_
          refine jx_iload C dX11_weave_82 rfl ?_
          refine jx_if_neF (tgt := 100) C dX11_weave_84 (by decide) (by decide) ?_
          refine jx_aload_n C dX11_weave_87 rfl ?_
          refine jx_iconst (v := 5) C dX11_weave_88 (by decide) ?_
          refine jx_iload_n C dX11_weave_89 rfl ?_
          refine jx_imul C dX11_weave_90 ?_
          refine jx_iconst (v := 1) C dX11_weave_91 (by decide) ?_
          refine jx_iadd C dX11_weave_92 ?_
          refine jx_iload C dX11_weave_93 rfl ?_
          rw [show 5 * nI a + 1 = nI (5 * a + 1) from pl5' a 1]
          refine jx_one C (jr_V C (c_11_wrong (by omega) ok) vw_11_84 (by decide) gg_65 rfl rfl ⟨Nat.le_of_ble_eq_true rfl, Nat.le_of_ble_eq_true rfl⟩ ⟨Nat.le_of_ble_eq_true rfl, Nat.le_of_ble_eq_true rfl⟩ dX11_weave_95 rfl (Nat.le_of_ble_eq_true rfl)) ?_
          rw [w1]
          refine jx_istore (lv1 := [_, _, _, _, _, _, _]) C dX11_weave_98 (by decide) rfl ?_
          refine jx_iload C dX11_weave_100 rfl ?_
          refine jx_if_eqT (tgt := 115) C dX11_weave_102 (by decide) (by decide) ?_
          refine jx_bipush (v := 24) C dX11_weave_115 (by decide) ?_
          refine jx_aload_n C dX11_weave_117 rfl ?_
          refine jx_get C fl_11_7_10 dX11_weave_118 (by decide) gg_65 rfl ?_
          refine jx_iconst (v := 5) C dX11_weave_121 (by decide) ?_
          refine jx_iload_n C dX11_weave_122 rfl ?_
          refine jx_imul C dX11_weave_123 ?_
          refine jx_iconst (v := 1) C dX11_weave_124 (by decide) ?_
          refine jx_iadd C dX11_weave_125 ?_
          refine jx_iald (5 * a + 1) C dX11_weave_126 (by decide) gg_66 (pl5' a 1) (by omega) (by decide) ?_
          rw [e1]
          refine jx_imul C dX11_weave_127 ?_
          refine jx_iload C dX11_weave_128 rfl ?_
          refine jx_iadd C dX11_weave_130 ?_
          rw [ix24']
          refine jx_istore (lv1 := [_, _, _, _, _, _, _]) C dX11_weave_131 (by decide) rfl ?_
          refine jx_aload_n C dX11_weave_133 rfl ?_
          refine jx_get C fl_11_16_10 dX11_weave_134 (by decide) gg_65 rfl ?_
          refine jx_iload C dX11_weave_137 rfl ?_
          refine jx_iconst (v := 1) C dX11_weave_139 (by decide) ?_
          refine jx_aload_n C dX11_weave_140 rfl ?_
          refine jx_get C fl_11_16_10 dX11_weave_141 (by decide) gg_65 rfl ?_
          refine jx_iload C dX11_weave_144 rfl ?_
          refine jx_iald (24 * r1 + u) C dX11_weave_146 (by decide) gg_68 rfl (by omega) (by decide) ?_
          refine jx_iconst (v := 1) C dX11_weave_147 (by decide) ?_
          refine jx_isub C dX11_weave_148 ?_
          refine jx_one C (jr_S C (c_11_cutTo (b := 1) (by decide) (by decide)) sw_11_76 rfl ⟨Nat.le_of_ble_eq_true rfl, Nat.le_of_ble_eq_true rfl⟩ ⟨Nat.le_of_ble_eq_true rfl, Nat.le_of_ble_eq_true rfl⟩ dX11_weave_149 rfl (Nat.le_of_ble_eq_true rfl)) ?_
          refine jx_iastI (24 * r1 + u) C dX11_weave_152 (by decide) (fun _ => gg_68) rfl (by omega) (by decide) ?_
          refine jx_aload_n C dX11_weave_153 rfl ?_
          refine jx_get C fl_11_29_10 dX11_weave_154 (by decide) gg_65 rfl ?_
          refine jx_bipush (v := 24) C dX11_weave_157 (by decide) ?_
          refine jx_aload_n C dX11_weave_159 rfl ?_
          refine jx_get C fl_11_26_10 dX11_weave_160 (by decide) gg_65 rfl ?_
          refine jx_iload_n C dX11_weave_163 rfl ?_
          refine jx_iald (j) C dX11_weave_164 (by decide) gg_71 rfl hj (by decide) ?_
          rw [up2_ne (by omega), hr]
          refine jx_imul C dX11_weave_165 ?_
          refine jx_iload C dX11_weave_166 rfl ?_
          refine jx_iadd C dX11_weave_168 ?_
          rw [ix24']
          refine jx_aload_n C dX11_weave_169 rfl ?_
          refine jx_iload_n C dX11_weave_170 rfl ?_
          refine jx_iload C dX11_weave_171 rfl ?_
          refine jx_one C (jr_V C (c_11_isUp ha (by omega) (by rw [up2_ne (by omega)]; exact e3) hr3) vw_11_120 (by decide) gg_65 rfl rfl ⟨Nat.le_of_ble_eq_true rfl, Nat.le_of_ble_eq_true rfl⟩ ⟨Nat.le_of_ble_eq_true rfl, Nat.le_of_ble_eq_true rfl⟩ dX11_weave_173 rfl (Nat.le_of_ble_eq_true rfl)) ?_
          rw [up2_ne (by omega), bI_f hx]
          refine jx_if_eqT (tgt := 203) C dX11_weave_176 (by decide) (by decide) ?_
          refine jx_iload_n C dX11_weave_203 rfl ?_
          refine jx_iastI (24 * r + u) C dX11_weave_204 (by decide) (fun _ => gg_72) rfl (by omega) (by decide) ?_
          refine jx_iinc (lv1 := [_, _, _, _, _, _, _]) C dX11_weave_205 rfl (nI_1 u) rfl ?_
          refine jx_goto (tgt := 32) C dX11_weave_208 (by decide) ?_
          exact hih _ _
        · have eF : mwcF I a u = mlf I (5 * a + 1) (nI u) := by rw [mwcF, n3, w3]; simp [hx]
          have e0 : mwv a r weft (f + 1) u I = (u, mwcF I a u, I) := by rw [mwv, if_neg (by rw [eF]; exact w1)]
          have hq := h1 (by rw [e0]; show ¬ mwcF I a u = 0; rw [eF]; exact w1)
          rw [e0] at hq
          have hq : post (some (.int (nI u))) (mtel I (mwcF I a u)) U P := hq
          rw [eF] at hq
          refine jx_iload C dX11_weave_32 rfl ?_
          refine jx_aload_n C dX11_weave_34 rfl ?_
          refine jx_get C fl_11_111_10 dX11_weave_35 (by decide) gg_65 rfl ?_
          rw [hw]
          refine jx_ic_geF (tgt := 211) C dX11_weave_38 (nI_ge (by omega) (by omega)) (by decide) ?_
          refine jx_aload_n C dX11_weave_41 rfl ?_
          refine jx_iconst (v := 5) C dX11_weave_42 (by decide) ?_
          refine jx_iload_n C dX11_weave_43 rfl ?_
          refine jx_imul C dX11_weave_44 ?_
          refine jx_iconst (v := 3) C dX11_weave_45 (by decide) ?_
          refine jx_iadd C dX11_weave_46 ?_
          refine jx_iload C dX11_weave_47 rfl ?_
          rw [show 5 * nI a + 3 = nI (5 * a + 3) from pl5' a 3]
          refine jx_one C (jr_V C (c_11_wrong (by omega) ok) vw_11_84 (by decide) gg_65 rfl rfl ⟨Nat.le_of_ble_eq_true rfl, Nat.le_of_ble_eq_true rfl⟩ ⟨Nat.le_of_ble_eq_true rfl, Nat.le_of_ble_eq_true rfl⟩ dX11_weave_49 rfl (Nat.le_of_ble_eq_true rfl)) ?_
          rw [w3]
          refine jx_istore (lv1 := [_, _, _, _, _, _, _]) C dX11_weave_52 (by decide) rfl ?_
          refine jx_iload C dX11_weave_54 rfl ?_
          refine jx_if_neF (tgt := 82) C dX11_weave_56 (by decide) (by decide) ?_
          refine jx_aload_n C dX11_weave_59 rfl ?_
          refine jx_iload_n C dX11_weave_60 rfl ?_
          refine jx_iload C dX11_weave_61 rfl ?_
          refine jx_one C (jr_V C (c_11_isUp ha (by omega) e3 hr3) vw_11_120 (by decide) gg_65 rfl rfl ⟨Nat.le_of_ble_eq_true rfl, Nat.le_of_ble_eq_true rfl⟩ ⟨Nat.le_of_ble_eq_true rfl, Nat.le_of_ble_eq_true rfl⟩ dX11_weave_63 rfl (Nat.le_of_ble_eq_true rfl)) ?_
          rw [bI_f hx]
          refine jx_if_eqT (tgt := 82) C dX11_weave_66 (by decide) (by decide) ?_
          refine jx_iload C dX11_weave_82 rfl ?_
          refine jx_if_neF (tgt := 100) C dX11_weave_84 (by decide) (by decide) ?_
          refine jx_aload_n C dX11_weave_87 rfl ?_
          refine jx_iconst (v := 5) C dX11_weave_88 (by decide) ?_
          refine jx_iload_n C dX11_weave_89 rfl ?_
          refine jx_imul C dX11_weave_90 ?_
          refine jx_iconst (v := 1) C dX11_weave_91 (by decide) ?_
          refine jx_iadd C dX11_weave_92 ?_
          refine jx_iload C dX11_weave_93 rfl ?_
          rw [show 5 * nI a + 1 = nI (5 * a + 1) from pl5' a 1]
          refine jx_one C (jr_V C (c_11_wrong (by omega) ok) vw_11_84 (by decide) gg_65 rfl rfl ⟨Nat.le_of_ble_eq_true rfl, Nat.le_of_ble_eq_true rfl⟩ ⟨Nat.le_of_ble_eq_true rfl, Nat.le_of_ble_eq_true rfl⟩ dX11_weave_95 rfl (Nat.le_of_ble_eq_true rfl)) ?_
          refine jx_istore (lv1 := [_, _, _, _, _, _, _]) C dX11_weave_98 (by decide) rfl ?_
          refine jx_iload C dX11_weave_100 rfl ?_
          refine jx_if_eqF (tgt := 115) C dX11_weave_102 (fun q => w1 ((nI_eq0 (Nat.lt_of_le_of_lt mlf_le (by decide))).mp q)) (by decide) ?_
          refine jx_aload_n C dX11_weave_105 rfl ?_
          refine jx_iload C dX11_weave_106 rfl ?_
          refine jx_one C (jr_V C (c_11_bad (Nat.le_trans mlf_le (by decide))) vw_11_51 (by decide) gg_65 rfl rfl ⟨Nat.le_of_ble_eq_true rfl, Nat.le_of_ble_eq_true rfl⟩ ⟨Nat.le_of_ble_eq_true rfl, Nat.le_of_ble_eq_true rfl⟩ dX11_weave_108 rfl (Nat.le_of_ble_eq_true rfl)) ?_
          refine jx_pop C dX11_weave_111 rfl ?_
          refine jx_iload C dX11_weave_112 rfl ?_
          exact jx_iret C dX11_weave_114 hq
    · have eF : mwcF I a u = mlf I (5 * a + 3) (nI u) := by rw [mwcF, if_pos w3]
      have e0 : mwv a r weft (f + 1) u I = (u, mwcF I a u, I) := by rw [mwv, if_neg (by rw [eF]; exact w3)]
      have hq := h1 (by rw [e0]; show ¬ mwcF I a u = 0; rw [eF]; exact w3)
      rw [e0] at hq
      have hq : post (some (.int (nI u))) (mtel I (mwcF I a u)) U P := hq
      rw [eF] at hq
      refine jx_iload C dX11_weave_32 rfl ?_
      refine jx_aload_n C dX11_weave_34 rfl ?_
      refine jx_get C fl_11_111_10 dX11_weave_35 (by decide) gg_65 rfl ?_
      rw [hw]
      refine jx_ic_geF (tgt := 211) C dX11_weave_38 (nI_ge (by omega) (by omega)) (by decide) ?_
      refine jx_aload_n C dX11_weave_41 rfl ?_
      refine jx_iconst (v := 5) C dX11_weave_42 (by decide) ?_
      refine jx_iload_n C dX11_weave_43 rfl ?_
      refine jx_imul C dX11_weave_44 ?_
      refine jx_iconst (v := 3) C dX11_weave_45 (by decide) ?_
      refine jx_iadd C dX11_weave_46 ?_
      refine jx_iload C dX11_weave_47 rfl ?_
      rw [show 5 * nI a + 3 = nI (5 * a + 3) from pl5' a 3]
      refine jx_one C (jr_V C (c_11_wrong (by omega) ok) vw_11_84 (by decide) gg_65 rfl rfl ⟨Nat.le_of_ble_eq_true rfl, Nat.le_of_ble_eq_true rfl⟩ ⟨Nat.le_of_ble_eq_true rfl, Nat.le_of_ble_eq_true rfl⟩ dX11_weave_49 rfl (Nat.le_of_ble_eq_true rfl)) ?_
      refine jx_istore (lv1 := [_, _, _, _, _, _, _]) C dX11_weave_52 (by decide) rfl ?_
      refine jx_iload C dX11_weave_54 rfl ?_
      refine jx_if_neT (tgt := 82) C dX11_weave_56 (by decide) (fun q => w3 ((nI_eq0 (Nat.lt_of_le_of_lt mlf_le (by decide))).mp q)) ?_
      refine jx_iload C dX11_weave_82 rfl ?_
      refine jx_if_neT (tgt := 100) C dX11_weave_84 (by decide) (fun q => w3 ((nI_eq0 (Nat.lt_of_le_of_lt mlf_le (by decide))).mp q)) ?_
      refine jx_iload C dX11_weave_100 rfl ?_
      refine jx_if_eqF (tgt := 115) C dX11_weave_102 (fun q => w3 ((nI_eq0 (Nat.lt_of_le_of_lt mlf_le (by decide))).mp q)) (by decide) ?_
      refine jx_aload_n C dX11_weave_105 rfl ?_
      refine jx_iload C dX11_weave_106 rfl ?_
      refine jx_one C (jr_V C (c_11_bad (Nat.le_trans mlf_le (by decide))) vw_11_51 (by decide) gg_65 rfl rfl ⟨Nat.le_of_ble_eq_true rfl, Nat.le_of_ble_eq_true rfl⟩ ⟨Nat.le_of_ble_eq_true rfl, Nat.le_of_ble_eq_true rfl⟩ dX11_weave_108 rfl (Nat.le_of_ble_eq_true rfl)) ?_
      refine jx_pop C dX11_weave_111 rfl ?_
      refine jx_iload C dX11_weave_112 rfl ?_
      exact jx_iret C dX11_weave_114 hq
set_option maxRecDepth 100000 in
set_option maxHeartbeats 4000000 in
theorem c_11_weaveX {l : Launch} {D : va_G} {K : Nat → ClassId} {A : Nat → Nat} {I : TI} {U : TU} {P : TP} {f x y : Int32} (hx : ¬ inF f) : MM l yX11_weave cX11_weave 7 (some .int) 6 D K A (I) (U) (P) [.ref (A 65), .int f, .int x, .int y] (XE (some (.int ((-2147483648)))) (I) (U) (P)) := by
  refine MM.go (own := RX11) (lv0 := [some (.ref (A 65)), some (.int f), some (.int x), some (.int y), none, none, none]) rfl (by decide) rfl (Nat.le_of_ble_eq_true rfl) rfl ?_
  intro p e s m args below meth c C
  refine jx_iload_n C dX11_weave_0 rfl ?_
  refine jx_one C (jr_S C (c_11_isFrame) sw_11_38 rfl ⟨Nat.le_of_ble_eq_true rfl, Nat.le_of_ble_eq_true rfl⟩ ⟨Nat.le_of_ble_eq_true rfl, Nat.le_of_ble_eq_true rfl⟩ dX11_weave_1 rfl (Nat.le_of_ble_eq_true rfl)) ?_
  rw [bI_f hx]
  refine jx_if_neF (tgt := 10) C dX11_weave_4 (by decide) (by decide) ?_
  refine jx_ldc C dX11_weave_7 qw_633 ?_
  exact jx_iret C dX11_weave_9 ⟨rfl, rfl, rfl, rfl⟩
set_option maxRecDepth 100000 in
set_option maxHeartbeats 4000000 in
theorem c_11_weave1 {l : Launch} {D : va_G} {K : Nat → ClassId} {A : Nat → Nat} {I : TI} {U : TU} {P : TP} {a : Nat} (ha : a < 4) {x y : Int32} (ht : I 65 6 = 0) : MM l yX11_weave cX11_weave 7 (some .int) 6 D K A (I) (U) (P) [.ref (A 65), .int (nI a), .int x, .int y] (XE (some (.int (0))) (mtel I 1) (U) (P)) := by
  refine MM.go (own := RX11) (lv0 := [some (.ref (A 65)), some (.int (nI a)), some (.int x), some (.int y), none, none, none]) rfl (by decide) rfl (Nat.le_of_ble_eq_true rfl) rfl ?_
  intro p e s m args below meth c C
  refine jx_iload_n C dX11_weave_0 rfl ?_
  refine jx_one C (jr_S C (c_11_isFrame) sw_11_38 rfl ⟨Nat.le_of_ble_eq_true rfl, Nat.le_of_ble_eq_true rfl⟩ ⟨Nat.le_of_ble_eq_true rfl, Nat.le_of_ble_eq_true rfl⟩ dX11_weave_1 rfl (Nat.le_of_ble_eq_true rfl)) ?_
  rw [bI_t (inF_nI ha)]
  refine jx_if_neT (tgt := 10) C dX11_weave_4 (by decide) (by decide) ?_
  refine jx_aload_n C dX11_weave_10 rfl ?_
  refine jx_iload_n C dX11_weave_11 rfl ?_
  refine jx_one C (jr_V C (c_11_gone1 ht) vw_11_117 (by decide) gg_65 rfl rfl ⟨Nat.le_of_ble_eq_true rfl, Nat.le_of_ble_eq_true rfl⟩ ⟨Nat.le_of_ble_eq_true rfl, Nat.le_of_ble_eq_true rfl⟩ dX11_weave_12 rfl (Nat.le_of_ble_eq_true rfl)) ?_
  refine jx_istore (lv1 := [_, _, _, _, _, _, _]) C dX11_weave_15 (by decide) rfl ?_
  refine jx_iload C dX11_weave_17 rfl ?_
  refine jx_if_eqF (tgt := 29) C dX11_weave_19 (by decide) (by decide) ?_
  refine jx_aload_n C dX11_weave_22 rfl ?_
  refine jx_iload C dX11_weave_23 rfl ?_
  refine jx_one C (jr_V C (c_11_bad (f := 1) (by decide)) vw_11_51 (by decide) gg_65 rfl rfl ⟨Nat.le_of_ble_eq_true rfl, Nat.le_of_ble_eq_true rfl⟩ ⟨Nat.le_of_ble_eq_true rfl, Nat.le_of_ble_eq_true rfl⟩ dX11_weave_25 rfl (Nat.le_of_ble_eq_true rfl)) ?_
  exact jx_iret C dX11_weave_28 ⟨rfl, rfl, rfl, rfl⟩
set_option maxRecDepth 100000 in
set_option maxHeartbeats 4000000 in
theorem c_11_weave2 {l : Launch} {D : va_G} {K : Nat → ClassId} {A : Nat → Nat} {I : TI} {U : TU} {P : TP} {a : Nat} (ha : a < 4) {x y : Int32} (ht : ¬ I 65 6 = 0) (hp : ¬ inR (I 65 7) x) : MM l yX11_weave cX11_weave 7 (some .int) 6 D K A (I) (U) (P) [.ref (A 65), .int (nI a), .int x, .int y] (XE (some (.int (0))) (mtel I 2) (U) (P)) := by
  refine MM.go (own := RX11) (lv0 := [some (.ref (A 65)), some (.int (nI a)), some (.int x), some (.int y), none, none, none]) rfl (by decide) rfl (Nat.le_of_ble_eq_true rfl) rfl ?_
  intro p e s m args below meth c C
  refine jx_iload_n C dX11_weave_0 rfl ?_
  refine jx_one C (jr_S C (c_11_isFrame) sw_11_38 rfl ⟨Nat.le_of_ble_eq_true rfl, Nat.le_of_ble_eq_true rfl⟩ ⟨Nat.le_of_ble_eq_true rfl, Nat.le_of_ble_eq_true rfl⟩ dX11_weave_1 rfl (Nat.le_of_ble_eq_true rfl)) ?_
  rw [bI_t (inF_nI ha)]
  refine jx_if_neT (tgt := 10) C dX11_weave_4 (by decide) (by decide) ?_
  refine jx_aload_n C dX11_weave_10 rfl ?_
  refine jx_iload_n C dX11_weave_11 rfl ?_
  refine jx_one C (jr_V C (c_11_gone2 ht hp) vw_11_117 (by decide) gg_65 rfl rfl ⟨Nat.le_of_ble_eq_true rfl, Nat.le_of_ble_eq_true rfl⟩ ⟨Nat.le_of_ble_eq_true rfl, Nat.le_of_ble_eq_true rfl⟩ dX11_weave_12 rfl (Nat.le_of_ble_eq_true rfl)) ?_
  refine jx_istore (lv1 := [_, _, _, _, _, _, _]) C dX11_weave_15 (by decide) rfl ?_
  refine jx_iload C dX11_weave_17 rfl ?_
  refine jx_if_eqF (tgt := 29) C dX11_weave_19 (by decide) (by decide) ?_
  refine jx_aload_n C dX11_weave_22 rfl ?_
  refine jx_iload C dX11_weave_23 rfl ?_
  refine jx_one C (jr_V C (c_11_bad (f := 2) (by decide)) vw_11_51 (by decide) gg_65 rfl rfl ⟨Nat.le_of_ble_eq_true rfl, Nat.le_of_ble_eq_true rfl⟩ ⟨Nat.le_of_ble_eq_true rfl, Nat.le_of_ble_eq_true rfl⟩ dX11_weave_25 rfl (Nat.le_of_ble_eq_true rfl)) ?_
  exact jx_iret C dX11_weave_28 ⟨rfl, rfl, rfl, rfl⟩
set_option maxRecDepth 100000 in
set_option maxHeartbeats 4000000 in
theorem c_11_weave3 {l : Launch} {D : va_G} {K : Nat → ClassId} {A : Nat → Nat} {I : TI} {U : TU} {P : TP} {a j : Nat} (ha : a < 4) {y : Int32} (ht : ¬ I 65 6 = 0) {n : Nat} (hn : I 65 7 = nI n) (h24 : n ≤ 24) (hj : j < n) (hr : I 71 j = -1) : MM l yX11_weave cX11_weave 7 (some .int) 6 D K A (I) (U) (P) [.ref (A 65), .int (nI a), .int (nI j), .int y] (XE (some (.int (0))) (mtel I 1) (U) (P)) := by
  refine MM.go (own := RX11) (lv0 := [some (.ref (A 65)), some (.int (nI a)), some (.int (nI j)), some (.int y), none, none, none]) rfl (by decide) rfl (Nat.le_of_ble_eq_true rfl) rfl ?_
  intro p e s m args below meth c C
  refine jx_iload_n C dX11_weave_0 rfl ?_
  refine jx_one C (jr_S C (c_11_isFrame) sw_11_38 rfl ⟨Nat.le_of_ble_eq_true rfl, Nat.le_of_ble_eq_true rfl⟩ ⟨Nat.le_of_ble_eq_true rfl, Nat.le_of_ble_eq_true rfl⟩ dX11_weave_1 rfl (Nat.le_of_ble_eq_true rfl)) ?_
  rw [bI_t (inF_nI ha)]
  refine jx_if_neT (tgt := 10) C dX11_weave_4 (by decide) (by decide) ?_
  refine jx_aload_n C dX11_weave_10 rfl ?_
  refine jx_iload_n C dX11_weave_11 rfl ?_
  refine jx_one C (jr_V C (c_11_gone3 ht hn h24 hj hr) vw_11_117 (by decide) gg_65 rfl rfl ⟨Nat.le_of_ble_eq_true rfl, Nat.le_of_ble_eq_true rfl⟩ ⟨Nat.le_of_ble_eq_true rfl, Nat.le_of_ble_eq_true rfl⟩ dX11_weave_12 rfl (Nat.le_of_ble_eq_true rfl)) ?_
  refine jx_istore (lv1 := [_, _, _, _, _, _, _]) C dX11_weave_15 (by decide) rfl ?_
  refine jx_iload C dX11_weave_17 rfl ?_
  refine jx_if_eqF (tgt := 29) C dX11_weave_19 (by decide) (by decide) ?_
  refine jx_aload_n C dX11_weave_22 rfl ?_
  refine jx_iload C dX11_weave_23 rfl ?_
  refine jx_one C (jr_V C (c_11_bad (f := 1) (by decide)) vw_11_51 (by decide) gg_65 rfl rfl ⟨Nat.le_of_ble_eq_true rfl, Nat.le_of_ble_eq_true rfl⟩ ⟨Nat.le_of_ble_eq_true rfl, Nat.le_of_ble_eq_true rfl⟩ dX11_weave_25 rfl (Nat.le_of_ble_eq_true rfl)) ?_
  exact jx_iret C dX11_weave_28 ⟨rfl, rfl, rfl, rfl⟩
set_option maxRecDepth 100000 in
set_option maxHeartbeats 4000000 in
theorem c_11_weave {l : Launch} {D : va_G} {K : Nat → ClassId} {A : Nat → Nat} {I : TI} {U : TU} {P : TP} {a j r w : Nat} {weft : Int32} (ha : a < 4) {n : Nat} (hn : I 65 7 = nI n) (h24 : n ≤ 24) (ht : ¬ I 65 6 = 0) (hj : j < n) (hr : I 71 j = nI r) (hr24 : r < 24) (hw : I 65 8 = nI w) (hw24 : w ≤ 24) (ok : okR I) (hN : mokN I) (hX : okX I) : MM l yX11_weave cX11_weave 7 (some .int) 6 D K A (I) (U) (P) [.ref (A 65), .int (nI a), .int (nI j), .int weft] (XE (some (.int (if (mwv a r weft w 0 I).2.1 = 0 then nI w else nI (mwv a r weft w 0 I).1))) (if (mwv a r weft w 0 I).2.1 = 0 then mbg (up2 (mwv a r weft w 0 I).2.2 65 17 ((mwv a r weft w 0 I).2.2 65 17 + 1)) else mtel (mwv a r weft w 0 I).2.2 (mwv a r weft w 0 I).2.1) U P) := by
  refine MM.go (own := RX11) (lv0 := [some (.ref (A 65)), some (.int (nI a)), some (.int (nI j)), some (.int weft), none, none, none]) rfl (by decide) rfl (Nat.le_of_ble_eq_true rfl) rfl ?_
  intro p e s m args below meth c C
  refine jx_iload_n C dX11_weave_0 rfl ?_
  refine jx_one C (jr_S C (c_11_isFrame) sw_11_38 rfl ⟨Nat.le_of_ble_eq_true rfl, Nat.le_of_ble_eq_true rfl⟩ ⟨Nat.le_of_ble_eq_true rfl, Nat.le_of_ble_eq_true rfl⟩ dX11_weave_1 rfl (Nat.le_of_ble_eq_true rfl)) ?_
  rw [bI_t (inF_nI ha)]
  refine jx_if_neT (tgt := 10) C dX11_weave_4 (by decide) (by decide) ?_
  refine jx_aload_n C dX11_weave_10 rfl ?_
  refine jx_iload_n C dX11_weave_11 rfl ?_
  refine jx_one C (jr_V C (c_11_gone0 ht hn h24 hj (by rw [hr]; exact nI_m1 (by omega))) vw_11_117 (by decide) gg_65 rfl rfl ⟨Nat.le_of_ble_eq_true rfl, Nat.le_of_ble_eq_true rfl⟩ ⟨Nat.le_of_ble_eq_true rfl, Nat.le_of_ble_eq_true rfl⟩ dX11_weave_12 rfl (Nat.le_of_ble_eq_true rfl)) ?_
  refine jx_istore (lv1 := [_, _, _, _, _, _, _]) C dX11_weave_15 (by decide) rfl ?_
  refine jx_iload C dX11_weave_17 rfl ?_
  refine jx_if_eqT (tgt := 29) C dX11_weave_19 (by decide) (by decide) ?_
  refine jx_iconst (v := 0) C dX11_weave_29 (by decide) ?_
  refine jx_istore (lv1 := [_, _, _, _, _, _, _]) C dX11_weave_30 (by decide) rfl ?_
  exact lp_11_weave C ha (by omega) hr24 hw24 w 0 I (by omega) ok hN hX hr hw (fun q => ⟨by rw [if_pos q], by rw [if_pos q], rfl, rfl⟩) (fun q => ⟨by rw [if_neg q], by rw [if_neg q], rfl, rfl⟩) _ none
def mcN (I : TI) (j t : Nat) : Nat := (I 73 (5 * j + t)).toNatClampNeg
def mrnS (j : Nat) (I : TI) (U : TU) : Int32 × TI × TU := dn (mcN I j 0) (5 * mcN I j 1 + mcN I j 2) (mcN I j 2) (I 73 (5 * j + 3)) (I 73 (5 * j + 4)) I U
def mrnI (j : Nat) (I : TI) (U : TU) : TI := up2 (mrnS j I U).2.1 65 16 (I 65 16 + (mrnS j I U).1)
def mrn (co : Nat) : Nat → Nat → TI → TU → Nat × TI × TU
  | 0, t, I, U => (t, I, U)
  | f + 1, t, I, U => if endsBy (I 65 13) (mrnI (t % co) I U 65 14) then (t, mrnI (t % co) I U, (mrnS (t % co) I U).2.2) else mrn co f (t + 1) (up2 (mrnI (t % co) I U) 65 14 0) (mrnS (t % co) I U).2.2
def mokD (I : TI) : Prop := ∃ co : Nat, co ≤ 12 ∧ I 65 12 = nI co ∧ ∀ j, j < co → ∃ kd a b : Nat, kd < 5 ∧ a < 4 ∧ b < 5 ∧ I 73 (5 * j) = nI kd ∧ I 73 (5 * j + 1) = nI a ∧ I 73 (5 * j + 2) = nI b
theorem mtel_o {I : TI} {f x y : Nat} (h : ¬ (x = 74 ∨ x = 65 ∧ y = 14)) : mtel I f x y = I x y := by
  unfold mtel
  rw [up2_ne (by omega), up2_ne (by omega)]
theorem mbg_o {I : TI} {x y : Nat} (h : ¬ (x = 65 ∧ y = 14)) : mbg I x y = I x y := by
  unfold mbg
  rw [up2_ne (by omega)]
theorem mdq_o2 {I : TI} {x y : Nat} (h : ¬ (x = 70 ∨ x = 65 ∧ y = 5)) : mdq I x y = I x y := by
  unfold mdq
  rw [if_neg (by omega), if_neg (by omega)]
theorem mlaI_o {b at0 x y : Nat} {v : Int32} {I : TI} (h : ¬ x = 68) : mlaI b at0 v I x y = I x y := by
  unfold mlaI
  split
  · rfl
  · exact up2_ne (by omega)
theorem dn_o {kd pl b : Nat} {i v : Int32} {I : TI} {U : TU} {x y : Nat} (h : ¬ (x = 68 ∨ x = 70 ∨ x = 74 ∨ x = 65 ∧ (y = 5 ∨ y = 14))) : (dn kd pl b i v I U).2.1 x y = I x y := by
  have hD : dnD kd I x y = I x y := by
    unfold dnD
    split
    · exact mdq_o2 (by omega)
    · rfl
  have g1 : ∀ a0 z, mbg (mlaI b a0 z (mdq I)) x y = I x y := fun a0 z => by rw [mbg_o (by omega), mlaI_o (by omega), mdq_o2 (by omega)]
  have g2 : ∀ a0 z, mbg (mlaI b a0 z I) x y = I x y := fun a0 z => by rw [mbg_o (by omega), mlaI_o (by omega)]
  have g3 : ∀ f, mtel I f x y = I x y := fun f => mtel_o (by omega)
  unfold dn
  split
  · exact g3 4
  · split
    · unfold dnE mfT
      repeat' split
      all_goals first | exact g1 _ _ | exact g2 _ _ | exact g3 _ | exact mbg_o (by omega)
    · show mtel (dnD kd I) _ x y = _
      rw [mtel_o (by omega), hD]
theorem mokS_same {I I' : TI} (h : mokS I) (h1 : I' 65 5 = I 65 5) : mokS I' := by
  obtain ⟨co, a, b⟩ := h
  exact ⟨co, h1.trans a, b⟩
theorem mokS_dq {I : TI} (h : mokS I) (h0 : ¬ I 65 5 = 0) : mokS (mdq I) := by
  obtain ⟨co, a, b⟩ := h
  obtain ⟨co, rfl⟩ : ∃ c' : Nat, co = c' + 1 := by
    refine ⟨co - 1, ?_⟩
    have : co ≠ 0 := fun q => h0 (by rw [a, q]; rfl)
    omega
  exact ⟨co, by unfold mdq; rw [if_pos ⟨rfl, rfl⟩, a, nI_pred], by omega⟩
theorem mokS_dn {kd pl b : Nat} {i v : Int32} {I : TI} {U : TU} (h : mokS I) : mokS (dn kd pl b i v I U).2.1 := by
  unfold dn
  split
  · exact mokS_same h (show mtel I 4 65 5 = _ from mtel_o (by decide))
  · next hz =>
    have hD : mokS (dnD kd I) := by
      unfold dnD
      split
      · next q => exact mokS_dq h (fun z => hz ⟨q, z⟩)
      · exact h
    split
    · unfold dnE mfT
      split
      · next q => exact mokS_same (mokS_dq h (fun z => hz ⟨q, z⟩)) (by show mbg (mlaI _ _ _ (mdq I)) 65 5 = mdq I 65 5; rw [mbg_o (by omega), mlaI_o (by omega)])
      · split
        · split
          · exact mokS_same h (show mtel I 4 65 5 = _ from mtel_o (by decide))
          · next q => exact mokS_same (mokS_dq h q) (by show mbg (mlaI _ _ _ (mdq I)) 65 5 = mdq I 65 5; rw [mbg_o (by omega), mlaI_o (by omega)])
        · split
          · exact mokS_same h (by show mbg (mlaI _ _ _ I) 65 5 = I 65 5; rw [mbg_o (by omega), mlaI_o (by omega)])
          · split
            · split
              · exact mokS_same h (show mtel I 5 65 5 = _ from mtel_o (by decide))
              · exact mokS_same h (by show mbg (mlaI _ _ _ I) 65 5 = I 65 5; rw [mbg_o (by omega), mlaI_o (by omega)])
            · exact mokS_same h (show mbg I 65 5 = _ from mbg_o (by decide))
    · exact mokS_same hD (show mtel (dnD kd I) (mlf I pl i) 65 5 = _ from mtel_o (by decide))
theorem mokU_la {b at0 : Nat} {y : UInt32} {U : TU} (h : mokU U) (hy : b = 2 → hd32 y) : mokU (mlaU b at0 y U) := by
  intro x hx
  unfold mlaU
  split
  · next q =>
    by_cases hxa : x = at0
    · subst hxa; rw [up2_same]; exact hy q
    · rw [up2_ne (by omega)]; exact h x hx
  · exact h x hx
theorem mokU_dn {kd pl b : Nat} {i v : Int32} {I : TI} {U : TU} (hpl : pl < 20) (ok : okR I) (hN : mokN I) (h : mokU U) : mokU (dn kd pl b i v I U).2.2 := by
  unfold dn
  split
  · exact h
  · split
    · next hm =>
      have hat : 24 * rN I pl + i.toNatClampNeg < 480 := by
        obtain ⟨r, hr, e, n⟩ := mlf_0 ok hpl hm
        obtain ⟨c, hc, hcc⟩ := hN r hr
        rw [mlf, if_neg (by rw [e]; exact nI_m1 (by omega)), n, hcc] at hm
        by_cases hin : inR (nI c) i
        · obtain ⟨z, hz, rfl⟩ := inR_of (by omega) hin
          rw [n, nI_clamp (by omega)]
          omega
        · rw [if_neg hin] at hm; cases hm
      have hh := h _ hat
      unfold dnE mfT
      split
      · exact mokU_la h (fun _ => hd_ho (f8_nan _))
      · split
        · split
          · exact h
          · exact mokU_la h (fun _ => hd_ho (notnan (nn_add hh (f8_nan _))))
        · split
          · exact mokU_la h (fun _ => hd_ho (notnan (nn_add hh (f8_nan _))))
          · split
            · split
              · exact h
              · next hv => exact mokU_la h (fun q => hd_ho (notnan (nn_div hh (fun z => hv ⟨z, by omega⟩))))
            · exact h
    · exact h
set_option maxRecDepth 100000 in
set_option maxHeartbeats 4000000 in
theorem lp_11_run {p : Program} {l : Launch} {e : Env} {s : State} {m : MethodId} {args : Array Value} {below : List Frame} {meth : Method} {c : Code} {D : va_G} {K : Nat → ClassId} {A : Nat → Nat} {P : TP} {post : TQ} {n co : Nat} (C : CX p s m args meth c RX11 cX11_run 5 (some .int) D K (AX 75 A s.heap.size)) (hco : 0 < co) (h12 : co ≤ 12) (hn : n ≤ 12) : ∀ (f t : Nat) (I : TI) (U : TU), t + f = n → mokS I → okR I → mokN I → mokU U → mokD I → I 65 12 = nI co → post (some (.int (nI (mrn co f t I U).1))) (mrn co f t I U).2.1 (mrn co f t I U).2.2 P → ∀ z : Option Value, GJ p l e (rmd 6) s m args below meth c 5 D (AX 75 A s.heap.size) (MQX below D K A args s post) 75 A (gg A K (I) (U) P) 0 0 35 [some (.ref (A 65)), some (.int (nI n)), some (.int (nI (t))), some (.int 1), z] [] := by
  intro f
  induction f with
  | zero =>
    intro t I U ht hs ok hN hU hd hc h0 z
    obtain rfl : t = n := by omega
    refine jx_iload_n C dX11_run_35 rfl ?_
    refine jx_iload_n C dX11_run_36 rfl ?_
    refine jx_ic_geT (tgt := 153) C dX11_run_37 (by decide) (nI_le (Nat.le_refl _) (by omega)) ?_
    refine jx_iload_n C dX11_run_153 rfl ?_
    exact jx_iret C dX11_run_154 h0
  | succ f ih =>
    intro t I U ht hs ok hN hU hd hc h0 z
    have hm : t % co < co := Nat.mod_lt _ hco
    obtain ⟨co2, q1, q2, q3⟩ := id hd
    obtain rfl : co2 = co := (nI_eq (by omega) (by omega)).mp (q2.symm.trans hc)
    obtain ⟨kd, a, b, hk, ha, hb, e0, e1, e2⟩ := q3 (t % co2) hm
    have eS : mrnS (t % co2) I U = dn kd (5 * a + b) b (I 73 (5 * (t % co2) + 3)) (I 73 (5 * (t % co2) + 4)) I U := by
      unfold mrnS mcN
      rw [e1, e2, show 5 * (t % co2) + 0 = 5 * (t % co2) from rfl, e0, nI_clamp (by omega), nI_clamp (by omega), nI_clamp (by omega)]
    have hI13 : mrnI (t % co2) I U 65 13 = I 65 13 := by
      unfold mrnI
      rw [up2_ne (by omega), eS, dn_o (by omega)]
    have g1 : ∀ x y, (x = 66 ∨ x = 67 ∨ x = 73 ∨ x = 65 ∧ y = 12) → mrnI (t % co2) I U x y = I x y := fun x y h => by unfold mrnI; rw [up2_ne (by omega), eS, dn_o (by omega)]
    have hit : ¬ endsBy (I 65 13) (mrnI (t % co2) I U 65 14) → ∀ z : Option Value, GJ p l e (rmd 6) s m args below meth c 5 D (AX 75 A s.heap.size) (MQX below D K A args s post) 75 A (gg A K (up2 (mrnI (t % co2) I U) 65 14 0) ((mrnS (t % co2) I U).2.2) P) 0 0 35 [some (.ref (A 65)), some (.int (nI n)), some (.int (nI (t + 1))), some (.int 1), z] [] := by
      intro hz
      have er : mrn co2 (f + 1) t I U = mrn co2 f (t + 1) (up2 (mrnI (t % co2) I U) 65 14 0) (mrnS (t % co2) I U).2.2 := by rw [mrn, if_neg hz]
      rw [er] at h0
      refine ih (t + 1) _ _ (by omega) ?_ ?_ ?_ ?_ ?_ ?_ h0
      · refine mokS_same (mokS_dn (kd := kd) (pl := 5 * a + b) (b := b) (i := I 73 (5 * (t % co2) + 3)) (v := I 73 (5 * (t % co2) + 4)) (U := U) hs) ?_
        rw [up2_ne (by omega)]; unfold mrnI; rw [up2_ne (by omega), eS]
      · exact okR_same ok (fun y => by rw [up2_ne (by omega)]; exact g1 _ _ (by omega))
      · intro r hr; rw [up2_ne (by omega), g1 _ _ (by omega)]; exact hN r hr
      · rw [eS]; exact mokU_dn (by omega) ok hN hU
      · refine ⟨co2, q1, by rw [up2_ne (by omega), g1 _ _ (by omega)]; exact q2, fun j hj => ?_⟩
        obtain ⟨kd', a', b', z1, z2, z3, z4, z5, z6⟩ := q3 j hj
        exact ⟨kd', a', b', z1, z2, z3, by rw [up2_ne (by omega), g1 _ _ (by omega)]; exact z4, by rw [up2_ne (by omega), g1 _ _ (by omega)]; exact z5, by rw [up2_ne (by omega), g1 _ _ (by omega)]; exact z6⟩
      · rw [up2_ne (by omega), g1 _ _ (by omega)]; exact hc
    by_cases hf : mrnI (t % co2) I U 65 14 = 0
    · have hh := hit (fun q => q.1 hf)
      refine jx_iload_n C dX11_run_35 rfl ?_
      refine jx_iload_n C dX11_run_36 rfl ?_
      refine jx_ic_geF (tgt := 153) C dX11_run_37 (nI_ge (by omega) (by omega)) (by decide) ?_
      refine jx_iload_n C dX11_run_40 rfl ?_
      refine jx_if_eqF (tgt := 153) C dX11_run_41 (by decide) (by decide) ?_
      refine jx_iconst (v := 5) C dX11_run_44 (by decide) ?_
      refine jx_iload_n C dX11_run_45 rfl ?_
      refine jx_aload_n C dX11_run_46 rfl ?_
      refine jx_get C fl_11_126_10 dX11_run_47 (by decide) gg_65 rfl ?_
      rw [hc]
      refine jx_irem C dX11_run_50 (nI_ne0 (by omega) (by omega)) ?_
      rw [rem_co (by omega) (by omega) (by omega)]
      refine jx_imul C dX11_run_51 ?_
      rw [show (5 : Int32) * nI (t % co2) = nI (5 * (t % co2)) by rw [show (5 : Int32) = nI 5 from rfl, pk_mul]]
      refine jx_istore (lv1 := [_, _, _, _, _]) C dX11_run_52 (by decide) rfl ?_
      refine jx_aload_n C dX11_run_54 rfl ?_
      refine jx_aload_n C dX11_run_55 rfl ?_
      refine jx_get C fl_11_132_10 dX11_run_56 (by decide) gg_65 rfl ?_
      refine jx_aload_n C dX11_run_59 rfl ?_
      refine jx_aload_n C dX11_run_60 rfl ?_
      refine jx_get C fl_11_32_10 dX11_run_61 (by decide) gg_65 rfl ?_
      refine jx_iload C dX11_run_64 rfl ?_
      refine jx_iald (5 * (t % co2)) C dX11_run_66 (by decide) gg_73 rfl (by omega) (by decide) ?_
      refine jx_aload_n C dX11_run_67 rfl ?_
      refine jx_get C fl_11_32_10 dX11_run_68 (by decide) gg_65 rfl ?_
      refine jx_iload C dX11_run_71 rfl ?_
      refine jx_iconst (v := 1) C dX11_run_73 (by decide) ?_
      refine jx_iadd C dX11_run_74 ?_
      refine jx_iald (5 * (t % co2) + 1) C dX11_run_75 (by decide) gg_73 (ix5 (t % co2) 1) (by omega) (by decide) ?_
      refine jx_aload_n C dX11_run_76 rfl ?_
      refine jx_get C fl_11_32_10 dX11_run_77 (by decide) gg_65 rfl ?_
      refine jx_iload C dX11_run_80 rfl ?_
      refine jx_iconst (v := 2) C dX11_run_82 (by decide) ?_
      refine jx_iadd C dX11_run_83 ?_
      refine jx_iald (5 * (t % co2) + 2) C dX11_run_84 (by decide) gg_73 (ix5 (t % co2) 2) (by omega) (by decide) ?_
      refine jx_aload_n C dX11_run_85 rfl ?_
      refine jx_get C fl_11_32_10 dX11_run_86 (by decide) gg_65 rfl ?_
      refine jx_iload C dX11_run_89 rfl ?_
      refine jx_iconst (v := 3) C dX11_run_91 (by decide) ?_
      refine jx_iadd C dX11_run_92 ?_
      refine jx_iald (5 * (t % co2) + 3) C dX11_run_93 (by decide) gg_73 (ix5 (t % co2) 3) (by omega) (by decide) ?_
      refine jx_aload_n C dX11_run_94 rfl ?_
      refine jx_get C fl_11_32_10 dX11_run_95 (by decide) gg_65 rfl ?_
      refine jx_iload C dX11_run_98 rfl ?_
      refine jx_iconst (v := 4) C dX11_run_100 (by decide) ?_
      refine jx_iadd C dX11_run_101 ?_
      refine jx_iald (5 * (t % co2) + 4) C dX11_run_102 (by decide) gg_73 (ix5 (t % co2) 4) (by omega) (by decide) ?_
      rw [e0, e1, e2]
      refine jx_one C (jr_V C (c_11_done hk ha hb hs ok hN hU) vw_11_100 (by decide) gg_65 rfl rfl ⟨Nat.le_of_ble_eq_true rfl, Nat.le_of_ble_eq_true rfl⟩ ⟨Nat.le_of_ble_eq_true rfl, Nat.le_of_ble_eq_true rfl⟩ dX11_run_103 rfl (Nat.le_of_ble_eq_true rfl)) ?_
      rw [← eS]
      refine jx_iadd C dX11_run_106 ?_
      refine jx_putI C fp_11_132_10 dX11_run_107 (by decide) gg_65 (Nat.le_of_ble_eq_true rfl) rfl ?_
      change GJ _ _ _ _ _ _ _ _ _ _ _ _ _ _ _ _ (gg A K (mrnI (t % co2) I U) _ P) _ _ _ _ _
      refine jx_aload_n C dX11_run_110 rfl ?_
      refine jx_get C fl_11_42_10 dX11_run_111 (by decide) gg_65 rfl ?_
      refine jx_if_eqT (tgt := 132) C dX11_run_114 (by decide) hf ?_
      refine jx_iconst (v := 1) C dX11_run_132 (by decide) ?_
      refine jx_goto (tgt := 137) C dX11_run_133 (by decide) ?_
      refine jx_istore_n (lv1 := [_, _, _, _, _]) C dX11_run_137 (by decide) rfl ?_
      refine jx_iload_n C dX11_run_138 rfl ?_
      refine jx_if_eqF (tgt := 150) C dX11_run_139 (by decide) (by decide) ?_
      refine jx_aload_n C dX11_run_142 rfl ?_
      refine jx_iconst (v := 0) C dX11_run_143 (by decide) ?_
      refine jx_putI C fp_11_42_10 dX11_run_144 (by decide) gg_65 (Nat.le_of_ble_eq_true rfl) rfl ?_
      refine jx_iinc (lv1 := [_, _, _, _, _]) C dX11_run_147 rfl (nI_1 t) rfl ?_
      refine jx_goto (tgt := 35) C dX11_run_150 (by decide) ?_
      exact hh _
    · by_cases hb1 : (I 65 13 >>> (mrnI (t % co2) I U 65 14 &&& 31) &&& 1) = 1
      · have hh := hit (fun q => by have q2 := q.2; rw [hb1] at q2; exact absurd q2 (by decide))
        refine jx_iload_n C dX11_run_35 rfl ?_
        refine jx_iload_n C dX11_run_36 rfl ?_
        refine jx_ic_geF (tgt := 153) C dX11_run_37 (nI_ge (by omega) (by omega)) (by decide) ?_
        refine jx_iload_n C dX11_run_40 rfl ?_
        refine jx_if_eqF (tgt := 153) C dX11_run_41 (by decide) (by decide) ?_
        refine jx_iconst (v := 5) C dX11_run_44 (by decide) ?_
        refine jx_iload_n C dX11_run_45 rfl ?_
        refine jx_aload_n C dX11_run_46 rfl ?_
        refine jx_get C fl_11_126_10 dX11_run_47 (by decide) gg_65 rfl ?_
        rw [hc]
        refine jx_irem C dX11_run_50 (nI_ne0 (by omega) (by omega)) ?_
        rw [rem_co (by omega) (by omega) (by omega)]
        refine jx_imul C dX11_run_51 ?_
        rw [show (5 : Int32) * nI (t % co2) = nI (5 * (t % co2)) by rw [show (5 : Int32) = nI 5 from rfl, pk_mul]]
        refine jx_istore (lv1 := [_, _, _, _, _]) C dX11_run_52 (by decide) rfl ?_
        refine jx_aload_n C dX11_run_54 rfl ?_
        refine jx_aload_n C dX11_run_55 rfl ?_
        refine jx_get C fl_11_132_10 dX11_run_56 (by decide) gg_65 rfl ?_
        refine jx_aload_n C dX11_run_59 rfl ?_
        refine jx_aload_n C dX11_run_60 rfl ?_
        refine jx_get C fl_11_32_10 dX11_run_61 (by decide) gg_65 rfl ?_
        refine jx_iload C dX11_run_64 rfl ?_
        refine jx_iald (5 * (t % co2)) C dX11_run_66 (by decide) gg_73 rfl (by omega) (by decide) ?_
        refine jx_aload_n C dX11_run_67 rfl ?_
        refine jx_get C fl_11_32_10 dX11_run_68 (by decide) gg_65 rfl ?_
        refine jx_iload C dX11_run_71 rfl ?_
        refine jx_iconst (v := 1) C dX11_run_73 (by decide) ?_
        refine jx_iadd C dX11_run_74 ?_
        refine jx_iald (5 * (t % co2) + 1) C dX11_run_75 (by decide) gg_73 (ix5 (t % co2) 1) (by omega) (by decide) ?_
        refine jx_aload_n C dX11_run_76 rfl ?_
        refine jx_get C fl_11_32_10 dX11_run_77 (by decide) gg_65 rfl ?_
        refine jx_iload C dX11_run_80 rfl ?_
        refine jx_iconst (v := 2) C dX11_run_82 (by decide) ?_
        refine jx_iadd C dX11_run_83 ?_
        refine jx_iald (5 * (t % co2) + 2) C dX11_run_84 (by decide) gg_73 (ix5 (t % co2) 2) (by omega) (by decide) ?_
        refine jx_aload_n C dX11_run_85 rfl ?_
        refine jx_get C fl_11_32_10 dX11_run_86 (by decide) gg_65 rfl ?_
        refine jx_iload C dX11_run_89 rfl ?_
        refine jx_iconst (v := 3) C dX11_run_91 (by decide) ?_
        refine jx_iadd C dX11_run_92 ?_
        refine jx_iald (5 * (t % co2) + 3) C dX11_run_93 (by decide) gg_73 (ix5 (t % co2) 3) (by omega) (by decide) ?_
        refine jx_aload_n C dX11_run_94 rfl ?_
        refine jx_get C fl_11_32_10 dX11_run_95 (by decide) gg_65 rfl ?_
        refine jx_iload C dX11_run_98 rfl ?_
        refine jx_iconst (v := 4) C dX11_run_100 (by decide) ?_
        refine jx_iadd C dX11_run_101 ?_
        refine jx_iald (5 * (t % co2) + 4) C dX11_run_102 (by decide) gg_73 (ix5 (t % co2) 4) (by omega) (by decide) ?_
        rw [e0, e1, e2]
        refine jx_one C (jr_V C (c_11_done hk ha hb hs ok hN hU) vw_11_100 (by decide) gg_65 rfl rfl ⟨Nat.le_of_ble_eq_true rfl, Nat.le_of_ble_eq_true rfl⟩ ⟨Nat.le_of_ble_eq_true rfl, Nat.le_of_ble_eq_true rfl⟩ dX11_run_103 rfl (Nat.le_of_ble_eq_true rfl)) ?_
        rw [← eS]
        refine jx_iadd C dX11_run_106 ?_
        refine jx_putI C fp_11_132_10 dX11_run_107 (by decide) gg_65 (Nat.le_of_ble_eq_true rfl) rfl ?_
        change GJ _ _ _ _ _ _ _ _ _ _ _ _ _ _ _ _ (gg A K (mrnI (t % co2) I U) _ P) _ _ _ _ _
        refine jx_aload_n C dX11_run_110 rfl ?_
        refine jx_get C fl_11_42_10 dX11_run_111 (by decide) gg_65 rfl ?_
        refine jx_if_eqF (tgt := 132) C dX11_run_114 hf (by decide) ?_
        refine jx_aload_n C dX11_run_117 rfl ?_
        refine jx_get C fl_11_129_10 dX11_run_118 (by decide) gg_65 rfl ?_
        refine jx_aload_n C dX11_run_121 rfl ?_
        refine jx_get C fl_11_42_10 dX11_run_122 (by decide) gg_65 rfl ?_
        refine jx_ishr C dX11_run_125 ?_
        refine jx_iconst (v := 1) C dX11_run_126 (by decide) ?_
        refine jx_iand C dX11_run_127 ?_
        refine jx_iconst (v := 1) C dX11_run_128 (by decide) ?_
        rw [hI13]
        refine jx_ic_neF (tgt := 136) C dX11_run_129 hb1 (by decide) ?_
        refine jx_iconst (v := 1) C dX11_run_132 (by decide) ?_
        refine jx_goto (tgt := 137) C dX11_run_133 (by decide) ?_
        refine jx_istore_n (lv1 := [_, _, _, _, _]) C dX11_run_137 (by decide) rfl ?_
        refine jx_iload_n C dX11_run_138 rfl ?_
        refine jx_if_eqF (tgt := 150) C dX11_run_139 (by decide) (by decide) ?_
        refine jx_aload_n C dX11_run_142 rfl ?_
        refine jx_iconst (v := 0) C dX11_run_143 (by decide) ?_
        refine jx_putI C fp_11_42_10 dX11_run_144 (by decide) gg_65 (Nat.le_of_ble_eq_true rfl) rfl ?_
        refine jx_iinc (lv1 := [_, _, _, _, _]) C dX11_run_147 rfl (nI_1 t) rfl ?_
        refine jx_goto (tgt := 35) C dX11_run_150 (by decide) ?_
        exact hh _
      · have hz : endsBy (I 65 13) (mrnI (t % co2) I U 65 14) := ⟨hf, (bit1 _).resolve_right hb1⟩
        have er : mrn co2 (f + 1) t I U = (t, mrnI (t % co2) I U, (mrnS (t % co2) I U).2.2) := by rw [mrn, if_pos hz]
        rw [er] at h0
        refine jx_iload_n C dX11_run_35 rfl ?_
        refine jx_iload_n C dX11_run_36 rfl ?_
        refine jx_ic_geF (tgt := 153) C dX11_run_37 (nI_ge (by omega) (by omega)) (by decide) ?_
        refine jx_iload_n C dX11_run_40 rfl ?_
        refine jx_if_eqF (tgt := 153) C dX11_run_41 (by decide) (by decide) ?_
        refine jx_iconst (v := 5) C dX11_run_44 (by decide) ?_
        refine jx_iload_n C dX11_run_45 rfl ?_
        refine jx_aload_n C dX11_run_46 rfl ?_
        refine jx_get C fl_11_126_10 dX11_run_47 (by decide) gg_65 rfl ?_
        rw [hc]
        refine jx_irem C dX11_run_50 (nI_ne0 (by omega) (by omega)) ?_
        rw [rem_co (by omega) (by omega) (by omega)]
        refine jx_imul C dX11_run_51 ?_
        rw [show (5 : Int32) * nI (t % co2) = nI (5 * (t % co2)) by rw [show (5 : Int32) = nI 5 from rfl, pk_mul]]
        refine jx_istore (lv1 := [_, _, _, _, _]) C dX11_run_52 (by decide) rfl ?_
        refine jx_aload_n C dX11_run_54 rfl ?_
        refine jx_aload_n C dX11_run_55 rfl ?_
        refine jx_get C fl_11_132_10 dX11_run_56 (by decide) gg_65 rfl ?_
        refine jx_aload_n C dX11_run_59 rfl ?_
        refine jx_aload_n C dX11_run_60 rfl ?_
        refine jx_get C fl_11_32_10 dX11_run_61 (by decide) gg_65 rfl ?_
        refine jx_iload C dX11_run_64 rfl ?_
        refine jx_iald (5 * (t % co2)) C dX11_run_66 (by decide) gg_73 rfl (by omega) (by decide) ?_
        refine jx_aload_n C dX11_run_67 rfl ?_
        refine jx_get C fl_11_32_10 dX11_run_68 (by decide) gg_65 rfl ?_
        refine jx_iload C dX11_run_71 rfl ?_
        refine jx_iconst (v := 1) C dX11_run_73 (by decide) ?_
        refine jx_iadd C dX11_run_74 ?_
        refine jx_iald (5 * (t % co2) + 1) C dX11_run_75 (by decide) gg_73 (ix5 (t % co2) 1) (by omega) (by decide) ?_
        refine jx_aload_n C dX11_run_76 rfl ?_
        refine jx_get C fl_11_32_10 dX11_run_77 (by decide) gg_65 rfl ?_
        refine jx_iload C dX11_run_80 rfl ?_
        refine jx_iconst (v := 2) C dX11_run_82 (by decide) ?_
        refine jx_iadd C dX11_run_83 ?_
        refine jx_iald (5 * (t % co2) + 2) C dX11_run_84 (by decide) gg_73 (ix5 (t % co2) 2) (by omega) (by decide) ?_
        refine jx_aload_n C dX11_run_85 rfl ?_
        refine jx_get C fl_11_32_10 dX11_run_86 (by decide) gg_65 rfl ?_
        refine jx_iload C dX11_run_89 rfl ?_
        refine jx_iconst (v := 3) C dX11_run_91 (by decide) ?_
        refine jx_iadd C dX11_run_92 ?_
        refine jx_iald (5 * (t % co2) + 3) C dX11_run_93 (by decide) gg_73 (ix5 (t % co2) 3) (by omega) (by decide) ?_
        refine jx_aload_n C dX11_run_94 rfl ?_
        refine jx_get C fl_11_32_10 dX11_run_95 (by decide) gg_65 rfl ?_
        refine jx_iload C dX11_run_98 rfl ?_
        refine jx_iconst (v := 4) C dX11_run_100 (by decide) ?_
        refine jx_iadd C dX11_run_101 ?_
        refine jx_iald (5 * (t % co2) + 4) C dX11_run_102 (by decide) gg_73 (ix5 (t % co2) 4) (by omega) (by decide) ?_
        rw [e0, e1, e2]
        refine jx_one C (jr_V C (c_11_done hk ha hb hs ok hN hU) vw_11_100 (by decide) gg_65 rfl rfl ⟨Nat.le_of_ble_eq_true rfl, Nat.le_of_ble_eq_true rfl⟩ ⟨Nat.le_of_ble_eq_true rfl, Nat.le_of_ble_eq_true rfl⟩ dX11_run_103 rfl (Nat.le_of_ble_eq_true rfl)) ?_
        rw [← eS]
        refine jx_iadd C dX11_run_106 ?_
        refine jx_putI C fp_11_132_10 dX11_run_107 (by decide) gg_65 (Nat.le_of_ble_eq_true rfl) rfl ?_
        change GJ _ _ _ _ _ _ _ _ _ _ _ _ _ _ _ _ (gg A K (mrnI (t % co2) I U) _ P) _ _ _ _ _
        refine jx_aload_n C dX11_run_110 rfl ?_
        refine jx_get C fl_11_42_10 dX11_run_111 (by decide) gg_65 rfl ?_
        refine jx_if_eqF (tgt := 132) C dX11_run_114 hf (by decide) ?_
        refine jx_aload_n C dX11_run_117 rfl ?_
        refine jx_get C fl_11_129_10 dX11_run_118 (by decide) gg_65 rfl ?_
        refine jx_aload_n C dX11_run_121 rfl ?_
        refine jx_get C fl_11_42_10 dX11_run_122 (by decide) gg_65 rfl ?_
        refine jx_ishr C dX11_run_125 ?_
        refine jx_iconst (v := 1) C dX11_run_126 (by decide) ?_
        refine jx_iand C dX11_run_127 ?_
        refine jx_iconst (v := 1) C dX11_run_128 (by decide) ?_
        rw [hI13]
        refine jx_ic_neT (tgt := 136) C dX11_run_129 (by decide) hb1 ?_
        refine jx_iconst (v := 0) C dX11_run_136 (by decide) ?_
        refine jx_istore_n (lv1 := [_, _, _, _, _]) C dX11_run_137 (by decide) rfl ?_
        refine jx_iload_n C dX11_run_138 rfl ?_
        refine jx_if_eqT (tgt := 150) C dX11_run_139 (by decide) (by decide) ?_
        refine jx_goto (tgt := 35) C dX11_run_150 (by decide) ?_
        refine jx_iload_n C dX11_run_35 rfl ?_
        refine jx_iload_n C dX11_run_36 rfl ?_
        refine jx_ic_geF (tgt := 153) C dX11_run_37 (nI_ge (by omega) (by omega)) (by decide) ?_
        refine jx_iload_n C dX11_run_40 rfl ?_
        refine jx_if_eqT (tgt := 153) C dX11_run_41 (by decide) (by decide) ?_
        refine jx_iload_n C dX11_run_153 rfl ?_
        exact jx_iret C dX11_run_154 h0
set_option maxRecDepth 100000 in
set_option maxHeartbeats 4000000 in
theorem c_11_runX1 {l : Launch} {D : va_G} {K : Nat → ClassId} {A : Nat → Nat} {I : TI} {U : TU} {P : TP} {x : Int32} (h : x < 1) : MM l yX11_run cX11_run 5 (some .int) 6 D K A (I) (U) (P) [.ref (A 65), .int x] (XE (some (.int ((-2147483648)))) (I) (U) (P)) := by
  refine MM.go (own := RX11) (lv0 := [some (.ref (A 65)), some (.int x), none, none, none]) rfl (by decide) rfl (Nat.le_of_ble_eq_true rfl) rfl ?_
  intro p e s m args below meth c C
  refine jx_iload_n C dX11_run_0 rfl ?_
  refine jx_iconst (v := 1) C dX11_run_1 (by decide) ?_
  refine jx_ic_ltT (tgt := 18) C dX11_run_2 (by decide) h ?_
  refine jx_ldc C dX11_run_18 qw_633 ?_
  exact jx_iret C dX11_run_20 ⟨rfl, rfl, rfl, rfl⟩
set_option maxRecDepth 100000 in
set_option maxHeartbeats 4000000 in
theorem c_11_runX2 {l : Launch} {D : va_G} {K : Nat → ClassId} {A : Nat → Nat} {I : TI} {U : TU} {P : TP} {x : Int32} (h : ¬ x < 1) (h2 : 12 < x) : MM l yX11_run cX11_run 5 (some .int) 6 D K A (I) (U) (P) [.ref (A 65), .int x] (XE (some (.int ((-2147483648)))) (I) (U) (P)) := by
  refine MM.go (own := RX11) (lv0 := [some (.ref (A 65)), some (.int x), none, none, none]) rfl (by decide) rfl (Nat.le_of_ble_eq_true rfl) rfl ?_
  intro p e s m args below meth c C
  refine jx_iload_n C dX11_run_0 rfl ?_
  refine jx_iconst (v := 1) C dX11_run_1 (by decide) ?_
  refine jx_ic_ltF (tgt := 18) C dX11_run_2 h (by decide) ?_
  refine jx_iload_n C dX11_run_5 rfl ?_
  refine jx_bipush (v := 12) C dX11_run_6 (by decide) ?_
  refine jx_ic_gtT (tgt := 18) C dX11_run_8 (by decide) h2 ?_
  refine jx_ldc C dX11_run_18 qw_633 ?_
  exact jx_iret C dX11_run_20 ⟨rfl, rfl, rfl, rfl⟩
set_option maxRecDepth 100000 in
set_option maxHeartbeats 4000000 in
theorem c_11_runX3 {l : Launch} {D : va_G} {K : Nat → ClassId} {A : Nat → Nat} {I : TI} {U : TU} {P : TP} {x : Int32} (h : ¬ x < 1) (h2 : ¬ 12 < x) (h3 : I 65 12 = 0) : MM l yX11_run cX11_run 5 (some .int) 6 D K A (I) (U) (P) [.ref (A 65), .int x] (XE (some (.int ((-2147483648)))) (I) (U) (P)) := by
  refine MM.go (own := RX11) (lv0 := [some (.ref (A 65)), some (.int x), none, none, none]) rfl (by decide) rfl (Nat.le_of_ble_eq_true rfl) rfl ?_
  intro p e s m args below meth c C
  refine jx_iload_n C dX11_run_0 rfl ?_
  refine jx_iconst (v := 1) C dX11_run_1 (by decide) ?_
  refine jx_ic_ltF (tgt := 18) C dX11_run_2 h (by decide) ?_
  refine jx_iload_n C dX11_run_5 rfl ?_
  refine jx_bipush (v := 12) C dX11_run_6 (by decide) ?_
  refine jx_ic_gtF (tgt := 18) C dX11_run_8 h2 (by decide) ?_
  refine jx_aload_n C dX11_run_11 rfl ?_
  refine jx_get C fl_11_126_10 dX11_run_12 (by decide) gg_65 rfl ?_
  refine jx_if_neF (tgt := 21) C dX11_run_15 h3 (by decide) ?_
  refine jx_ldc C dX11_run_18 qw_633 ?_
  exact jx_iret C dX11_run_20 ⟨rfl, rfl, rfl, rfl⟩
set_option maxRecDepth 100000 in
set_option maxHeartbeats 4000000 in
theorem c_11_run {l : Launch} {D : va_G} {K : Nat → ClassId} {A : Nat → Nat} {I : TI} {U : TU} {P : TP} {n co : Nat} (h1 : 1 ≤ n) (hn : n ≤ 12) (hco : 0 < co) (h12 : co ≤ 12) (hc : I 65 12 = nI co) (hs : mokS I) (ok : okR I) (hN : mokN I) (hU : mokU U) (hd : mokD I) : MM l yX11_run cX11_run 5 (some .int) 6 D K A (I) (U) (P) [.ref (A 65), .int (nI n)] (XE (some (.int (nI (mrn co n 0 (up2 (up2 I 65 16 0) 65 14 0) U).1))) (mrn co n 0 (up2 (up2 I 65 16 0) 65 14 0) U).2.1 (mrn co n 0 (up2 (up2 I 65 16 0) 65 14 0) U).2.2 P) := by
  refine MM.go (own := RX11) (lv0 := [some (.ref (A 65)), some (.int (nI n)), none, none, none]) rfl (by decide) rfl (Nat.le_of_ble_eq_true rfl) rfl ?_
  intro p e s m args below meth c C
  refine jx_iload_n C dX11_run_0 rfl ?_
  refine jx_iconst (v := 1) C dX11_run_1 (by decide) ?_
  refine jx_ic_ltF (tgt := 18) C dX11_run_2 (nI_nlt (a := n) (b := 1) h1 (by omega)) (by decide) ?_
  refine jx_iload_n C dX11_run_5 rfl ?_
  refine jx_bipush (v := 12) C dX11_run_6 (by decide) ?_
  refine jx_ic_gtF (tgt := 18) C dX11_run_8 (nI_nlt (a := 12) hn (by decide)) (by decide) ?_
  refine jx_aload_n C dX11_run_11 rfl ?_
  refine jx_get C fl_11_126_10 dX11_run_12 (by decide) gg_65 rfl ?_
  rw [hc]
  refine jx_if_neT (tgt := 21) C dX11_run_15 (by decide) (nI_ne0 hco (by omega)) ?_
  refine jx_aload_n C dX11_run_21 rfl ?_
  refine jx_iconst (v := 0) C dX11_run_22 (by decide) ?_
  refine jx_putI C fp_11_132_10 dX11_run_23 (by decide) gg_65 (Nat.le_of_ble_eq_true rfl) rfl ?_
  refine jx_iconst (v := 0) C dX11_run_26 (by decide) ?_
  refine jx_istore_n (lv1 := [_, _, _, _, _]) C dX11_run_27 (by decide) rfl ?_
  refine jx_aload_n C dX11_run_28 rfl ?_
  refine jx_iconst (v := 0) C dX11_run_29 (by decide) ?_
  refine jx_putI C fp_11_42_10 dX11_run_30 (by decide) gg_65 (Nat.le_of_ble_eq_true rfl) rfl ?_
  refine jx_iconst (v := 1) C dX11_run_33 (by decide) ?_
  refine jx_istore_n (lv1 := [_, _, _, _, _]) C dX11_run_34 (by decide) rfl ?_
  refine lp_11_run C hco h12 hn n 0 (up2 (up2 I 65 16 0) 65 14 0) U (by omega) (mokS_same hs (by rw [up2_ne (by omega), up2_ne (by omega)])) (okR_same ok (fun y => by rw [up2_ne (by omega), up2_ne (by omega)])) (fun r hr => by rw [up2_ne (by omega), up2_ne (by omega)]; exact hN r hr) hU ?_ (by rw [up2_ne (by omega), up2_ne (by omega)]; exact hc) ⟨rfl, rfl, rfl, rfl⟩ none
  obtain ⟨co2, q1, q2, q3⟩ := hd
  refine ⟨co2, q1, by rw [up2_ne (by omega), up2_ne (by omega)]; exact q2, fun j hj => ?_⟩
  obtain ⟨kd, a, b, z1, z2, z3, z4, z5, z6⟩ := q3 j hj
  exact ⟨kd, a, b, z1, z2, z3, by rw [up2_ne (by omega), up2_ne (by omega)]; exact z4, by rw [up2_ne (by omega), up2_ne (by omega)]; exact z5, by rw [up2_ne (by omega), up2_ne (by omega)]; exact z6⟩
