/-! the law: its loop, its start -/
theorem tsw (x : Int32) : (x.toInt < 0 ∨ 16 < x.toInt) ∨ ∃ c : Nat, c ≤ 16 ∧ x = nI c := by
  by_cases h : x.toInt < 0 ∨ 16 < x.toInt
  · exact Or.inl h
  · refine Or.inr ⟨x.toInt.toNat, by omega, Int32.toInt_inj.mp ?_⟩
    rw [nI_toInt (by omega)]
    omega
theorem lim6 {L i : Nat} (hL : L ≤ 3072) (hi : i ≤ 4000) (h : ¬ nI L - 6 < nI i) : i + 6 ≤ L := by
  by_cases h6 : 6 ≤ L
  · have e : nI L - 6 = nI (L - 6) := by
      rw [show nI L = nI (L - 6) + 6 from by rw [show (6 : Int32) = nI 6 from rfl, nI_add]; congr 1; omega]
      exact Int32.add_sub_cancel _ _
    rw [e, nI_ltI (by omega) (by omega)] at h
    omega
  · refine absurd (Int32.lt_of_lt_of_le (?_ : nI L - 6 < 0) (nI_pos' (by omega))) h
    rcases (show L = 0 ∨ L = 1 ∨ L = 2 ∨ L = 3 ∨ L = 4 ∨ L = 5 by omega) with rfl | rfl | rfl | rfl | rfl | rfl <;> decide +kernel
set_option maxRecDepth 100000 in
set_option maxHeartbeats 4000000 in
theorem lp_law {p : Program} {l : Launch} {e : Env} {s : State} {m : MethodId} {below : List Frame} {meth : Method} {c : Code} {D : va_G} {K : Nat → ClassId} {A : Nat → Nat} {b L : Nat} {xs : Nat → Int32} (C : CX p s m #[Value.ref b] meth c RL code 4 ret D K (AL s)) (hX : va_X b L xs s s.heap) (hb : b < s.heap.size) (hL : L ≤ 3072) : ∀ (f i : Nat) (I : TI) (U : TU) (P : TP), L ≤ i + 6 * f → i ≤ 4000 → RA I U P → GJ p l e room_1 s m #[Value.ref b] below meth c 4 D (AL s) (lw_Z below #[Value.ref b] s) 75 A (gg A K I U P) 75 2996 18 [some (.ref b), some (.ref (A 0)), some (.ref (A 65)), some (.int (nI i))] [] := by
  intro f
  induction f with
  | zero =>
    intro i I U P hf h4 h
    refine jx_iload_n C dL_law_18 rfl ?_
    refine jx_aload_n C dL_law_19 rfl ?_
    refine jx_slen C hX hb dL_law_20 ?_
    refine jx_bipush (v := 6) C dL_law_21 (by decide) ?_
    refine jx_isub C dL_law_23 ?_
    refine jx_ic_gt (tgt := 723) C dL_law_24 (by decide) (fun _ => ?_) (fun hn => ?_)
    · refine jx_iconst (v := 1) C dL_law_723 (by decide) ?_
      exact jx_lawret C (Nat.le_of_ble_eq_true rfl) (Nat.le_of_ble_eq_true rfl) dL_law_724
    · have := lim6 hL h4 hn
      omega
  | succ f ih =>
    intro i I U P hf h4 h
    refine jx_iload_n C dL_law_18 rfl ?_
    refine jx_aload_n C dL_law_19 rfl ?_
    refine jx_slen C hX hb dL_law_20 ?_
    refine jx_bipush (v := 6) C dL_law_21 (by decide) ?_
    refine jx_isub C dL_law_23 ?_
    refine jx_ic_gt (tgt := 723) C dL_law_24 (by decide) (fun _ => ?_) (fun hn => ?_)
    · refine jx_iconst (v := 1) C dL_law_723 (by decide) ?_
      exact jx_lawret C (Nat.le_of_ble_eq_true rfl) (Nat.le_of_ble_eq_true rfl) dL_law_724
    · have hi := lim6 hL h4 hn
      have kk : ∀ (I' : TI) (U' : TU) (P' : TP), RA I' U' P' → GJ p l e room_1 s m #[Value.ref b] below meth c 4 D (AL s) (lw_Z below #[Value.ref b] s) 75 A (gg A K I' U' P') 75 2996 717 [some (.ref b), some (.ref (A 0)), some (.ref (A 65)), some (.int (nI i))] [] := by
        intro I' U' P' h'
        refine jx_iinc (lv1 := [_, _, _, _]) C dL_law_717 rfl (nI_add i 6) rfl ?_
        refine jx_goto (tgt := 18) C dL_law_720 (by decide) ?_
        exact ih (i + 6) I' U' P' (by omega) (by omega) h'
      refine jx_aload_n C dL_law_27 rfl ?_
      refine jx_iload_n C dL_law_28 rfl ?_
      refine jx_sld i C hX hb hL dL_law_29 rfl (by omega) ?_
      refine jx_bipush (v := 31) C dL_law_30 (by decide) ?_
      refine jx_iand C dL_law_32 ?_
      rcases tsw (xs i &&& 31) with ht | ⟨c0, hc, hx⟩
      · exact jx_tableOut (tgt := 717) C dL_law_33 ht (by decide) (kk _ _ _ h)
      · rw [hx]
        rcases (show c0 = 0 ∨ c0 = 1 ∨ c0 = 2 ∨ c0 = 3 ∨ c0 = 4 ∨ c0 = 5 ∨ c0 = 6 ∨ c0 = 7 ∨ c0 = 8 ∨ c0 = 9 ∨ c0 = 10 ∨ c0 = 11 ∨ c0 = 12 ∨ c0 = 13 ∨ c0 = 14 ∨ c0 = 15 ∨ c0 = 16 by omega) with rfl | rfl | rfl | rfl | rfl | rfl | rfl | rfl | rfl | rfl | rfl | rfl | rfl | rfl | rfl | rfl | rfl
        · exact jx_tableIn (off := 83) (tgt := 116) C dL_law_33 (by decide +kernel) (by decide +kernel) (by decide +kernel) (by decide) (lc_thread C hX hb hL hi h kk)
        · exact jx_tableIn (off := 126) (tgt := 159) C dL_law_33 (by decide +kernel) (by decide +kernel) (by decide +kernel) (by decide) (lc_cut C hX hb hL hi h kk)
        · exact jx_tableIn (off := 159) (tgt := 192) C dL_law_33 (by decide +kernel) (by decide +kernel) (by decide +kernel) (by decide) (lc_tie C hX hb hL hi h kk)
        · exact jx_tableIn (off := 202) (tgt := 235) C dL_law_33 (by decide +kernel) (by decide +kernel) (by decide +kernel) (by decide) (lc_ends C hX hb hL hi h kk)
        · exact jx_tableIn (off := 235) (tgt := 268) C dL_law_33 (by decide +kernel) (by decide +kernel) (by decide +kernel) (by decide) (lc_spool C hX hb hL hi h kk)
        · exact jx_tableIn (off := 258) (tgt := 291) C dL_law_33 (by decide +kernel) (by decide +kernel) (by decide +kernel) (by decide) (lc_act C hX hb hL hi h kk)
        · exact jx_tableIn (off := 321) (tgt := 354) C dL_law_33 (by decide +kernel) (by decide +kernel) (by decide +kernel) (by decide) (lc_swap C hX hb hL hi h kk)
        · exact jx_tableIn (off := 374) (tgt := 407) C dL_law_33 (by decide +kernel) (by decide +kernel) (by decide +kernel) (by decide) (lc_cloth C hX hb hL hi h kk)
        · exact jx_tableIn (off := 407) (tgt := 440) C dL_law_33 (by decide +kernel) (by decide +kernel) (by decide +kernel) (by decide) (lc_snip C hX hb hL hi h kk)
        · exact jx_tableIn (off := 430) (tgt := 463) C dL_law_33 (by decide +kernel) (by decide +kernel) (by decide +kernel) (by decide) (lc_hang C hX hb hL hi h kk)
        · exact jx_tableIn (off := 463) (tgt := 496) C dL_law_33 (by decide +kernel) (by decide +kernel) (by decide +kernel) (by decide) (lc_cell C hX hb hL hi h kk)
        · exact jx_tableIn (off := 496) (tgt := 529) C dL_law_33 (by decide +kernel) (by decide +kernel) (by decide +kernel) (by decide) (lc_weave C hX hb hL hi h kk)
        · exact jx_tableIn (off := 539) (tgt := 572) C dL_law_33 (by decide +kernel) (by decide +kernel) (by decide +kernel) (by decide) (lc_card C hX hb hL hi h kk)
        · exact jx_tableIn (off := 602) (tgt := 635) C dL_law_33 (by decide +kernel) (by decide +kernel) (by decide +kernel) (by decide) (lc_unhook C hX hb hL hi h kk)
        · exact jx_tableIn (off := 615) (tgt := 648) C dL_law_33 (by decide +kernel) (by decide +kernel) (by decide +kernel) (by decide) (lc_keeper C hX hb hL hi h kk)
        · exact jx_tableIn (off := 638) (tgt := 671) C dL_law_33 (by decide +kernel) (by decide +kernel) (by decide +kernel) (by decide) (lc_run C hX hb hL hi h kk)
        · exact jx_tableIn (off := 661) (tgt := 694) C dL_law_33 (by decide +kernel) (by decide +kernel) (by decide +kernel) (by decide) (lc_told C hX hb hL hi h kk)
set_option maxRecDepth 100000 in
set_option maxHeartbeats 4000000 in
/-- YOUR PART: from the entry, for every script of at most 3072 ints, the law comes to its end with true -/
theorem whole_start {p : Program} {e : Env} {s : State} {m : MethodId} {below : List Frame} {meth : Method} {c : Code} (l : Launch) {b L : Nat} {xs : Nat → Int32} (hL : L ≤ 3072) (C0 : lw_At p s m meth c b L xs) : W p l e room_1 s m #[Value.ref b] below meth c s.heap [] 0 0 (lw_Z below #[Value.ref b] s) (entryFrame m ([Value.ref b] : List Value).toArray 4) := by
  obtain ⟨hx, hcb, hr, hml, hown, hts, hX, hbl, hlk, -⟩ := C0
  have hall : ∀ w ∈ lw_all, w.before #[Value.ref b] s = true := fun w hw => hts w (lw_all_tbl hw)
  have hNW : NW s := by
    intro w hw
    have h1 := hts w (nw_tbl w hw)
    simp only [nw_l, List.mem_cons, List.not_mem_nil, or_false] at hw
    rcases hw with rfl | rfl | rfl | rfl | rfl | rfl | rfl | rfl | rfl | rfl | rfl | rfl | rfl | rfl | rfl | rfl | rfl | rfl | rfl | rfl | rfl | rfl | rfl | rfl | rfl | rfl | rfl | rfl | rfl | rfl | rfl
    all_goals first | exact va_Nw.of rfl h1 | exact va_AO.of h1
  obtain ⟨D, K, hK⟩ := law_K hall hNW
  have C : CX p s m #[Value.ref b] meth c RL code 4 ret D K (AL s) := ⟨hx, hcb, hml, hown, hall, hr, hlk, hK, hNW, fun q h => h⟩
  have J : GJ p l e room_1 s m #[Value.ref b] below meth c 4 D (AL s) (lw_Z below #[Value.ref b] s) 0 (fun _ => 0) (fun _ => .inr (0, [])) 0 0 0 [some (.ref b), none, none, none] [] := by
    refine jx_new C nwd_L_7 dL_law_0 (Nat.le_of_ble_eq_true rfl) (Nat.le_of_ble_eq_true rfl) ?_
    intro A1 h1
    refine jx_dup C dL_law_3 rfl ?_
    refine jx_ini (As := []) C (i_10 va_up_at) iw_L_9 (by omega) rfl ⟨(Nat.le_of_ble_eq_true rfl), (Nat.le_of_ble_eq_true rfl)⟩ ⟨(Nat.le_of_ble_eq_true rfl), (Nat.le_of_ble_eq_true rfl)⟩ dL_law_4 rfl (Nat.le_of_ble_eq_true rfl) ?_
    rintro v A2 g2 h2 ⟨rfl, -, b2⟩
    rw [← h2 0 (by omega)]
    refine jx_astore_n (lv1 := [_, _, _, _]) C dL_law_7 (by decide) rfl ?_
    refine jx_new C nwd_L_10 dL_law_8 (Nat.le_of_ble_eq_true rfl) (Nat.le_of_ble_eq_true rfl) ?_
    intro A3 h3
    rw [← h3 0 (by omega)]
    refine jx_dup C dL_law_11 rfl ?_
    refine jx_ini (As := []) C (i_11 va_up_at) iw_L_12 (by omega) rfl ⟨(Nat.le_of_ble_eq_true rfl), (Nat.le_of_ble_eq_true rfl)⟩ ⟨(Nat.le_of_ble_eq_true rfl), (Nat.le_of_ble_eq_true rfl)⟩ dL_law_12 rfl (Nat.le_of_ble_eq_true rfl) ?_
    rintro v A4 g4 h4 ⟨rfl, p4, b4⟩
    rw [← h4 0 (by omega), ← h4 65 (by omega)]
    refine jx_astore_n (lv1 := [_, _, _, _]) C dL_law_15 (by decide) rfl ?_
    refine jx_iconst (v := nI 0) C dL_law_16 (by decide) ?_
    refine jx_istore_n (lv1 := [_, _, _, _]) C dL_law_17 (by decide) rfl ?_
    have hAA : ∀ j, j < 65 → A4 j = A2 j := fun j hj => by rw [h4 j (by omega), h3 j (by omega)]
    have hg : ∀ i, i < 75 → g4 i = g0 K A4 i := by
      intro i hi
      by_cases q : 65 ≤ i
      · exact b4 i q hi
      · rw [p4 i (by omega), upn (by omega), b2 i (by omega) (by omega)]
        by_cases q0 : i = 0
        · subst q0
          show (.inr (9, [.ref (A2 1), .ref (A2 44), .ref (A2 46), .ref (A2 49), .ref (A2 63), .int 0, .int 0, .int 0]) : va_E) = .inr (9, [.ref (A4 1), .ref (A4 44), .ref (A4 46), .ref (A4 49), .ref (A4 63), .int 0, .int 0, .int 0])
          rw [hAA 1 (by omega), hAA 44 (by omega), hAA 46 (by omega), hAA 49 (by omega), hAA 63 (by omega)]
        · exact (g0_st (M := 65) (by omega) (by omega) (by omega) hAA).symm
    refine jx_cong (g1 := gg A4 K I0 U0 P0) (fun i hi => ?_) (lp_law C hX hbl hL 512 0 I0 U0 P0 (by omega) (by omega) RA_0)
    rw [hg i hi]
    by_cases q2 : i = 2
    · subst q2
      exact Or.inr ⟨K 3, 20, _, _, rfl, rfl, fun j hj => if_pos hj⟩
    · by_cases q5 : i = 50
      · subst q5
        exact Or.inr ⟨K 4, 12, _, _, rfl, rfl, fun j hj => if_pos hj⟩
      · exact Or.inl (g0_g q2 q5)
  rw [lg_entry_eq]
  exact J s.heap [] _ (fun k q h => by simp [wl] at h) ⟨fun i j x y h => by simp [wl] at h, fun k q h => by simp [wl] at h⟩ va_S.rf (lh_entry [.ref b] 4 (fun v hv => by rw [List.mem_singleton.mp hv]; rfl) (Nat.le_of_ble_eq_true rfl))
