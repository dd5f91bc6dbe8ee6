theorem fpf_10_10_9 : FPF RX10 10 9 0 (.object "HandLoom$Warp") := ⟨RX10, TX10, 8, rfl, by decide, uws_9, qw_180, rfl, rfl, by decide +kernel, ⟨tyX10, tyX10_ok⟩, nmX10⟩
theorem fpf_10_19_9 : FPF RX10 19 9 1 (.object "HandLoom$Spool") := ⟨RX10, TX10, 8, rfl, by decide, uws_9, qw_181, rfl, rfl, by decide +kernel, ⟨tyX10, tyX10_ok⟩, nmX10⟩
theorem fpf_10_26_9 : FPF RX10 26 9 2 (.object "HandLoom$Cloth") := ⟨RX10, TX10, 8, rfl, by decide, uws_9, qw_182, rfl, rfl, by decide +kernel, ⟨tyX10, tyX10_ok⟩, nmX10⟩
theorem fpf_10_33_9 : FPF RX10 33 9 3 (.object "HandLoom$Deck") := ⟨RX10, TX10, 8, rfl, by decide, uws_9, qw_183, rfl, rfl, by decide +kernel, ⟨tyX10, tyX10_ok⟩, nmX10⟩
theorem fpf_10_40_9 : FPF RX10 40 9 4 (.object "HandLoom$Ledger") := ⟨RX10, TX10, 8, rfl, by decide, uws_9, qw_184, rfl, rfl, by decide +kernel, ⟨tyX10, tyX10_ok⟩, nmX10⟩
theorem fpf_1_9_1 : FPF RX1 9 1 0 (.array .int) := ⟨RX1, TX1, 5, rfl, by decide, uws_1, qw_105, rfl, rfl, by decide +kernel, ⟨tyX1, tyX1_ok⟩, nmX1⟩
theorem fpf_1_15_1 : FPF RX1 15 1 1 (.array .int) := ⟨RX1, TX1, 5, rfl, by decide, uws_1, qw_106, rfl, rfl, by decide +kernel, ⟨tyX1, tyX1_ok⟩, nmX1⟩
theorem fpf_2_11_2 : FPF RX2 11 2 0 (.array (.object "HandLoom$Card")) := ⟨RX2, TX2, 2, rfl, by decide, uws_2, qw_160, rfl, rfl, by decide +kernel, ⟨tyX2, tyX2_ok⟩, nmX2⟩
theorem fpf_4_9_3 : FPF RX4 9 3 0 (.array .int) := ⟨RX4, TX4, 2, rfl, by decide, uws_3, qw_173, rfl, rfl, by decide +kernel, ⟨tyX4, tyX4_ok⟩, nmX4⟩
theorem fpf_5_9_4 : FPF RX5 9 4 1 (.array .boolean) := ⟨RX5, TX5, 2, rfl, by decide, uws_4, qw_55, rfl, rfl, by decide +kernel, ⟨tyX5, tyX5_ok⟩, nmX5⟩
theorem fpf_6_9_5 : FPF RX6 9 5 0 (.array .int) := ⟨RX6, TX6, 3, rfl, by decide, uws_5, qw_89, rfl, rfl, by decide +kernel, ⟨tyX6, tyX6_ok⟩, nmX6⟩
theorem fpf_7_9_6 : FPF RX7 9 6 1 (.array .float) := ⟨RX7, TX7, 2, rfl, by decide, uws_6, qw_41, rfl, rfl, by decide +kernel, ⟨tyX7, tyX7_ok⟩, nmX7⟩
theorem fpf_8_11_7 : FPF RX8 11 7 0 (.array (.object "HandLoom$Lane")) := ⟨RX8, TX8, 2, rfl, by decide, uws_7, qw_76, rfl, rfl, by decide +kernel, ⟨tyX8, tyX8_ok⟩, nmX8⟩
theorem fpf_8_17_7 : FPF RX8 17 7 1 (.array (.object "HandLoom$Lane")) := ⟨RX8, TX8, 2, rfl, by decide, uws_7, qw_77, rfl, rfl, by decide +kernel, ⟨tyX8, tyX8_ok⟩, nmX8⟩
theorem fpf_9_9_8 : FPF RX9 9 8 2 (.array .int) := ⟨RX9, TX9, 3, rfl, by decide, uws_8, qw_68, rfl, rfl, by decide +kernel, ⟨tyX9, tyX9_ok⟩, nmX9⟩
theorem fpf_9_15_8 : FPF RX9 15 8 1 .int := ⟨RX9, TX9, 3, rfl, by decide, uws_8, qw_67, rfl, rfl, by decide +kernel, ⟨tyX9, tyX9_ok⟩, nmX9⟩
theorem fpf_11_7_10 : FPF RX11 7 10 0 (.array .int) := ⟨RX11, TX11, 18, rfl, by decide, uws_10, qw_568, rfl, rfl, by decide +kernel, ⟨tyX11, tyX11_ok⟩, nmX11⟩
theorem fpf_11_13_10 : FPF RX11 13 10 1 (.array .int) := ⟨RX11, TX11, 18, rfl, by decide, uws_10, qw_569, rfl, rfl, by decide +kernel, ⟨tyX11, tyX11_ok⟩, nmX11⟩
theorem fpf_11_16_10 : FPF RX11 16 10 2 (.array .int) := ⟨RX11, TX11, 18, rfl, by decide, uws_10, qw_570, rfl, rfl, by decide +kernel, ⟨tyX11, tyX11_ok⟩, nmX11⟩
theorem fpf_11_19_10 : FPF RX11 19 10 3 (.array .float) := ⟨RX11, TX11, 18, rfl, by decide, uws_10, qw_571, rfl, rfl, by decide +kernel, ⟨tyX11, tyX11_ok⟩, nmX11⟩
theorem fpf_11_23_10 : FPF RX11 23 10 4 (.array .int) := ⟨RX11, TX11, 18, rfl, by decide, uws_10, qw_572, rfl, rfl, by decide +kernel, ⟨tyX11, tyX11_ok⟩, nmX11⟩
theorem fpf_11_26_10 : FPF RX11 26 10 9 (.array .int) := ⟨RX11, TX11, 18, rfl, by decide, uws_10, qw_577, rfl, rfl, by decide +kernel, ⟨tyX11, tyX11_ok⟩, nmX11⟩
theorem fpf_11_29_10 : FPF RX11 29 10 10 (.array .int) := ⟨RX11, TX11, 18, rfl, by decide, uws_10, qw_578, rfl, rfl, by decide +kernel, ⟨tyX11, tyX11_ok⟩, nmX11⟩
theorem fpf_11_32_10 : FPF RX11 32 10 11 (.array .int) := ⟨RX11, TX11, 18, rfl, by decide, uws_10, qw_579, rfl, rfl, by decide +kernel, ⟨tyX11, tyX11_ok⟩, nmX11⟩
theorem fpf_11_35_10 : FPF RX11 35 10 15 (.array .int) := ⟨RX11, TX11, 18, rfl, by decide, uws_10, qw_583, rfl, rfl, by decide +kernel, ⟨tyX11, tyX11_ok⟩, nmX11⟩
theorem nwd_10_7 : NWd RX10 7 7 2 [.null, .null] := ⟨RX8, TX8, rfl, uws_7, qw_21, qw_22, qw_2, tyX8, tyX8_ok, by decide +kernel⟩
theorem nwd_10_16 : NWd RX10 16 5 3 [.null, .int 0, .int 0] := ⟨RX6, TX6, rfl, uws_5, qw_83, qw_84, qw_7, tyX6, tyX6_ok, by decide +kernel⟩
theorem nwd_10_23 : NWd RX10 23 1 5 [.null, .null, .int 0, .int 0, .int 0] := ⟨RX1, TX1, rfl, uws_1, qw_99, qw_100, qw_8, tyX1, tyX1_ok, by decide +kernel⟩
theorem nwd_10_30 : NWd RX10 30 2 2 [.null, .int 0] := ⟨RX2, TX2, rfl, uws_2, qw_121, qw_122, qw_9, tyX2, tyX2_ok, by decide +kernel⟩
theorem nwd_10_37 : NWd RX10 37 3 2 [.null, .int 0] := ⟨RX4, TX4, rfl, uws_3, qw_167, qw_168, qw_11, tyX4, tyX4_ok, by decide +kernel⟩
theorem nwd_2_9 : NWd RX2 9 0 5 [.int 0, .int 0, .int 0, .int 0, .int 0] := ⟨RX0, TX0, rfl, uws_0, qw_127, qw_129, qw_10, tyX0, tyX0_ok, by decide +kernel⟩
theorem nwd_8_24 : NWd RX8 24 6 2 [.int 0, .null] := ⟨RX7, TX7, rfl, uws_6, qw_32, qw_33, qw_4, tyX7, tyX7_ok, by decide +kernel⟩
theorem nwd_8_27 : NWd RX8 27 4 2 [.int 0, .null] := ⟨RX5, TX5, rfl, uws_4, qw_49, qw_50, qw_5, tyX5, tyX5_ok, by decide +kernel⟩
theorem nwd_8_30 : NWd RX8 30 8 3 [.int 0, .int 0, .null] := ⟨RX9, TX9, rfl, uws_8, qw_61, qw_62, qw_6, tyX9, tyX9_ok, by decide +kernel⟩
theorem nwd_L_7 : NWd RL 7 9 8 [.null, .null, .null, .null, .null, .int 0, .int 0, .int 0] := ⟨RX10, TX10, rfl, uws_9, qw_13, qw_14, qw_1, tyX10, tyX10_ok, by decide +kernel⟩
theorem nwd_L_10 : NWd RL 10 10 18 [.null, .null, .null, .null, .null, .int 0, .int 0, .int 0, .int 0, .null, .null, .null, .int 0, .int 0, .int 0, .null, .int 0, .int 0] := ⟨RX11, TX11, rfl, uws_10, qw_562, qw_563, qw_12, tyX11, tyX11_ok, by decide +kernel⟩
theorem iw_10_9 : IW RX10 9 yX8_init cX8_init 2 0 := ⟨qw_25, qw_2, qw_24, rfl, ⟨by decide +kernel, by decide +kernel, by decide +kernel⟩, Or.inl qw_23⟩
theorem iw_10_32 : IW RX10 32 yX2_init cX2_init 2 0 := ⟨qw_125, qw_9, qw_124, rfl, ⟨by decide +kernel, by decide +kernel, by decide +kernel⟩, Or.inl qw_123⟩
theorem iw_8_32 : IW RX8 32 yX9_init cX9_init 2 1 := ⟨qw_65, qw_6, qw_64, rfl, ⟨by decide +kernel, by decide +kernel, by decide +kernel⟩, Or.inl qw_63⟩
theorem iw_L_9 : IW RL 9 yX10_init cX10_init 1 0 := ⟨qw_17, qw_1, qw_16, rfl, ⟨by decide +kernel, by decide +kernel, by decide +kernel⟩, Or.inl qw_15⟩
theorem iw_L_12 : IW RL 12 yX11_init cX11_init 2 0 := ⟨qw_566, qw_12, qw_565, rfl, ⟨by decide +kernel, by decide +kernel, by decide +kernel⟩, Or.inl qw_564⟩
theorem iw_10_18 : IW RX10 18 yX6_init cX6_init 1 0 := ⟨qw_87, qw_7, qw_86, rfl, ⟨by decide +kernel, by decide +kernel, by decide +kernel⟩, Or.inr ⟨"HandLoom", by decide +kernel⟩⟩
theorem iw_10_25 : IW RX10 25 yX1_init cX1_init 1 0 := ⟨qw_103, qw_8, qw_102, rfl, ⟨by decide +kernel, by decide +kernel, by decide +kernel⟩, Or.inr ⟨"HandLoom", by decide +kernel⟩⟩
theorem iw_10_39 : IW RX10 39 yX4_init cX4_init 1 0 := ⟨qw_171, qw_11, qw_170, rfl, ⟨by decide +kernel, by decide +kernel, by decide +kernel⟩, Or.inr ⟨"HandLoom", by decide +kernel⟩⟩
theorem iw_2_21 : IW RX2 21 yX0_init cX0_init 1 0 := ⟨qw_132, qw_10, qw_131, rfl, ⟨by decide +kernel, by decide +kernel, by decide +kernel⟩, Or.inr ⟨"HandLoom", by decide +kernel⟩⟩
theorem iw_5_3 : IW RX5 3 yX3_init cX3_init 1 0 := ⟨qw_39, qw_3, qw_38, rfl, ⟨by decide +kernel, by decide +kernel, by decide +kernel⟩, Or.inr ⟨"HandLoom", by decide +kernel⟩⟩
theorem iw_7_3 : IW RX7 3 yX3_init cX3_init 1 0 := ⟨qw_39, qw_3, qw_38, rfl, ⟨by decide +kernel, by decide +kernel, by decide +kernel⟩, Or.inr ⟨"HandLoom", by decide +kernel⟩⟩
theorem iw_8_26 : IW RX8 26 yX7_init cX7_init 1 0 := ⟨qw_36, qw_4, qw_35, rfl, ⟨by decide +kernel, by decide +kernel, by decide +kernel⟩, Or.inr ⟨"HandLoom", by decide +kernel⟩⟩
theorem iw_8_29 : IW RX8 29 yX5_init cX5_init 1 0 := ⟨qw_53, qw_5, qw_52, rfl, ⟨by decide +kernel, by decide +kernel, by decide +kernel⟩, Or.inr ⟨"HandLoom", by decide +kernel⟩⟩
theorem iw_9_3 : IW RX9 3 yX3_init cX3_init 1 0 := ⟨qw_39, qw_3, qw_38, rfl, ⟨by decide +kernel, by decide +kernel, by decide +kernel⟩, Or.inr ⟨"HandLoom", by decide +kernel⟩⟩
set_option maxRecDepth 100000 in
set_option maxHeartbeats 4000000 in
theorem i_3_4 {l : Launch} {D : va_G} {K : Nat → ClassId} {A : Nat → Nat} {g : Nat → va_E} {n0 : Nat} (hg0 : g n0 = .inr (4, [.int 0, .null])) : MI l yX3_init cX3_init 1 none 1 0 0 D K (n0 + 1) A g [.ref (A n0)] (n0 + 1) (fun v A' g' => v = none ∧ (∀ i, i < n0 → g' i = g i) ∧ g' n0 = .inr (4, [.int 0, .null])) := by
  refine MI.go (own := RX3) (lv0 := [some (.ref (A n0))]) rfl (by decide) rfl (Nat.le_of_ble_eq_true rfl) rfl ?_
  intro p e s m args below meth c C hm
  refine jx_aload_n C dX3_init_0 rfl ?_
  refine jx_oinit C dX3_init_1 qw_40 qw_19 qw_20 ⟨(Nat.le_of_ble_eq_true rfl), (Nat.le_of_ble_eq_true rfl)⟩ (Nat.le_of_ble_eq_true rfl) ?_
  refine jx_aload_n C dX3_init_4 rfl ?_
  refine jx_iconst (v := 0) C dX3_init_5 (by decide) ?_
  refine jx_putG C fp_3_9_4 dX3_init_6 (fs := [.int 0, .null]) (g1 := (va_up g (n0) (.inr (4, [.int 0, .null])))) (by omega) (by simp [va_up, hg0]) rfl rfl (Nat.le_of_ble_eq_true rfl) rfl ?_
  exact jx_vretG C dX3_init_9 (Nat.le_refl _) (fun _ _ => rfl) ⟨rfl, fun i hi => by simp [va_up, Nat.ne_of_lt hi], by simp [va_up]⟩
set_option maxRecDepth 100000 in
set_option maxHeartbeats 4000000 in
theorem i_3_6 {l : Launch} {D : va_G} {K : Nat → ClassId} {A : Nat → Nat} {g : Nat → va_E} {n0 : Nat} (hg0 : g n0 = .inr (6, [.int 0, .null])) : MI l yX3_init cX3_init 1 none 1 0 0 D K (n0 + 1) A g [.ref (A n0)] (n0 + 1) (fun v A' g' => v = none ∧ (∀ i, i < n0 → g' i = g i) ∧ g' n0 = .inr (6, [.int 0, .null])) := by
  refine MI.go (own := RX3) (lv0 := [some (.ref (A n0))]) rfl (by decide) rfl (Nat.le_of_ble_eq_true rfl) rfl ?_
  intro p e s m args below meth c C hm
  refine jx_aload_n C dX3_init_0 rfl ?_
  refine jx_oinit C dX3_init_1 qw_40 qw_19 qw_20 ⟨(Nat.le_of_ble_eq_true rfl), (Nat.le_of_ble_eq_true rfl)⟩ (Nat.le_of_ble_eq_true rfl) ?_
  refine jx_aload_n C dX3_init_4 rfl ?_
  refine jx_iconst (v := 0) C dX3_init_5 (by decide) ?_
  refine jx_putG C fp_3_9_6 dX3_init_6 (fs := [.int 0, .null]) (g1 := (va_up g (n0) (.inr (6, [.int 0, .null])))) (by omega) (by simp [va_up, hg0]) rfl rfl (Nat.le_of_ble_eq_true rfl) rfl ?_
  exact jx_vretG C dX3_init_9 (Nat.le_refl _) (fun _ _ => rfl) ⟨rfl, fun i hi => by simp [va_up, Nat.ne_of_lt hi], by simp [va_up]⟩
set_option maxRecDepth 100000 in
set_option maxHeartbeats 4000000 in
theorem i_3_8 {l : Launch} {D : va_G} {K : Nat → ClassId} {A : Nat → Nat} {g : Nat → va_E} {n0 : Nat} (hg0 : g n0 = .inr (8, [.int 0, .int 0, .null])) : MI l yX3_init cX3_init 1 none 1 0 0 D K (n0 + 1) A g [.ref (A n0)] (n0 + 1) (fun v A' g' => v = none ∧ (∀ i, i < n0 → g' i = g i) ∧ g' n0 = .inr (8, [.int 0, .int 0, .null])) := by
  refine MI.go (own := RX3) (lv0 := [some (.ref (A n0))]) rfl (by decide) rfl (Nat.le_of_ble_eq_true rfl) rfl ?_
  intro p e s m args below meth c C hm
  refine jx_aload_n C dX3_init_0 rfl ?_
  refine jx_oinit C dX3_init_1 qw_40 qw_19 qw_20 ⟨(Nat.le_of_ble_eq_true rfl), (Nat.le_of_ble_eq_true rfl)⟩ (Nat.le_of_ble_eq_true rfl) ?_
  refine jx_aload_n C dX3_init_4 rfl ?_
  refine jx_iconst (v := 0) C dX3_init_5 (by decide) ?_
  refine jx_putG C fp_3_9_8 dX3_init_6 (fs := [.int 0, .int 0, .null]) (g1 := (va_up g (n0) (.inr (8, [.int 0, .int 0, .null])))) (by omega) (by simp [va_up, hg0]) rfl rfl (Nat.le_of_ble_eq_true rfl) rfl ?_
  exact jx_vretG C dX3_init_9 (Nat.le_refl _) (fun _ _ => rfl) ⟨rfl, fun i hi => by simp [va_up, Nat.ne_of_lt hi], by simp [va_up]⟩
set_option maxRecDepth 100000 in
set_option maxHeartbeats 4000000 in
theorem i_9 {l : Launch} {D : va_G} {K : Nat → ClassId} {A : Nat → Nat} {g : Nat → va_E} {n0 : Nat} {x : Int32} (hg0 : g n0 = .inr (8, [.int 0, .int 0, .null])) : MI l yX9_init cX9_init 2 none 2 1 24 D K (n0 + 1) A g [.ref (A n0), .int x] (n0 + 2) (fun v A' g' => v = none ∧ (∀ i, i < n0 → g' i = g i) ∧ g' n0 = .inr (8, [.int 0, .int x, .ref (A' (n0 + 1))]) ∧ g' (n0 + 1) = .inl (K 0, 24, ri (fun _ => 0))) := by
  refine MI.go (own := RX9) (lv0 := [some (.ref (A n0)), some (.int x)]) rfl (by decide) rfl (Nat.le_of_ble_eq_true rfl) rfl ?_
  intro p e s m args below meth c C hm
  refine jx_aload_n C dX9_init_0 rfl ?_
  refine jx_ini (As := []) C (i_3_8 hg0) iw_9_3 (Nat.le_refl _) rfl ⟨(Nat.le_of_ble_eq_true rfl), (Nat.le_of_ble_eq_true rfl)⟩ ⟨(Nat.le_of_ble_eq_true rfl), (Nat.le_of_ble_eq_true rfl)⟩ dX9_init_1 rfl (Nat.le_of_ble_eq_true rfl) ?_
  rintro v A0 gg0 h0 ⟨rfl, f1, f2⟩
  rw [← h0 n0 (by omega)]
  refine jx_aload_n C dX9_init_4 rfl ?_
  refine jx_bipush (v := 24) C dX9_init_5 (by decide) ?_
  refine jx_newa (t0 := 0) (n0 := 24) (a0 := (24, ri (fun _ => 0))) C dX9_init_7 rfl qw_75 rfl (fun _ => rfl) rfl (by decide) (by decide) (Nat.le_of_ble_eq_true rfl) (Nat.le_of_ble_eq_true rfl) ?_
  intro A1 h1
  rw [← h1 (n0) (by omega)]
  refine jx_putF C hm fpf_9_9_8 dX9_init_9 (fs := [.int 0, .int 0, .null]) (g1 := (va_up (va_up gg0 (n0 + 1) (.inl (K 0, 24, ri (fun _ => 0)))) (n0) (.inr (8, [.int 0, .int 0, .ref (A1 (n0 + 1))])))) (by omega) (by simp [va_up, f2]) rfl rfl (Nat.le_of_ble_eq_true rfl) rfl ?_
  refine jx_aload_n C dX9_init_12 rfl ?_
  refine jx_iload_n C dX9_init_13 rfl ?_
  refine jx_putF C hm fpf_9_15_8 dX9_init_14 (fs := [.int 0, .int 0, .ref (A1 (n0 + 1))]) (g1 := (va_up (va_up (va_up gg0 (n0 + 1) (.inl (K 0, 24, ri (fun _ => 0)))) (n0) (.inr (8, [.int 0, .int 0, .ref (A1 (n0 + 1))]))) (n0) (.inr (8, [.int 0, .int x, .ref (A1 (n0 + 1))])))) (by omega) (by simp [va_up, f2]) rfl rfl (Nat.le_of_ble_eq_true rfl) rfl ?_
  exact jx_vretG C dX9_init_17 (by omega) (fun i hi => by rw [h1 i (by omega), h0 i (by omega)]) ⟨rfl, fun i hi => by simp only [va_up]; rw [if_neg (by omega), if_neg (by omega), if_neg (by omega)]; exact f1 i hi, by simp [va_up], by simp [va_up]⟩
set_option maxRecDepth 100000 in
set_option maxHeartbeats 4000000 in
theorem i_7 {l : Launch} {D : va_G} {K : Nat → ClassId} {A : Nat → Nat} {g : Nat → va_E} {n0 : Nat}  (hg0 : g n0 = .inr (6, [.int 0, .null])) : MI l yX7_init cX7_init 1 none 2 1 24 D K (n0 + 1) A g [.ref (A n0)] (n0 + 2) (fun v A' g' => v = none ∧ (∀ i, i < n0 → g' i = g i) ∧ g' n0 = .inr (6, [.int 0, .ref (A' (n0 + 1))]) ∧ g' (n0 + 1) = .inl (K 2, 24, rf (fun _ => 0))) := by
  refine MI.go (own := RX7) (lv0 := [some (.ref (A n0))]) rfl (by decide) rfl (Nat.le_of_ble_eq_true rfl) rfl ?_
  intro p e s m args below meth c C hm
  refine jx_aload_n C dX7_init_0 rfl ?_
  refine jx_ini (As := []) C (i_3_6 hg0) iw_7_3 (Nat.le_refl _) rfl ⟨(Nat.le_of_ble_eq_true rfl), (Nat.le_of_ble_eq_true rfl)⟩ ⟨(Nat.le_of_ble_eq_true rfl), (Nat.le_of_ble_eq_true rfl)⟩ dX7_init_1 rfl (Nat.le_of_ble_eq_true rfl) ?_
  rintro v A0 gg0 h0 ⟨rfl, f1, f2⟩
  rw [← h0 n0 (by omega)]
  refine jx_aload_n C dX7_init_4 rfl ?_
  refine jx_bipush (v := 24) C dX7_init_5 (by decide) ?_
  refine jx_newa (t0 := 2) (n0 := 24) (a0 := (24, rf (fun _ => 0))) C dX7_init_7 rfl qw_48 rfl (fun _ => rfl) rfl (by decide) (by decide) (Nat.le_of_ble_eq_true rfl) (Nat.le_of_ble_eq_true rfl) ?_
  intro A1 h1
  rw [← h1 (n0) (by omega)]
  refine jx_putF C hm fpf_7_9_6 dX7_init_9 (fs := [.int 0, .null]) (g1 := (va_up (va_up gg0 (n0 + 1) (.inl (K 2, 24, rf (fun _ => 0)))) (n0) (.inr (6, [.int 0, .ref (A1 (n0 + 1))])))) (by omega) (by simp [va_up, f2]) rfl rfl (Nat.le_of_ble_eq_true rfl) rfl ?_
  exact jx_vretG C dX7_init_12 (by omega) (fun i hi => by rw [h1 i (by omega), h0 i (by omega)]) ⟨rfl, fun i hi => by simp only [va_up]; rw [if_neg (by omega), if_neg (by omega)]; exact f1 i hi, by simp [va_up], by simp [va_up]⟩
set_option maxRecDepth 100000 in
set_option maxHeartbeats 4000000 in
theorem i_5 {l : Launch} {D : va_G} {K : Nat → ClassId} {A : Nat → Nat} {g : Nat → va_E} {n0 : Nat}  (hg0 : g n0 = .inr (4, [.int 0, .null])) : MI l yX5_init cX5_init 1 none 2 1 24 D K (n0 + 1) A g [.ref (A n0)] (n0 + 2) (fun v A' g' => v = none ∧ (∀ i, i < n0 → g' i = g i) ∧ g' n0 = .inr (4, [.int 0, .ref (A' (n0 + 1))]) ∧ g' (n0 + 1) = .inl (K 1, 24, ri (fun _ => 0))) := by
  refine MI.go (own := RX5) (lv0 := [some (.ref (A n0))]) rfl (by decide) rfl (Nat.le_of_ble_eq_true rfl) rfl ?_
  intro p e s m args below meth c C hm
  refine jx_aload_n C dX5_init_0 rfl ?_
  refine jx_ini (As := []) C (i_3_4 hg0) iw_5_3 (Nat.le_refl _) rfl ⟨(Nat.le_of_ble_eq_true rfl), (Nat.le_of_ble_eq_true rfl)⟩ ⟨(Nat.le_of_ble_eq_true rfl), (Nat.le_of_ble_eq_true rfl)⟩ dX5_init_1 rfl (Nat.le_of_ble_eq_true rfl) ?_
  rintro v A0 gg0 h0 ⟨rfl, f1, f2⟩
  rw [← h0 n0 (by omega)]
  refine jx_aload_n C dX5_init_4 rfl ?_
  refine jx_bipush (v := 24) C dX5_init_5 (by decide) ?_
  refine jx_newa (t0 := 1) (n0 := 24) (a0 := (24, ri (fun _ => 0))) C dX5_init_7 rfl qw_60 rfl (fun _ => rfl) rfl (by decide) (by decide) (Nat.le_of_ble_eq_true rfl) (Nat.le_of_ble_eq_true rfl) ?_
  intro A1 h1
  rw [← h1 (n0) (by omega)]
  refine jx_putF C hm fpf_5_9_4 dX5_init_9 (fs := [.int 0, .null]) (g1 := (va_up (va_up gg0 (n0 + 1) (.inl (K 1, 24, ri (fun _ => 0)))) (n0) (.inr (4, [.int 0, .ref (A1 (n0 + 1))])))) (by omega) (by simp [va_up, f2]) rfl rfl (Nat.le_of_ble_eq_true rfl) rfl ?_
  exact jx_vretG C dX5_init_12 (by omega) (fun i hi => by rw [h1 i (by omega), h0 i (by omega)]) ⟨rfl, fun i hi => by simp only [va_up]; rw [if_neg (by omega), if_neg (by omega)]; exact f1 i hi, by simp [va_up], by simp [va_up]⟩
