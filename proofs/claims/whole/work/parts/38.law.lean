def R_law : String := "HandLoomLaw"
def lw_P (b : Addr) (xs : List Int32) (args : Array Value) (s : State) : Prop := args = #[.ref b] ∧ s.IntsAt b xs ∧ xs.length ≤ 3072 ∧ (Jvm.Cond.and given_1 narrow_1).before args s = true
/-- what a walk over the start with the record d0 says of its end, said of the start itself -/
theorem lw_closed {s t : State} {o : Outcome} {d0 : Drawn} {L : List Loc} {k n : Nat} (hd0 : s.drawn.sameBut d0 lw_cs) (hv : ∃ v, o = .returned v) (hW : (s.setDrawn d0).WarmedH t.vm) (hs : (s.setDrawn d0).sameButNew ({ t with vm := s.vm } : State) L k n) : State.butDraws s t lw_cs (fun t1 => Framed s o t1 L k n) := by
  have h2 : t.drawn = d0 := congrArg State.drawn hs.1
  refine ⟨⟨hv, hW, State.sameButNew.setDrawn hs s.drawn⟩, ?_, by decide⟩
  rw [h2]
  exact hd0
def lw_Q (_ : Array Value) (s : State) (o : Outcome) (t : State) : Prop := o = .returned (some (.int 1)) ∧ State.butDraws s t lw_cs (fun t1 => Framed s o t1 [] 600000 7302250)
def lw_Z (below : List Frame) (a : Array Value) (s : State) : State → Prop := fun t => ∃ o, t.status = .running ∧ Ended t below o ∧ lw_Q a s o t
/-- the law's own end, with 1 on the stack, nothing written that was there before, its room as the claim has it; d0: the record of draws at this point (at the entry s.drawn: begin with 'refine W.base ?_' and 'have hd0 := Drawn.sameBut.refl s.drawn lw_cs') -/
theorem lw_ret {p : Program} {l : Launch} {e : Env} {s : State} {m : MethodId} {below : List Frame} {meth : Method} {c : Code} {b : Nat} {d0 : Drawn} (hd0 : s.drawn.sameBut d0 lw_cs) (hx : p.tables.exec = Jvm.exec) (hb : c.code = code) (hr : meth.sig.returnType = ret) (hlocks : meth.locks = false) {pc : Nat} {H : Heap} {ls : Array Slot} (hdg : decode code pc = .ok (.ireturn, 1)) : W p l e room_1 (s.setDrawn d0) m #[Value.ref b] below meth c H [] 600000 7302250 (lw_Z below #[Value.ref b] s) (F0 m pc ls [.int 1]) := by
  intro T hT X
  obtain ⟨fs, hret, hrun, hended, hW, hframe⟩ := X.leave (v := some (.int 1)) (hlocks := hlocks) (fun h => by rw [hr] at h; cases h)
  have hmeth' : T.vm.method? m = some meth := X.method'
  refine ⟨T.setFrames fs, ?_, .returned (some (.int 1)), hrun, hended, rfl, lw_closed hd0 ⟨_, rfl⟩ hW hframe⟩
  jvm_step X.here [X.here.top, hx, hb, hdg, hmeth', hr, ret, narrow_b1]
  (try refine ⟨rfl, ?_⟩); (try refine ⟨rfl, ?_⟩)
  first | (intro acts; rw [hret _ acts rfl rfl rfl]) | rw [hret _ _ rfl rfl rfl]
  exact Steps.refl _
/-- what holds at the law's entry: the machine, the code, the tables' words (any of lw_tbl by 'hts w (by decide +kernel)'), the script of L ints xs at the cell b, what the Statement gives of the start (any of its parts by flat_of_before) -/
def lw_At (p : Program) (s : State) (m : MethodId) (meth : Method) (c : Code) (b L : Nat) (xs : Nat → Int32) : Prop :=
  p.tables.exec = Jvm.exec ∧ c.code = code ∧ meth.sig.returnType = ret ∧ c.maxLocals = 4 ∧ s.vm.findClass R_law = some m.cls ∧ (∀ w ∈ lw_tbl, w.before #[Value.ref b] s = true) ∧ va_X b L xs s s.heap ∧ b < s.heap.size ∧ meth.locks = false ∧ (Jvm.Cond.and given_1 narrow_1).before #[Value.ref b] s = true
/-! the law: its layer -/
abbrev AL (s : State) : Nat → Prop := fun q => s.heap.size ≤ q
section LAW
variable {p : Program} {l : Launch} {e : Env} {s : State} {m : MethodId} {below : List Frame} {meth : Method} {c : Code} {D : va_G} {K : Nat → ClassId} {A : Nat → Nat} {b L : Nat} {xs : Nat → Int32} {N : Nat} {g : Nat → va_E} {cs sl pc : Nat} {lv : List (Option Value)} {st : List Value} {Q : State → Prop}
theorem jx_sld {x : Int32} (j : Nat) (C : CX p s m #[Value.ref b] meth c RL code 4 ret D K (AL s)) (hX : va_X b L xs s s.heap) (hb : b < s.heap.size) (hL : L ≤ 3072) (hd : decode code pc = .ok (.iaload, 1)) (hx : x = nI j) (hj : j < L) (kk : GJ p l e room_1 s m #[Value.ref b] below meth c 4 D (AL s) Q N A g cs sl (pc + 1) lv (.int (xs j) :: st)) : GJ p l e room_1 s m #[Value.ref b] below meth c 4 D (AL s) Q N A g cs sl pc lv (.int x :: .ref b :: st) := by
  intro H locs ls hP hD hS hl
  obtain ⟨h1, h2⟩ := nI_ix hx hj (by omega)
  have k1 := kk H locs ls hP hD hS hl
  rw [← h2] at k1
  exact va_sld C.1 C.2.1 hX hb (fun q => Nat.not_le.mpr hb q) hS h1 hd k1
theorem jx_slen (C : CX p s m #[Value.ref b] meth c RL code 4 ret D K (AL s)) (hX : va_X b L xs s s.heap) (hb : b < s.heap.size) (hd : decode code pc = .ok (.arraylength, 1)) (kk : GJ p l e room_1 s m #[Value.ref b] below meth c 4 D (AL s) Q N A g cs sl (pc + 1) lv (.int (nI L) :: st)) : GJ p l e room_1 s m #[Value.ref b] below meth c 4 D (AL s) Q N A g cs sl pc lv (.ref b :: st) := by
  intro H locs ls hP hD hS hl
  exact va_slen C.1 C.2.1 hX hb (fun q => Nat.not_le.mpr hb q) hS hd (kk H locs ls hP hD hS hl)
theorem jx_lawret (C : CX p s m #[Value.ref b] meth c RL code 4 ret D K (AL s)) (hc : cs ≤ 600000) (hs : sl ≤ 7302250) (hd : decode code pc = .ok (.ireturn, 1)) : GJ p l e room_1 s m #[Value.ref b] below meth c 4 D (AL s) (lw_Z below #[Value.ref b] s) N A g cs sl pc lv [.int 1] := by
  intro H locs ls hP hD hS hl
  exact va_forget (fun q h => hS.2.2 q h) (W.widen hc hs (lw_ret (d0 := s.drawn) (Drawn.sameBut.refl s.drawn lw_cs) C.1 C.2.1 C.2.2.2.2.2.1 C.2.2.2.2.2.2.1 hd))
/-- another world of the same cells -/
theorem jx_cong {g1 : Nat → va_E} {Ax : Nat → Prop} {R : Room} {args : Array Value} {nL : Nat} (h : ∀ i, i < N → g i = g1 i ∨ ∃ (cA : ClassId) (n : Nat) (f f' : Nat → Option Nat), g i = .inl (cA, n, rq f) ∧ g1 i = .inl (cA, n, rq f') ∧ ∀ j, j < n → f j = f' j) (kk : GJ p l e R s m args below meth c nL D Ax Q N A g1 cs sl pc lv st) : GJ p l e R s m args below meth c nL D Ax Q N A g cs sl pc lv st := by
  intro H locs ls hP hD hS hl
  refine kk H locs ls (fun k q hq => ?_) (wl_D hD) hS hl
  obtain ⟨hk, rfl⟩ := wl_at hq
  have h0 := hP k _ (wl_get hk)
  rcases h k hk with e1 | ⟨cA, n, f, f', e1, e2, e3⟩
  · rw [← e1]; exact h0
  · rw [e1] at h0
    rw [e2]
    show H[A k]? = some (vp_cell cA (n, rq f'))
    rw [show H[A k]? = some (vp_cell cA (n, rq f)) from h0, vp_cell_q, vp_cell_q]
    unfold arrV
    congr 3
    funext j
    show va_rf (f j.val) = va_rf (f' j.val)
    rw [e3 j.val j.isLt]
end LAW
theorem RA_0 : RA I0 U0 P0 := by
  have z : ∀ x y, ¬ x = 66 → I0 x y = 0 := fun x y h => I0_o h
  have m1 : ∀ y, y < 20 → I0 66 y = -1 := fun y h => by unfold I0; rw [if_pos ⟨rfl, h⟩]
  have hz : ∀ x, hd32 (U0 x x) := fun x => by unfold hd32 U0; decide
  have hz2 : ∀ x y, hd32 (U0 x y) := fun x y => hz x
  refine ⟨⟨⟨0, 0, z _ _ (by omega), z _ _ (by omega), by omega, by omega, z _ _ (by omega), fun j h => absurd h (by omega)⟩, ⟨0, 0, by omega, by omega, z _ _ (by omega), z _ _ (by omega), z _ _ (by omega), z _ _ (by omega), by rw [z _ _ (by omega), z _ _ (by omega)], fun p h => absurd h (by omega), fun r u h => absurd h (by omega)⟩, ⟨0, by omega, z _ _ (by omega), z _ _ (by omega), fun j h => absurd h (by omega), fun j t h => absurd h (by omega)⟩, ⟨by rw [z _ _ (by omega), z _ _ (by omega)], by rw [z _ _ (by omega), z _ _ (by omega)], by rw [z _ _ (by omega), z _ _ (by omega)], fun f h => by rw [z _ _ (by omega), z _ _ (by omega)]⟩, ⟨fun j k _ h => by (cases h), fun k hk => ⟨hk, 0, by omega, z _ _ (by omega), fun n _ => ⟨fun _ => Or.inl (z _ _ (by omega)), fun _ => hz2 _ _⟩⟩, fun pl h => Or.inl (m1 pl h), fun r _ => ⟨0, by omega, z _ _ (by omega)⟩, fun x _ => hz2 _ _, fun pl h => Or.inl ⟨rfl, m1 pl h⟩⟩⟩, ?_⟩
  rw [z _ _ (by omega), z _ _ (by omega)]
theorem arr_p {s : State} {args : Array Value} {ty : FieldType} (h : (Cond.arrayClass ty).before args s = true) (hp : ∀ C, ¬ ty = .object C) : ∃ cA, ArrOfT s cA ty ∧ va_RA s cA ty := by
  obtain ⟨cA, k, comp, h1, h2, h3⟩ := Cond.arrayClass_spec h
  refine ⟨cA, fun n z => ⟨fun k h => (by cases h), k, h2, comp, h3⟩, ?_⟩
  cases ty with
  | object C => exact absurd rfl (hp C)
  | _ => exact h1
theorem arr_q {s : State} {C : String} (h : va_Nw (.arrayOver (.object C)) s) : ∃ cA, ArrOfT s cA (.object C) ∧ va_RA s cA (.object C) := by
  obtain ⟨comp, cA, k, h1, -, h2, h3, h4⟩ := Cond.arrayOver_spec h
  exact ⟨cA, fun n z => ⟨fun k h => (by cases h), k, h2, comp, h3⟩, k, comp, h2, h3, h1, h4⟩
/-- the classes and arrays that the tables know -/
theorem law_K {s : State} {args : Array Value} (hts : ∀ w ∈ lw_all, w.before args s = true) (hN : NW s) : ∃ (D : va_G) (K : Nat → ClassId), va_K D vwCl (tyl K) s := by
  have h : ∀ c : Nat, ∃ (cC : ClassId) (iS : Nat → Nat), ∀ q : vw_C, vwCl[c]? = some q → u_Kn s q.1 q.2.1 q.2.2 cC iS := by
    intro c
    by_cases hc : c < 11
    · rcases (show c = 0 ∨ c = 1 ∨ c = 2 ∨ c = 3 ∨ c = 4 ∨ c = 5 ∨ c = 6 ∨ c = 7 ∨ c = 8 ∨ c = 9 ∨ c = 10 by omega) with rfl | rfl | rfl | rfl | rfl | rfl | rfl | rfl | rfl | rfl | rfl
      · obtain ⟨cC, iS, hh⟩ := u_known (T := TX0) (N := 5) hts uws_0 (hts _ qw_129)
        exact ⟨cC, iS, fun q hq => by cases hq; exact hh⟩
      · obtain ⟨cC, iS, hh⟩ := u_known (T := TX1) (N := 5) hts uws_1 (hts _ qw_100)
        exact ⟨cC, iS, fun q hq => by cases hq; exact hh⟩
      · obtain ⟨cC, iS, hh⟩ := u_known (T := TX2) (N := 2) hts uws_2 (hts _ qw_122)
        exact ⟨cC, iS, fun q hq => by cases hq; exact hh⟩
      · obtain ⟨cC, iS, hh⟩ := u_known (T := TX4) (N := 2) hts uws_3 (hts _ qw_168)
        exact ⟨cC, iS, fun q hq => by cases hq; exact hh⟩
      · obtain ⟨cC, iS, hh⟩ := u_known (T := TX5) (N := 2) hts uws_4 (hts _ qw_50)
        exact ⟨cC, iS, fun q hq => by cases hq; exact hh⟩
      · obtain ⟨cC, iS, hh⟩ := u_known (T := TX6) (N := 3) hts uws_5 (hts _ qw_84)
        exact ⟨cC, iS, fun q hq => by cases hq; exact hh⟩
      · obtain ⟨cC, iS, hh⟩ := u_known (T := TX7) (N := 2) hts uws_6 (hts _ qw_33)
        exact ⟨cC, iS, fun q hq => by cases hq; exact hh⟩
      · obtain ⟨cC, iS, hh⟩ := u_known (T := TX8) (N := 2) hts uws_7 (hts _ qw_22)
        exact ⟨cC, iS, fun q hq => by cases hq; exact hh⟩
      · obtain ⟨cC, iS, hh⟩ := u_known (T := TX9) (N := 3) hts uws_8 (hts _ qw_62)
        exact ⟨cC, iS, fun q hq => by cases hq; exact hh⟩
      · obtain ⟨cC, iS, hh⟩ := u_known (T := TX10) (N := 8) hts uws_9 (hts _ qw_14)
        exact ⟨cC, iS, fun q hq => by cases hq; exact hh⟩
      · obtain ⟨cC, iS, hh⟩ := u_known (T := TX11) (N := 18) hts uws_10 (hts _ qw_563)
        exact ⟨cC, iS, fun q hq => by cases hq; exact hh⟩
    · refine ⟨0, fun _ => 0, fun q hq => ?_⟩
      have := (List.getElem?_eq_some_iff.mp hq).1
      exact absurd this (by show ¬ c < 11; omega)
  obtain ⟨k0, a0⟩ := arr_p (hts _ qw_75) (fun C q => by cases q)
  obtain ⟨k1, a1⟩ := arr_p (hts _ qw_60) (fun C q => by cases q)
  obtain ⟨k2, a2⟩ := arr_p (hts _ qw_48) (fun C q => by cases q)
  obtain ⟨k3, a3⟩ := arr_q (hN (.arrayOver (.object "HandLoom$Lane")) (by decide +kernel))
  obtain ⟨k4, a4⟩ := arr_q (hN (.arrayOver (.object "HandLoom$Card")) (by decide +kernel))
  refine ⟨(fun c => Classical.choose (h c), fun c => Classical.choose (Classical.choose_spec (h c))), fun i => if i = 0 then k0 else if i = 1 then k1 else if i = 2 then k2 else if i = 3 then k3 else k4, fun c q hq => Classical.choose_spec (Classical.choose_spec (h c)) q hq, fun k q hk => ?_⟩
  have hlt : k < 5 := (List.getElem?_eq_some_iff.mp hk).1
  rcases (show k = 0 ∨ k = 1 ∨ k = 2 ∨ k = 3 ∨ k = 4 by omega) with rfl | rfl | rfl | rfl | rfl
  · cases hk; exact a0
  · cases hk; exact a1
  · cases hk; exact a2
  · cases hk; exact a3
  · cases hk; exact a4
