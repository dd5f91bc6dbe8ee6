/-! THE LAYER: one world of cells by their numbers (the order in which they are made), locals as a dense list, a judgement GJ that hides heap, locals and frame -/
/-- the world: cell i lies at A i and holds g i -/
def wl (N : Nat) (A : Nat → Nat) (g : Nat → va_E) : va_W := (List.range N).map (fun i => (A i, g i))
theorem wl_get {N : Nat} {A : Nat → Nat} {g : Nat → va_E} {i : Nat} (h : i < N) : (wl N A g)[i]? = some (A i, g i) := by
  simp [wl, h]
theorem wl_at {N : Nat} {A : Nat → Nat} {g : Nat → va_E} {i : Nat} {q : Nat × va_E} (h : (wl N A g)[i]? = some q) : i < N ∧ q = (A i, g i) := by
  have hl : i < N := by
    have := (List.getElem?_eq_some_iff.mp h).1
    simpa [wl] using this
  rw [wl_get hl] at h
  exact ⟨hl, (Option.some.inj h).symm⟩
theorem wl_ext {N : Nat} {A : Nat → Nat} {g g' : Nat → va_E} (h : ∀ i, i < N → g i = g' i) : wl N A g = wl N A g' := by
  unfold wl
  apply List.map_congr_left
  intro i hi
  rw [h i (List.mem_range.mp hi)]
theorem wl_set {N : Nat} {A : Nat → Nat} {g : Nat → va_E} {i : Nat} {e : va_E} : (wl N A g).set i (A i, e) = wl N A (va_up g i e) := by
  apply List.ext_getElem?
  intro j
  by_cases hj : j < N
  · rw [wl_get hj]
    by_cases hji : j = i
    · subst hji
      rw [List.getElem?_set_self (by simpa [wl] using hj)]
      simp [va_up]
    · rw [List.getElem?_set_ne (Ne.symm hji), wl_get hj]
      simp [va_up, hji]
  · rw [List.getElem?_eq_none (by simpa [wl] using hj), List.getElem?_eq_none (by simpa [wl] using hj)]
theorem wl_push {N : Nat} {A : Nat → Nat} {g : Nat → va_E} {q : Nat} {e : va_E} : wl N A g ++ [(q, e)] = wl (N + 1) (va_up A N q) (va_up g N e) := by
  unfold wl
  rw [List.range_succ, List.map_append]
  congr 1
  · apply List.map_congr_left
    intro i hi
    have : i ≠ N := Nat.ne_of_lt (List.mem_range.mp hi)
    simp [va_up, this]
  · simp [va_up]
theorem wl_D {N : Nat} {A : Nat → Nat} {g g' : Nat → va_E} {Ax : Nat → Prop} (h : va_D Ax (wl N A g)) : va_D Ax (wl N A g') := by
  refine ⟨fun i j x y hi hj hxy => ?_, fun k q hk => ?_⟩
  · obtain ⟨li, rfl⟩ := wl_at hi
    obtain ⟨lj, rfl⟩ := wl_at hj
    exact h.1 i j _ _ (wl_get li) (wl_get lj) hxy
  · obtain ⟨lk, rfl⟩ := wl_at hk
    exact h.2 k (A k, g k) (wl_get lk)
theorem wl_DT {N : Nat} {A : Nat → Nat} {g g' : Nat → va_E} {Ax Bx : Nat → Prop} (h : va_D Ax (wl N A g)) (hB : ∀ i, i < N → Bx (A i)) : va_D Bx (wl N A g') := by
  refine ⟨(wl_D (g' := g') h).1, fun k q hk => ?_⟩
  obtain ⟨lk, rfl⟩ := wl_at hk
  exact hB k lk
/-- which cells a method may change: the world's, and new ones -/
def AX (N : Nat) (A : Nat → Nat) (sz : Nat) : Nat → Prop := fun q => (∃ i, i < N ∧ q = A i) ∨ sz ≤ q
/-! locals -/
def lget : List (Option Value) → Nat → Option Value
  | [], _ => none
  | a :: _, 0 => a
  | _ :: l, n + 1 => lget l n
def lset : List (Option Value) → Nat → Value → List (Option Value)
  | [], _, _ => []
  | _ :: l, 0, v => some v :: l
  | a :: l, n + 1, v => a :: lset l n v
theorem lget_set : ∀ (l : List (Option Value)) (i : Nat) (v : Value) (j : Nat) (w : Value), lget (lset l i v) j = some w → (j = i ∧ w = v) ∨ (j ≠ i ∧ lget l j = some w)
  | [], i, v, j, w, h => by simp [lset, lget] at h
  | a :: l, 0, v, 0, w, h => by
    simp only [lset, lget, Option.some.injEq] at h
    exact Or.inl ⟨rfl, h.symm⟩
  | a :: l, 0, v, j + 1, w, h => by
    simp only [lset, lget] at h
    exact Or.inr ⟨by omega, by simpa [lget] using h⟩
  | a :: l, i + 1, v, 0, w, h => by
    simp only [lset, lget] at h
    exact Or.inr ⟨by omega, by simpa [lget] using h⟩
  | a :: l, i + 1, v, j + 1, w, h => by
    simp only [lset, lget] at h
    rcases lget_set l i v j w h with ⟨h1, h2⟩ | ⟨h1, h2⟩
    · exact Or.inl ⟨by omega, h2⟩
    · exact Or.inr ⟨by omega, by simpa [lget] using h2⟩
/-- the frame's locals: those that lv names, all of one word -/
def lh (ls : Array Slot) (nL : Nat) (lv : List (Option Value)) : Prop := ls.size = nL ∧ lv_wf ls ∧ ∀ i v, lget lv i = some v → ls[i]? = some (.val v) ∧ v.category = 1
def las (lv : List (Option Value)) (n : Nat) : List (Nat × Value) := (List.range n).filterMap (fun i => (lget lv i).map (fun v => (i, v)))
theorem las_mem {lv : List (Option Value)} {n : Nat} {q : Nat × Value} : q ∈ las lv n ↔ q.1 < n ∧ lget lv q.1 = some q.2 := by
  unfold las
  simp only [List.mem_filterMap, List.mem_range, Option.map_eq_some_iff]
  constructor
  · rintro ⟨i, hi, v, hv, rfl⟩
    exact ⟨hi, hv⟩
  · rintro ⟨h1, h2⟩
    exact ⟨q.1, h1, q.2, h2, rfl⟩
theorem lh_has {ls : Array Slot} {nL : Nat} {lv : List (Option Value)} (h : lh ls nL lv) : lv_has ls nL (las lv nL) := ⟨h.1, h.2.1, fun q hq => (h.2.2 q.1 q.2 (las_mem.mp hq).2).1⟩
theorem lh_lt {ls : Array Slot} {nL : Nat} {lv : List (Option Value)} (h : lh ls nL lv) {i : Nat} {v : Value} (hi : lget lv i = some v) : i < nL := by
  have := (h.2.2 i v hi).1
  rw [← h.1]
  exact (Array.getElem?_eq_some_iff.mp this).1
theorem lh_set {ls ls' : Array Slot} {nL : Nat} {lv : List (Option Value)} {i : Nat} {v : Value} (h : lh ls nL lv) (hc : v.category = 1) (h' : lv_has ls' nL ((i, v) :: (las lv nL).filter (fun q => !(q.1 == i) && !(q.1 + 1 == i && q.2.category == 2)))) : lh ls' nL (lset lv i v) := by
  refine ⟨h'.1, h'.2.1, fun j w hj => ?_⟩
  rcases lget_set lv i v j w hj with ⟨rfl, rfl⟩ | ⟨h1, h2⟩
  · exact ⟨h'.2.2 (j, w) List.mem_cons_self, hc⟩
  · have hc2 := (h.2.2 j w h2).2
    refine ⟨h'.2.2 (j, w) (List.mem_cons_of_mem _ (List.mem_filter.mpr ⟨las_mem.mpr ⟨lh_lt h h2, h2⟩, ?_⟩)), hc2⟩
    simp [h1, hc2]
theorem lh_args : ∀ (av : List Value) (k : Nat), (∀ v ∈ av, v.category = 1) → ∀ (i : Nat) (v : Value), lget (av.map some) i = some v → (k + i, v) ∈ lv_args k av
  | [], k, _, i, v, h => by simp [lget] at h
  | a :: l, k, hc, 0, v, h => by
    simp only [List.map_cons, lget, Option.some.injEq] at h
    subst h
    simp [lv_args]
  | a :: l, k, hc, i + 1, v, h => by
    simp only [List.map_cons, lget] at h
    have h1 := lh_args l (k + 1) (fun v hv => hc v (List.mem_cons_of_mem _ hv)) i v h
    have hca := hc a List.mem_cons_self
    simp only [lv_args, hca]
    rw [show k + (i + 1) = k + 1 + i by omega]
    exact List.mem_cons_of_mem _ (by simpa using h1)
theorem lget_app : ∀ (l : List (Option Value)) (n i : Nat) (v : Value), lget (l ++ List.replicate n none) i = some v → lget l i = some v
  | [], 0, i, v, h => by simpa using h
  | [], n + 1, 0, v, h => by simp [List.replicate, lget] at h
  | [], n + 1, i + 1, v, h => by
    have : lget ([] ++ List.replicate n none) i = some v := by simpa [List.replicate, lget] using h
    have := lget_app [] n i v this
    simp [lget] at this
  | a :: l, n, 0, v, h => by simpa [lget] using h
  | a :: l, n, i + 1, v, h => by
    have : lget (l ++ List.replicate n none) i = some v := by simpa [lget] using h
    simpa [lget] using lget_app l n i v this
theorem lget_cat {av : List Value} (hc : ∀ v ∈ av, v.category = 1) {i : Nat} {v : Value} (h : lget (av.map some) i = some v) : v ∈ av := by
  induction av generalizing i with
  | nil => simp [lget] at h
  | cons a l ih =>
    cases i with
    | zero =>
      simp only [List.map_cons, lget, Option.some.injEq] at h
      subst h
      exact List.mem_cons_self
    | succ i =>
      simp only [List.map_cons, lget] at h
      exact List.mem_cons_of_mem _ (ih (fun v hv => hc v (List.mem_cons_of_mem _ hv)) h)
theorem lh_entry (av : List Value) (n : Nat) (hc : ∀ v ∈ av, v.category = 1) (h : (lg_sl av).length ≤ n) : lh ((lg_sl av ++ List.replicate (n - (lg_sl av).length) Slot.unset).toArray) n (av.map some ++ List.replicate (n - av.length) none) := by
  have h1 := lv_entry av h
  refine ⟨h1.1, h1.2.1, fun i v hi => ?_⟩
  have hi := lget_app _ _ _ _ hi
  have hm := lh_args av 0 hc i v hi
  rw [Nat.zero_add] at hm
  exact ⟨h1.2.2 (i, v) hm, hc v (lget_cat hc hi)⟩
/-! the typed heap: every cell's shape is fixed; I: ints of cell i at place k, U: floats, P: which lane a place of the loom has -/
def up2 {α : Type} (I : Nat → Nat → α) (i k : Nat) (v : α) : Nat → Nat → α := fun a b => if a = i ∧ b = k then v else I a b
abbrev rq (f : Nat → Option Nat) : (Nat → Int32) ⊕ (Nat → Int64) ⊕ (Nat → UInt32) ⊕ (Nat → UInt64) ⊕ (Nat → Option Nat) := .inr (.inr (.inr (.inr f)))
abbrev rf (f : Nat → UInt32) : (Nat → Int32) ⊕ (Nat → Int64) ⊕ (Nat → UInt32) ⊕ (Nat → UInt64) ⊕ (Nat → Option Nat) := .inr (.inr (.inl f))
abbrev ri (f : Nat → Int32) : (Nat → Int32) ⊕ (Nat → Int64) ⊕ (Nat → UInt32) ⊕ (Nat → UInt64) ⊕ (Nat → Option Nat) := .inl f
def g_lane (A : Nat → Nat) (I : Nat → Nat → Int32) (i : Nat) : va_E :=
  if (i - 4) / 2 % 5 = 2 then .inr (6, [.int (I i 0), .ref (A (i + 1))]) else if (i - 4) / 2 % 5 = 3 then .inr (4, [.int (I i 0), .ref (A (i + 1))]) else .inr (8, [.int (I i 0), .int (nI ((i - 4) / 2 % 5)), .ref (A (i + 1))])
def g_arr (K : Nat → ClassId) (I : Nat → Nat → Int32) (U : Nat → Nat → UInt32) (i : Nat) : va_E :=
  if (i - 5) / 2 % 5 = 2 then .inl (K 2, 24, rf (U i)) else if (i - 5) / 2 % 5 = 3 then .inl (K 1, 24, ri (I i)) else .inl (K 0, 24, ri (I i))
def gg (A : Nat → Nat) (K : Nat → ClassId) (I : Nat → Nat → Int32) (U : Nat → Nat → UInt32) (P : Nat → Option Nat) (i : Nat) : va_E :=
  if 4 ≤ i ∧ i < 44 then (if i % 2 = 0 then g_lane A I i else g_arr K I U i)
  else if 51 ≤ i ∧ i < 63 then .inr (0, [.int (I i 0), .int (I i 1), .int (I i 2), .int (I i 3), .int (I i 4)])
  else if i = 0 then .inr (9, [.ref (A 1), .ref (A 44), .ref (A 46), .ref (A 49), .ref (A 63), .int (I i 5), .int (I i 6), .int (I i 7)])
  else if i = 1 then .inr (7, [.ref (A 2), .ref (A 3)])
  else if i = 2 then .inl (K 3, 20, rq (fun k => some (A (4 + 2 * k))))
  else if i = 3 then .inl (K 3, 20, rq (fun j => (P j).map (fun k => A (4 + 2 * k))))
  else if i = 44 then .inr (5, [.ref (A 45), .int (I i 1), .int (I i 2)])
  else if i = 45 then .inl (K 0, 16, ri (I i))
  else if i = 46 then .inr (1, [.ref (A 47), .ref (A 48), .int (I i 2), .int (I i 3), .int (I i 4)])
  else if i = 47 then .inl (K 0, 576, ri (I i))
  else if i = 48 then .inl (K 0, 24, ri (I i))
  else if i = 49 then .inr (2, [.ref (A 50), .int (I i 1)])
  else if i = 50 then .inl (K 4, 12, rq (fun j => some (A (51 + j))))
  else if i = 63 then .inr (3, [.ref (A 64), .int (I i 1)])
  else if i = 64 then .inl (K 0, 6, ri (I i))
  else if i = 65 then .inr (10, [.ref (A 66), .ref (A 67), .ref (A 68), .ref (A 69), .ref (A 70), .int (I i 5), .int (I i 6), .int (I i 7), .int (I i 8), .ref (A 71), .ref (A 72), .ref (A 73), .int (I i 12), .int (I i 13), .int (I i 14), .ref (A 74), .int (I i 16), .int (I i 17)])
  else if i = 66 then .inl (K 0, 20, ri (I i))
  else if i = 67 then .inl (K 0, 20, ri (I i))
  else if i = 68 then .inl (K 0, 480, ri (I i))
  else if i = 69 then .inl (K 2, 480, rf (U i))
  else if i = 70 then .inl (K 0, 16, ri (I i))
  else if i = 71 then .inl (K 0, 24, ri (I i))
  else if i = 72 then .inl (K 0, 576, ri (I i))
  else if i = 73 then .inl (K 0, 60, ri (I i))
  else .inl (K 0, 6, ri (I i))
theorem gg_same {A : Nat → Nat} {K : Nat → ClassId} {I I' : Nat → Nat → Int32} {U U' : Nat → Nat → UInt32} {P P' : Nat → Option Nat} {i : Nat} (hI : I i = I' i) (hU : U i = U' i) (hP : i = 3 → P = P') : gg A K I U P i = gg A K I' U' P' i := by
  by_cases h3 : i = 3
  · have hPP := hP h3
    subst hPP
    subst h3
    rfl
  · unfold gg g_lane g_arr
    rw [hI, hU]
    simp only [h3, if_false]
section GG
variable {A : Nat → Nat} {K : Nat → ClassId} {I : Nat → Nat → Int32} {U : Nat → Nat → UInt32} {P : Nat → Option Nat}
theorem gg_0 : gg A K I U P 0 = .inr (9, [.ref (A 1), .ref (A 44), .ref (A 46), .ref (A 49), .ref (A 63), .int (I 0 5), .int (I 0 6), .int (I 0 7)]) := rfl
theorem gg_1 : gg A K I U P 1 = .inr (7, [.ref (A 2), .ref (A 3)]) := rfl
theorem gg_2 : gg A K I U P 2 = .inl (K 3, 20, rq (fun k => some (A (4 + 2 * k)))) := rfl
theorem gg_3 : gg A K I U P 3 = .inl (K 3, 20, rq (fun j => (P j).map (fun k => A (4 + 2 * k)))) := rfl
theorem gg_44 : gg A K I U P 44 = .inr (5, [.ref (A 45), .int (I 44 1), .int (I 44 2)]) := rfl
theorem gg_45 : gg A K I U P 45 = .inl (K 0, 16, ri (I 45)) := rfl
theorem gg_46 : gg A K I U P 46 = .inr (1, [.ref (A 47), .ref (A 48), .int (I 46 2), .int (I 46 3), .int (I 46 4)]) := rfl
theorem gg_47 : gg A K I U P 47 = .inl (K 0, 576, ri (I 47)) := rfl
theorem gg_48 : gg A K I U P 48 = .inl (K 0, 24, ri (I 48)) := rfl
theorem gg_49 : gg A K I U P 49 = .inr (2, [.ref (A 50), .int (I 49 1)]) := rfl
theorem gg_50 : gg A K I U P 50 = .inl (K 4, 12, rq (fun j => some (A (51 + j)))) := rfl
theorem gg_63 : gg A K I U P 63 = .inr (3, [.ref (A 64), .int (I 63 1)]) := rfl
theorem gg_64 : gg A K I U P 64 = .inl (K 0, 6, ri (I 64)) := rfl
theorem gg_65 : gg A K I U P 65 = .inr (10, [.ref (A 66), .ref (A 67), .ref (A 68), .ref (A 69), .ref (A 70), .int (I 65 5), .int (I 65 6), .int (I 65 7), .int (I 65 8), .ref (A 71), .ref (A 72), .ref (A 73), .int (I 65 12), .int (I 65 13), .int (I 65 14), .ref (A 74), .int (I 65 16), .int (I 65 17)]) := rfl
theorem gg_66 : gg A K I U P 66 = .inl (K 0, 20, ri (I 66)) := rfl
theorem gg_67 : gg A K I U P 67 = .inl (K 0, 20, ri (I 67)) := rfl
theorem gg_68 : gg A K I U P 68 = .inl (K 0, 480, ri (I 68)) := rfl
theorem gg_69 : gg A K I U P 69 = .inl (K 2, 480, rf (U 69)) := rfl
theorem gg_70 : gg A K I U P 70 = .inl (K 0, 16, ri (I 70)) := rfl
theorem gg_71 : gg A K I U P 71 = .inl (K 0, 24, ri (I 71)) := rfl
theorem gg_72 : gg A K I U P 72 = .inl (K 0, 576, ri (I 72)) := rfl
theorem gg_73 : gg A K I U P 73 = .inl (K 0, 60, ri (I 73)) := rfl
theorem gg_74 : gg A K I U P 74 = .inl (K 0, 6, ri (I 74)) := rfl
theorem gg_cd {j : Nat} (h : j < 12) : gg A K I U P (51 + j) = .inr (0, [.int (I (51 + j) 0), .int (I (51 + j) 1), .int (I (51 + j) 2), .int (I (51 + j) 3), .int (I (51 + j) 4)]) := by
  unfold gg
  rw [if_neg (by omega), if_pos (by omega)]
theorem gg_lane {k : Nat} (h : k < 20) : gg A K I U P (4 + 2 * k) = if k % 5 = 2 then .inr (6, [.int (I (4 + 2 * k) 0), .ref (A (5 + 2 * k))]) else if k % 5 = 3 then .inr (4, [.int (I (4 + 2 * k) 0), .ref (A (5 + 2 * k))]) else .inr (8, [.int (I (4 + 2 * k) 0), .int (nI (k % 5)), .ref (A (5 + 2 * k))]) := by
  unfold gg g_lane
  rw [if_pos (by omega), if_pos (by omega), show (4 + 2 * k - 4) / 2 = k by omega, show 4 + 2 * k + 1 = 5 + 2 * k by omega]
theorem gg_larr {k : Nat} (h : k < 20) : gg A K I U P (5 + 2 * k) = if k % 5 = 2 then .inl (K 2, 24, rf (U (5 + 2 * k))) else if k % 5 = 3 then .inl (K 1, 24, ri (I (5 + 2 * k))) else .inl (K 0, 24, ri (I (5 + 2 * k))) := by
  unfold gg g_arr
  rw [if_pos (by omega), if_neg (by omega), show (5 + 2 * k - 5) / 2 = k by omega]
theorem gg_laneT {k : Nat} (h : k < 20) (h2 : k % 5 = 2) : gg A K I U P (4 + 2 * k) = .inr (6, [.int (I (4 + 2 * k) 0), .ref (A (5 + 2 * k))]) := by rw [gg_lane h, if_pos h2]
theorem gg_laneL {k : Nat} (h : k < 20) (h2 : k % 5 = 3) : gg A K I U P (4 + 2 * k) = .inr (4, [.int (I (4 + 2 * k) 0), .ref (A (5 + 2 * k))]) := by rw [gg_lane h, if_neg (by omega), if_pos h2]
theorem gg_laneW {k : Nat} (h : k < 20) (h2 : ¬ k % 5 = 2) (h3 : ¬ k % 5 = 3) : gg A K I U P (4 + 2 * k) = .inr (8, [.int (I (4 + 2 * k) 0), .int (nI (k % 5)), .ref (A (5 + 2 * k))]) := by rw [gg_lane h, if_neg h2, if_neg h3]
theorem gg_larrT {k : Nat} (h : k < 20) (h2 : k % 5 = 2) : gg A K I U P (5 + 2 * k) = .inl (K 2, 24, rf (U (5 + 2 * k))) := by rw [gg_larr h, if_pos h2]
theorem gg_larrL {k : Nat} (h : k < 20) (h2 : k % 5 = 3) : gg A K I U P (5 + 2 * k) = .inl (K 1, 24, ri (I (5 + 2 * k))) := by rw [gg_larr h, if_neg (by omega), if_pos h2]
theorem gg_larrW {k : Nat} (h : k < 20) (h2 : ¬ k % 5 = 2) (h3 : ¬ k % 5 = 3) : gg A K I U P (5 + 2 * k) = .inl (K 0, 24, ri (I (5 + 2 * k))) := by rw [gg_larr h, if_neg h2, if_neg h3]
/-- a cell of ints is written: the world is that of the written ints -/
theorem wl_upI {i k : Nat} {v : Int32} {e : va_E} (he : e = gg A K (up2 I i k v) U P i) : wl 75 A (va_up (gg A K I U P) i e) = wl 75 A (gg A K (up2 I i k v) U P) := by
  apply wl_ext
  intro j _
  by_cases hj : j = i
  · subst hj
    rw [va_up_self, he]
  · rw [va_up_ne _ _ hj]
    exact gg_same (by funext b; simp [up2, hj]) rfl (fun _ => rfl)
theorem wl_upU {i k : Nat} {v : UInt32} {e : va_E} (he : e = gg A K I (up2 U i k v) P i) : wl 75 A (va_up (gg A K I U P) i e) = wl 75 A (gg A K I (up2 U i k v) P) := by
  apply wl_ext
  intro j _
  by_cases hj : j = i
  · subst hj
    rw [va_up_self, he]
  · rw [va_up_ne _ _ hj]
    exact gg_same rfl (by funext b; simp [up2, hj]) (fun _ => rfl)
theorem wl_upP {j : Nat} {r : Option Nat} {e : va_E} (he : e = gg A K I U (va_up P j r) 3) : wl 75 A (va_up (gg A K I U P) 3 e) = wl 75 A (gg A K I U (va_up P j r)) := by
  apply wl_ext
  intro a _
  by_cases hj : a = 3
  · subst hj
    rw [va_up_self, he]
  · rw [va_up_ne _ _ hj]
    exact gg_same rfl rfl (fun h => absurd h hj)
end GG
