/-! more of the base: the table of steps' ends, arrays of references, what a throw leaves -/
def jSEi : Nat → Int32 := fun k => if k = 0 then 4 else if k = 1 then 8 else if k = 2 then 24 else 6
theorem jx_ref {D : va_G} {cl : List vw_C} {tys : List (ClassId × FieldType)} {s : State} {cA c0 : ClassId} {C : String} (k : Nat) (h : va_K D cl (tys ++ [(cA, .object C)]) s) (hk : (tys ++ [(cA, FieldType.object C)])[k]? = some (c0, .object C)) : cA = c0 := by
  obtain ⟨_, _, _, _, _, h1⟩ := (h.2 tys.length (cA, .object C) (by simp)).2
  obtain ⟨_, _, _, _, _, h2⟩ := (h.2 k (c0, .object C) hk).2
  exact Option.some.inj (h1.symm.trans h2)
theorem jKeep {D : va_G} {cl : List vw_C} {ws : va_W} {H H1 : Heap} (h : va_P D cl ws H) (hk : ∀ q : Nat, q < H.size → H1[q]? = H[q]?) : va_P D cl ws H1 := fun k q hq => by
  have a := h k q hq
  have b := a.lt
  exact a.kept (hk _ b)
theorem jKeepF {A : Nat → Prop} {s t : State} {H : Heap} {locs : List Loc} (hS : va_S A s.heap H locs) (hz : H.size ≤ t.heap.size) (hk : ∀ q : Nat, q < H.size → t.heap[q]? = H[q]?) : va_F A s t :=
  ⟨Nat.le_trans hS.1 hz, fun q h1 h2 => (hk q (Nat.lt_of_lt_of_le h1 hS.1)).trans (hS.2.1 q h1 h2)⟩
theorem vp_in_lit {i : Int32} {n : Nat} (h1 : 0 ≤ i.toInt) (h2 : i.toInt < n) : vp_in i n := vp_in_iff.mpr ⟨h1, h2⟩
def jG4 (a b c d : Nat) : Nat → Option Nat := fun k => if k = 0 then some a else if k = 1 then some b else if k = 2 then some c else if k = 3 then some d else none
def jEx : List String := ["java/lang/RuntimeException", "java/lang/Exception"]
theorem jEx_at_40 {args : Array Value} {s : State} (hts : ∀ w ∈ jW, w.before args s = true) (hN : jN s) : ∀ w ∈ vx_atS R_OM 40 "java/lang/IllegalArgumentException" jEx, w.before args s = true := by
  refine vx_hat (B := (jND.map fun q => Cond.declares q) ++ (jNC.map fun q => Cond.castable q.1 q.2)) (fun w hw => hts w ?_) (by decide +kernel) ?_
  · revert w hw
    decide +kernel
  · intro w hw
    rcases List.mem_append.mp hw with hw | hw
    · obtain ⟨q, hq, rfl⟩ := List.mem_map.mp hw
      exact va_Nw.use rfl (hN.2.2.1 q hq)
    · obtain ⟨q, hq, rfl⟩ := List.mem_map.mp hw
      exact va_Nw.use rfl (hN.2.2.2.1 q hq)
theorem jEx_at_51 {args : Array Value} {s : State} (hts : ∀ w ∈ jW, w.before args s = true) (hN : jN s) : ∀ w ∈ vx_atS R_OM 51 "java/lang/UnsupportedOperationException" jEx, w.before args s = true := by
  refine vx_hat (B := (jND.map fun q => Cond.declares q) ++ (jNC.map fun q => Cond.castable q.1 q.2)) (fun w hw => hts w ?_) (by decide +kernel) ?_
  · revert w hw
    decide +kernel
  · intro w hw
    rcases List.mem_append.mp hw with hw | hw
    · obtain ⟨q, hq, rfl⟩ := List.mem_map.mp hw
      exact va_Nw.use rfl (hN.2.2.1 q hq)
    · obtain ⟨q, hq, rfl⟩ := List.mem_map.mp hw
      exact va_Nw.use rfl (hN.2.2.2.1 q hq)
theorem jEx_at_78 {args : Array Value} {s : State} (hts : ∀ w ∈ jW, w.before args s = true) (hN : jN s) : ∀ w ∈ vx_atS R_OM 78 "java/lang/IndexOutOfBoundsException" jEx, w.before args s = true := by
  refine vx_hat (B := (jND.map fun q => Cond.declares q) ++ (jNC.map fun q => Cond.castable q.1 q.2)) (fun w hw => hts w ?_) (by decide +kernel) ?_
  · revert w hw
    decide +kernel
  · intro w hw
    rcases List.mem_append.mp hw with hw | hw
    · obtain ⟨q, hq, rfl⟩ := List.mem_map.mp hw
      exact va_Nw.use rfl (hN.2.2.1 q hq)
    · obtain ⟨q, hq, rfl⟩ := List.mem_map.mp hw
      exact va_Nw.use rfl (hN.2.2.2.1 q hq)
theorem jEx_ot_40 : ∀ w ∈ Cond.classLink R_OM 36 "java/lang/IllegalArgumentException" :: Cond.initialized "java/lang/IllegalArgumentException" :: vx_atS R_OM 40 "java/lang/IllegalArgumentException" jEx, vx_ot w = true := by decide +kernel
theorem jEx_ot_51 : ∀ w ∈ Cond.classLink R_OM 47 "java/lang/UnsupportedOperationException" :: Cond.initialized "java/lang/UnsupportedOperationException" :: vx_atS R_OM 51 "java/lang/UnsupportedOperationException" jEx, vx_ot w = true := by decide +kernel
theorem jEx_ot_78 : ∀ w ∈ Cond.classLink R_OM 74 "java/lang/IndexOutOfBoundsException" :: Cond.initialized "java/lang/IndexOutOfBoundsException" :: vx_atS R_OM 78 "java/lang/IndexOutOfBoundsException" jEx, vx_ot w = true := by decide +kernel
