/-! more of the base: the table of steps' ends, arrays of references, what a throw leaves -/
def jSEi : Nat → Int32 := fun k => if k = 0 then 4 else if k = 1 then 8 else if k = 2 then 24 else 6
theorem jx_ref {D : va_G} {cl : List vw_C} {tys : List (ClassId × FieldType)} {s : State} {cA c0 : ClassId} {C : String} (k : Nat) (h : va_K D cl (tys ++ [(cA, .object C)]) s) (hk : (tys ++ [(cA, FieldType.object C)])[k]? = some (c0, .object C)) : cA = c0 := by
  obtain ⟨_, _, _, _, _, h1⟩ := (h.2 tys.length (cA, .object C) (by simp)).2
  obtain ⟨_, _, _, _, _, h2⟩ := (h.2 k (c0, .object C) hk).2
  exact Option.some.inj (h1.symm.trans h2)
theorem jKeep {D : va_G} {cl : List vw_C} {ws : va_W} {H H1 : Heap} (h : va_P D cl ws H) (hk : ∀ q : Nat, q < H.size → H1[q]? = H[q]?) : va_P D cl ws H1 := fun k q hq => by
  have a := h k q hq
  have b := a.lt
  exact a.kept (hk _ b)
theorem jKeepF {A : Nat → Prop} {s t : State} {H : Heap} {locs : List Loc} (hS : va_S A s.heap H locs) (hz : H.size ≤ t.heap.size) (hk : ∀ q : Nat, q < H.size → t.heap[q]? = H[q]?) : va_F A s t :=
  ⟨Nat.le_trans hS.1 hz, fun q h1 h2 => (hk q (Nat.lt_of_lt_of_le h1 hS.1)).trans (hS.2.1 q h1 h2)⟩
