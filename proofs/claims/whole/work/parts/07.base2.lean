/-! more of the base: the table of steps' ends, arrays of references, what a throw leaves -/
def jSEi : Nat → Int32 := fun k => if k = 0 then 4 else if k = 1 then 8 else if k = 2 then 24 else 6
theorem jx_ref {D : va_G} {cl : List vw_C} {tys : List (ClassId × FieldType)} {s : State} {cA c0 : ClassId} {C : String} (k : Nat) (h : va_K D cl (tys ++ [(cA, .object C)]) s) (hk : (tys ++ [(cA, FieldType.object C)])[k]? = some (c0, .object C)) : cA = c0 := by
  obtain ⟨_, _, _, _, _, h1⟩ := (h.2 tys.length (cA, .object C) (by simp)).2
  obtain ⟨_, _, _, _, _, h2⟩ := (h.2 k (c0, .object C) hk).2
  exact Option.some.inj (h1.symm.trans h2)
theorem jKeep {D : va_G} {cl : List vw_C} {ws : va_W} {H H1 : Heap} (h : va_P D cl ws H) (hk : ∀ q : Nat, q < H.size → H1[q]? = H[q]?) : va_P D cl ws H1 := fun k q hq => by
  have a := h k q hq
  have b := a.lt
  exact a.kept (hk _ b)
theorem jKeepF {A : Nat → Prop} {s t : State} {H : Heap} {locs : List Loc} (hS : va_S A s.heap H locs) (hz : H.size ≤ t.heap.size) (hk : ∀ q : Nat, q < H.size → t.heap[q]? = H[q]?) : va_F A s t :=
  ⟨Nat.le_trans hS.1 hz, fun q h1 h2 => (hk q (Nat.lt_of_lt_of_le h1 hS.1)).trans (hS.2.1 q h1 h2)⟩
theorem vp_in_lit {i : Int32} {n : Nat} (h1 : 0 ≤ i.toInt) (h2 : i.toInt < n) : vp_in i n := vp_in_iff.mpr ⟨h1, h2⟩
def jG4 (a b c d : Nat) : Nat → Option Nat := fun k => if k = 0 then some a else if k = 1 then some b else if k = 2 then some c else if k = 3 then some d else none
theorem jG4_eq {a b c d : Nat} : va_up (va_up (va_up (va_up (fun _ => none) (0 : Int32).toNatClampNeg (some a)) (1 : Int32).toNatClampNeg (some b)) (2 : Int32).toNatClampNeg (some c)) (3 : Int32).toNatClampNeg (some d) = jG4 a b c d := by
  funext k
  have e0 : (0 : Int32).toNatClampNeg = 0 := by decide
  have e1 : (1 : Int32).toNatClampNeg = 1 := by decide
  have e2 : (2 : Int32).toNatClampNeg = 2 := by decide
  have e3 : (3 : Int32).toNatClampNeg = 3 := by decide
  simp only [va_up, jG4, e0, e1, e2, e3]
  by_cases h0 : k = 0
  · subst h0; rfl
  by_cases h1 : k = 1
  · subst h1; rfl
  by_cases h2 : k = 2
  · subst h2; rfl
  by_cases h3 : k = 3
  · subst h3; rfl
  simp [h0, h1, h2, h3]
/-- a call that answers a reference, or throws -/
theorem vx_callr {p : Program} {l : Launch} {e : Env} {R : Room} {s : State} {m : MethodId} {args : Array Value} {below : List Frame} {meth : Method} {c : Code} {H : Heap} {locs : List Loc} {cells slots : Nat} {Q : State → Prop} {mc ms : Nat} {free : Addr → Prop} {A0 A1 : Nat → Prop} {H0 : Heap} {a : Array Value} {pc : Nat} {ls : Array Slot} {st0 rest : List Value}
    {S SX : Type} {post : S → Prop} {px : SX → Prop} {B : S → Nat → State → Prop} {BX : String → SX → State → Prop} {AX : Nat → Prop} (hr : vx_Run p l e R s m args below meth c H locs cells slots mc ms (F0 m pc ls st0) rest (va_Qr post B A1 a) (vx_X px BX AX) free) (hS : va_S A0 H0 H locs) (hA : ∀ q, q < H.size → A1 q → A0 q) (hf : ∀ q, free q → A0 q) (hAX : ∀ q, q < H.size → AX q → A0 q)
    (kx : ∀ (E : String) (ce : Cell) (q9 : Addr) (u : SX) (t : State) (H1 : Heap) (locs1 : List Loc), t.heap = H1 → s.vm.Alike t.vm → px u → BX E u t → H.size ≤ H1.size → (∀ q : Nat, q < H.size → ¬ AX q → H1[q]? = H[q]?) → va_S A0 H0 H1 locs1 → H1[q9]? = some ce → ce.vm = .none → s.vm.findClass E = some ce.cls → vx_W p l e R s m args below meth c H1 locs1 (cells + mc) (slots + ms) Q (F0 m pc ls rest) q9)
    (kk : ∀ (u : S) (ra : Nat) (t : State) (H1 : Heap) (locs1 : List Loc), t.heap = H1 → s.vm.Alike t.vm → post u → B u ra t → H.size ≤ H1.size → (∀ q : Nat, q < H.size → ¬ A1 q → H1[q]? = H[q]?) → va_S A0 H0 H1 locs1 → W p l e R s m args below meth c H1 locs1 (cells + mc) (slots + ms) Q (F0 m (pc + 3) ls (.ref ra :: rest))) : W p l e R s m args below meth c H locs cells slots Q (F0 m pc ls st0) := by
  intro T hT X
  rcases hr T hT X with ⟨v, st₀, t, T', L, h0, X', hL, e1, e2, ⟨⟨u, ra, hv, hp, hb⟩, hF⟩, st⟩ | ⟨q, st₀, t, T', L, E, ce, h0, X', hL, e1, e2, ⟨u, hp, hb, hF⟩, hce, hcv, hcl, st⟩
  · cases hv
    obtain ⟨k1, k2, k3⟩ := vx_keep h0 e1 hS hA hf hL hF
    obtain ⟨t2, a1, b1⟩ := kk u ra t T'.heap (locs ++ L) e1.symm (by rw [← e2]; exact X'.warmed.alike) hp hb k1 k2 k3 T' rfl X'
    exact ⟨t2, st t2 a1, b1⟩
  · obtain ⟨k1, k2, k3⟩ := vx_keep h0 e1 hS hAX hf hL hF
    obtain ⟨t2, a1, b1⟩ := kx E ce q u t T'.heap (locs ++ L) e1.symm (by rw [← e2]; exact X'.warmed.alike) hp hb k1 k2 k3 (by rw [e1]; exact hce) hcv hcl T' rfl X'
    exact ⟨t2, st.trans a1, b1⟩
def jEx : List String := ["java/lang/RuntimeException", "java/lang/Exception"]
theorem jEx_at_40 {args : Array Value} {s : State} (hts : ∀ w ∈ jW, w.before args s = true) (hN : jN s) : ∀ w ∈ vx_atS R_OM 40 "java/lang/IllegalArgumentException" jEx, w.before args s = true := by
  refine vx_hat (B := (jND.map fun q => Cond.declares q) ++ (jNC.map fun q => Cond.castable q.1 q.2)) (fun w hw => hts w ?_) (by decide +kernel) ?_
  · revert w hw
    decide +kernel
  · intro w hw
    rcases List.mem_append.mp hw with hw | hw
    · obtain ⟨q, hq, rfl⟩ := List.mem_map.mp hw
      exact va_Nw.use rfl (hN.2.2.1 q hq)
    · obtain ⟨q, hq, rfl⟩ := List.mem_map.mp hw
      exact va_Nw.use rfl (hN.2.2.2.1 q hq)
theorem jEx_at_51 {args : Array Value} {s : State} (hts : ∀ w ∈ jW, w.before args s = true) (hN : jN s) : ∀ w ∈ vx_atS R_OM 51 "java/lang/UnsupportedOperationException" jEx, w.before args s = true := by
  refine vx_hat (B := (jND.map fun q => Cond.declares q) ++ (jNC.map fun q => Cond.castable q.1 q.2)) (fun w hw => hts w ?_) (by decide +kernel) ?_
  · revert w hw
    decide +kernel
  · intro w hw
    rcases List.mem_append.mp hw with hw | hw
    · obtain ⟨q, hq, rfl⟩ := List.mem_map.mp hw
      exact va_Nw.use rfl (hN.2.2.1 q hq)
    · obtain ⟨q, hq, rfl⟩ := List.mem_map.mp hw
      exact va_Nw.use rfl (hN.2.2.2.1 q hq)
theorem jEx_at_78 {args : Array Value} {s : State} (hts : ∀ w ∈ jW, w.before args s = true) (hN : jN s) : ∀ w ∈ vx_atS R_OM 78 "java/lang/IndexOutOfBoundsException" jEx, w.before args s = true := by
  refine vx_hat (B := (jND.map fun q => Cond.declares q) ++ (jNC.map fun q => Cond.castable q.1 q.2)) (fun w hw => hts w ?_) (by decide +kernel) ?_
  · revert w hw
    decide +kernel
  · intro w hw
    rcases List.mem_append.mp hw with hw | hw
    · obtain ⟨q, hq, rfl⟩ := List.mem_map.mp hw
      exact va_Nw.use rfl (hN.2.2.1 q hq)
    · obtain ⟨q, hq, rfl⟩ := List.mem_map.mp hw
      exact va_Nw.use rfl (hN.2.2.2.1 q hq)
theorem jEx_ot_40 : ∀ w ∈ Cond.classLink R_OM 36 "java/lang/IllegalArgumentException" :: Cond.initialized "java/lang/IllegalArgumentException" :: vx_atS R_OM 40 "java/lang/IllegalArgumentException" jEx, vx_ot w = true := by decide +kernel
theorem jEx_ot_51 : ∀ w ∈ Cond.classLink R_OM 47 "java/lang/UnsupportedOperationException" :: Cond.initialized "java/lang/UnsupportedOperationException" :: vx_atS R_OM 51 "java/lang/UnsupportedOperationException" jEx, vx_ot w = true := by decide +kernel
theorem jEx_ot_78 : ∀ w ∈ Cond.classLink R_OM 74 "java/lang/IndexOutOfBoundsException" :: Cond.initialized "java/lang/IndexOutOfBoundsException" :: vx_atS R_OM 78 "java/lang/IndexOutOfBoundsException" jEx, vx_ot w = true := by decide +kernel
