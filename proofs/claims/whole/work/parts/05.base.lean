/-! the ground that all contracts share: what is known of the start, and stays -/
def jZ (v : Int32) : Prop := v = 0 ∨ v = 1
theorem jZ_n {v : Int32} (h : jZ v) : narrow .boolean (.int v) = .int v := by rcases h with rfl | rfl <;> rfl
theorem jZ_f {v : Int32} (h : jZ v) : fits .boolean (.int v) = true := by rcases h with rfl | rfl <;> rfl
abbrev jT (cI cJ cZ cQ : ClassId) : List (ClassId × FieldType) := [(cI, .int), (cJ, .long), (cZ, .boolean), (cQ, .object R_FI)]
def jNF : List (String × Nat × String × String × String × String) := [("OrderMachines$Explorer", 55, "OrderMachines$Room", "memories", "[J", "OrderMachines"), ("OrderMachines$Explorer", 59, "OrderMachines$Room", "buffers", "[J", "OrderMachines"), ("OrderMachines$Explorer", 47, "OrderMachines$Room", "size", "I", "OrderMachines"), ("OrderMachines$Explorer", 51, "OrderMachines$Room", "crowded", "Z", "OrderMachines"), ("OrderMachines$Explorer", 88, "OrderMachines$Machine", "nextMemory", "J", "OrderMachines"), ("OrderMachines$Explorer", 92, "OrderMachines$Machine", "nextBuffers", "J", "OrderMachines"), ("OrderMachines", 134, "OrderMachines$Findings", "fresh", "Z", "OrderMachines"), ("OrderMachines$Explorer", 77, "OrderMachines$Findings", "crowded", "Z", "OrderMachines"), ("OrderMachines", 142, "OrderMachines$Findings", "crowded", "Z", "OrderMachines"), ("OrderMachines", 83, "OrderMachines$Findings", "stateCount", "I", "OrderMachines"), ("OrderMachines$Explorer", 107, "OrderMachines$Findings", "stuckCount", "I", "OrderMachines"), ("OrderMachines", 121, "OrderMachines$Findings", "stuckCount", "I", "OrderMachines"), ("OrderMachines", 92, "OrderMachines$Findings", "cutCount", "I", "OrderMachines"), ("OrderMachines", 66, "OrderMachines$Findings", "endCount", "I", "OrderMachines")]
def jNM : List (String × Nat × MethodName × String) := [("OrderMachines", 11, ⟨"OrderMachines$Program", "<init>", "()V"⟩, "OrderMachines"), ("OrderMachines$Explorer", 11, ⟨"OrderMachines$Room", "<init>", "()V"⟩, "OrderMachines"), ("OrderMachines", 31, ⟨"OrderMachines$Findings", "<init>", "()V"⟩, "OrderMachines"), ("OrderMachines$Program", 18, ⟨"OrderMachines", "isDigit", "(I)Z"⟩, "OrderMachines")]
def jND : List MethodName := [⟨"java/lang/RuntimeException", "<init>", "()V"⟩, ⟨"java/lang/RuntimeException", "<init>", "(Ljava/lang/String;)V"⟩, ⟨"java/lang/Exception", "<init>", "()V"⟩, ⟨"java/lang/Exception", "<init>", "(Ljava/lang/String;)V"⟩, ⟨"java/lang/Throwable", "<init>", "()V"⟩, ⟨"java/lang/Throwable", "<init>", "(Ljava/lang/String;)V"⟩]
def jNC : List (String × String) := [("java/lang/IllegalArgumentException", "java/lang/IllegalArgumentException"), ("java/lang/UnsupportedOperationException", "java/lang/UnsupportedOperationException"), ("java/lang/IndexOutOfBoundsException", "java/lang/IndexOutOfBoundsException"), ("java/lang/ArrayIndexOutOfBoundsException", "java/lang/IndexOutOfBoundsException")]
def jNN : List (String × String) := [("java/lang/UnsupportedOperationException", "java/lang/IllegalArgumentException"), ("java/lang/IndexOutOfBoundsException", "java/lang/IllegalArgumentException"), ("java/lang/IndexOutOfBoundsException", "java/lang/UnsupportedOperationException")]
def jSt : List (Nat × String) := [(38, "no such action"), (49, "the thread has five actions"), (107, "no such kind"), (145, "no room for the states"), (76, "no such outcome"), (86, "no such outcome or step"), (95, "no such cut"), (116, "no such place or number")]
/-- words that the tables alone decide, but that are not among the good ones -/
def jN (U : State) : Prop := (∀ q ∈ jNF, va_Nw (.fieldLinkNest q.1 q.2.1 q.2.2.1 q.2.2.2.1 q.2.2.2.2.1 q.2.2.2.2.2) U) ∧ (∀ q ∈ jNM, va_Nw (.methodLinkNest q.1 q.2.1 q.2.2.1 q.2.2.2) U) ∧ (∀ q ∈ jND, va_Nw (.declares q) U) ∧ (∀ q ∈ jNC, va_Nw (.castable q.1 q.2) U) ∧ (∀ q ∈ jNN, va_Nc q.1 q.2 U) ∧ (∀ q ∈ jSt, ∃ a : Nat, vk_R R_OM q.1 q.2 a U) ∧ va_AO R_FI U
theorem jN.warm {s U : State} (hW : s.WarmedH U.vm) (h : jN s) : jN U :=
  ⟨fun q hq => va_Nw.warmF hW (h.1 q hq), fun q hq => va_Nw.warmM hW (h.2.1 q hq), fun q hq => va_Nw.warmD hW (h.2.2.1 q hq), fun q hq => va_Nw.warmC hW (h.2.2.2.1 q hq), fun q hq => va_Nc.moved hW.alike (h.2.2.2.2.1 q hq), fun q hq => (h.2.2.2.2.2.1 q hq).elim fun a ha => ⟨a, vk_R.warm hW ha⟩, va_AO.moved hW.alike h.2.2.2.2.2.2⟩
theorem jN.same {u U : State} (e : u.vm = U.vm) (h : jN u) : jN U :=
  ⟨fun q hq => va_Nw.same rfl e (h.1 q hq), fun q hq => va_Nw.same rfl e (h.2.1 q hq), fun q hq => va_Nw.same rfl e (h.2.2.1 q hq), fun q hq => va_Nw.same rfl e (h.2.2.2.1 q hq), fun q hq => va_Nc.moved (e ▸ Vm.Alike.refl u.vm) (h.2.2.2.2.1 q hq), fun q hq => (h.2.2.2.2.2.1 q hq).elim fun a ha => ⟨a, vk_R.same e.symm ha⟩, va_AO.moved (e ▸ Vm.Alike.refl u.vm) h.2.2.2.2.2.2⟩
def jSE : Nat → Value := fun k => .int (if k = 0 then 4 else if k = 1 then 8 else if k = 2 then 24 else 6)
/-- what lies in statics: the table of steps' ends, and two of Throwable -/
def jH (A : Nat → Prop) (U : State) (H : Heap) : Prop := (∃ t : Nat, va_Z R_MA "STEPS_END" "[I" (.ref t) A U H ∧ va_T .int t 4 jSE A U H) ∧ vx_Zq Bundle.tN "UNASSIGNED_STACK" Bundle.steD A U H ∧ vx_Zq Bundle.tN "SUPPRESSED_SENTINEL" Bundle.listD A U H
theorem jH.moved {A : Nat → Prop} {u U : State} {H : Heap} (hvm : u.vm.Alike U.vm) (h : jH A u H) : jH A U H :=
  ⟨h.1.elim fun t q => ⟨t, q.1.moved hvm, q.2.moved hvm⟩, h.2.1.moved hvm, h.2.2.moved hvm⟩
theorem jH.kept {A : Nat → Prop} {U : State} {H H1 : Heap} (h : jH A U H) (hq : ∀ a : Nat, a < H.size → ¬ A a → H1[a]? = H[a]?) : jH A U H1 :=
  ⟨h.1.elim fun t q => ⟨t, q.1.kept hq, q.2.kept hq⟩, h.2.1.kept hq, h.2.2.kept hq⟩
theorem jH.narrow {A B : Nat → Prop} {U : State} {H : Heap} (h : jH A U H) (hAB : ∀ q, B q → A q) : jH B U H :=
  ⟨h.1.elim fun t q => ⟨t, q.1.narrow hAB, q.2.narrow hAB⟩, h.2.1.narrow hAB, h.2.2.narrow hAB⟩
def jS (A : Nat → Prop) (U : State) (H : Heap) : Prop := jN U ∧ jH A U H
theorem jS.call {A B : Nat → Prop} {s U : State} {H : Heap} {locs : List Loc} (hZ : jS A s s.heap) (hS : va_S A s.heap H locs) (hF : ∀ q, B q → A q) (hU : U.heap = H) (hW : s.WarmedH U.vm) : jS B U U.heap :=
  ⟨hZ.1.warm hW, by rw [hU]; exact ((hZ.2.kept hS.2.1).narrow hF).moved hW.alike⟩
/-- the method's own ground: machine, code, words, classes, statics, what may be written -/
def jC (p : Program) (l : Launch) (s : State) (m : MethodId) (args : Array Value) (meth : Method) (c : Code) (code : ByteArray) (ret : Option FieldType) (nL : Nat) (own : String) (D : va_G) (cI cJ cZ cQ : ClassId) (A : Nat → Prop) : Prop :=
  p.tables.exec = Jvm.exec ∧ c.code = code ∧ meth.sig.returnType = ret ∧ c.maxLocals = nL ∧ s.vm.findClass own = some m.cls ∧ (∀ w ∈ jW, w.before args s = true) ∧ meth.locks = false ∧ va_K D vwCl (jT cI cJ cZ cQ) s ∧ jS A s s.heap ∧ (∀ q : Nat, s.heap.size ≤ q → A q) ∧ l.stackTraces = false
/-- a contract's start: the world ws, the classes, the statics -/
def jPre (l : Launch) (D : va_G) (cI cJ cZ cQ : ClassId) (ws : va_W) (sz : Nat) (av : List Value) : Array Value → State → Prop := va_Pc av (fun U => U.heap.size = sz ∧ va_P D vwCl ws U.heap ∧ va_K D vwCl (jT cI cJ cZ cQ) U ∧ va_D (fun _ => True) ws ∧ jS (va_A ws sz) U U.heap ∧ l.stackTraces = false)
theorem jPre_blind {l : Launch} {D : va_G} {cI cJ cZ cQ : ClassId} {ws : va_W} {sz : Nat} {av : List Value} : FrameBlind (jPre l D cI cJ cZ cQ ws sz av) := fun a U g mk q => by
  obtain ⟨q0, q1, qP, qK, qD, qZ, qs⟩ := q
  exact ⟨q0, q1, qP, va_K.moved (u := U) (U := U.calling g mk a) (Vm.Alike.refl U.vm) qK, qD, ⟨qZ.1.same rfl, jH.moved (u := U) (U := U.calling g mk a) (Vm.Alike.refl U.vm) qZ.2⟩, qs⟩
theorem jPre_in {l : Launch} {D : va_G} {cI cJ cZ cQ : ClassId} {wc : va_W} {av : List Value} {s : State} {H : Heap} {A : Nat → Prop} {locs : List Loc} (hP : va_P D vwCl wc H) (hK : va_K D vwCl (jT cI cJ cZ cQ) s) (hD : va_D A wc) (hZ : jS A s s.heap) (hS : va_S A s.heap H locs) (hF : ∀ q, va_A wc H.size q → A q) (hst : l.stackTraces = false) : ∀ U : State, U.heap = H → s.WarmedH U.vm → jPre l D cI cJ cZ cQ wc H.size av av.toArray U :=
  fun U hU hW => ⟨rfl, by rw [hU], by rw [hU]; exact hP, va_K.moved hW.alike hK, hD.weaken (fun _ _ _ _ => trivial), hZ.call hS hF hU hW, hst⟩
/-- the world behind a method -/
abbrev jPost (D : va_G) (tys : List (ClassId × FieldType)) (A : Nat → Prop) (ws : va_W) (t : State) : Prop := va_P D vwCl ws t.heap ∧ va_K D vwCl tys t ∧ va_D A ws
/-- calls' words -/
theorem jG {y : MethodName} {b : ByteArray} {n : Nat} {r : Option FieldType} (h : Cond.code y b n r ∈ jW) : GoodIn jW (Cond.code y b n r :: jW) := fun w hw => by
  rcases List.mem_cons.mp hw with rfl | hw
  · exact ⟨h, good_of_word (jW_good h)⟩
  · exact ⟨hw, good_of_word (jW_good hw)⟩
theorem jGW {y : MethodName} {b : ByteArray} {n : Nat} {r : Option FieldType} {hh : List (Nat × Nat × Nat × Nat)} (h : Cond.codeWith y b n r hh ∈ jW) : GoodIn jW (Cond.codeWith y b n r hh :: jW) := fun w hw => by
  rcases List.mem_cons.mp hw with rfl | hw
  · exact ⟨h, good_of_word (jW_good h)⟩
  · exact ⟨hw, good_of_word (jW_good hw)⟩
theorem jGl {l : List Cond} (h : ∀ w ∈ l, w ∈ jW) : GoodIn jW l := fun w hw => ⟨h w hw, good_of_word (jW_good (h w hw))⟩
/-- one class for all arrays of a kind -/
theorem jx_int {D : va_G} {cl : List vw_C} {tys : List (ClassId × FieldType)} {s : State} {cA c0 : ClassId} (k : Nat) (h : va_K D cl (tys ++ [(cA, .int)]) s) (hk : (tys ++ [(cA, FieldType.int)])[k]? = some (c0, .int)) : cA = c0 := by
  have h1 := va_nm_int (h.2 tys.length (cA, .int) (by simp)).2
  have h2 := va_nm_int (h.2 k (c0, .int) hk).2
  exact Option.some.inj (h1.symm.trans h2)
theorem jx_long {D : va_G} {cl : List vw_C} {tys : List (ClassId × FieldType)} {s : State} {cA c0 : ClassId} (k : Nat) (h : va_K D cl (tys ++ [(cA, .long)]) s) (hk : (tys ++ [(cA, FieldType.long)])[k]? = some (c0, .long)) : cA = c0 := by
  have h1 := va_nm_long (h.2 tys.length (cA, .long) (by simp)).2
  have h2 := va_nm_long (h.2 k (c0, .long) hk).2
  exact Option.some.inj (h1.symm.trans h2)
theorem jx_bool {D : va_G} {cl : List vw_C} {tys : List (ClassId × FieldType)} {s : State} {cA c0 : ClassId} (k : Nat) (h : va_K D cl (tys ++ [(cA, .boolean)]) s) (hk : (tys ++ [(cA, FieldType.boolean)])[k]? = some (c0, .boolean)) : cA = c0 := by
  have h1 := va_nm_boolean (h.2 tys.length (cA, .boolean) (by simp)).2
  have h2 := va_nm_boolean (h.2 k (c0, .boolean) hk).2
  exact Option.some.inj (h1.symm.trans h2)
