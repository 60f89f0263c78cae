/-- what OrderMachines$Machine.doneShift(I)I leaves -/
abbrev jQ_MA_doneShift (dC : Nat → ClassId) (dI : Nat → Nat → Nat) (cI cJ cZ cQ : ClassId) (A : Nat → Prop) (Post : Int32 → Prop) : Array Value → State → Outcome → State → Prop := va_Qi (fun (r : Int32) (u : Unit) => Post r) (fun (u : Unit) (t : State) => match u with
  | _ => jPost (dC, dI) (jT cI cJ cZ cQ) A [] t) A
/-- OrderMachines$Machine.doneShift(I)I -/
def wp_MA_doneShift (Post : Int32 → Prop) (t0 : Int32) : Prop :=
  Post (40 + (3 * t0))
set_option maxHeartbeats 4000000 in
set_option maxRecDepth 100000 in
theorem c_MA_doneShift (l : Launch) (dC : Nat → ClassId) (dI : Nat → Nat → Nat) (cI cJ cZ cQ : ClassId)  (sz : Nat) (t0 : Int32) (Post : Int32 → Prop) (h : wp_MA_doneShift Post t0) : Met l y_MA_doneShift (.code y_MA_doneShift b_MA_doneShift 1 (some .int) :: jW) ({ frames := 10, cells := 0, slots := 0, locals := 150 } : Room) (jPre l (dC, dI) cI cJ cZ cQ [] sz [.int t0]) (jQ_MA_doneShift dC dI cI cJ cZ cQ (va_A [] sz)  Post) 0 0 (va_A [] sz) := by
  refine Met.ofW (cc := b_MA_doneShift) (maxL := 1) (ret := (some .int)) (by decide) rfl ?_
  intro p e s m args below meth c s₁ B hml hv
  obtain ⟨rfl, hsz, hP, hK, hD0, hZ, hst⟩ := hv
  subst hsz
  have hD := hD0.self (sz := s.heap.size)
  generalize hAe : va_A [] s.heap.size = A at hD hZ ⊢
  have hA : ∀ q : Nat, s.heap.size ≤ q → A q := fun q h => by rw [← hAe]; exact Or.inr h
  have C0 : jC p l s m ([.int t0] : List Value).toArray meth c b_MA_doneShift (some .int) 1 R_MA (dC, dI) cI cJ cZ cQ A := ⟨B.exec, B.bytes, B.returns, hml, findClass_of_methodNamed B.named, fun w hw => atoms_spec (ws := (.code y_MA_doneShift b_MA_doneShift 1 (some .int) :: jW)) B.pre w (List.mem_cons_of_mem _ hw), B.notSynchronized, hK, hZ, hA, hst⟩
  obtain ⟨hx, hb, hr, hml, hown, hts, hlocks, hK, hZ, hA, hst⟩ := id C0
  have hS : va_S A s.heap s.heap [] := va_S.rf
  have hl := lv_entry ([.int t0]) (n := 1) (Nat.le_of_ble_eq_true rfl)
  rw [lg_entry_eq]
  generalize (lg_sl ([.int t0]) ++ List.replicate (1 - (lg_sl ([.int t0])).length) Slot.unset).toArray = ls at hl ⊢
  have hl : lv_has ls 1 [(0, .int t0)] := hl
  obtain ⟨H, hH⟩ : ∃ H : Heap, H = s.heap := ⟨_, rfl⟩
  obtain ⟨locs, hlc⟩ : ∃ L : List Loc, L = [] := ⟨_, rfl⟩
  have hP : va_P (dC, dI) vwCl [] H := by rw [hH]; exact hP
  have hS : va_S A s.heap H locs := by rw [hH, hlc]; exact hS
  suffices hW9 : W p l e ({ frames := 10, cells := 0, slots := 0, locals := 150 } : Room) s m ([.int t0] : List Value).toArray below meth c H locs 0 0 (MQ below (jQ_MA_doneShift dC dI cI cJ cZ cQ A  Post) ([.int t0] : List Value).toArray s 0 0 A) (F0 m 0 ls []) by rw [hH, hlc] at hW9; exact hW9
  clear hH hlc
  rw [wp_MA_doneShift] at h
  refine lv_bipush (v := 40) hx hb d_MA_doneShift_0 (by decide) ?_
  refine lv_iconst (v := 3) hx hb d_MA_doneShift_2 (by decide) ?_
  refine lv_iload_n hx hb d_MA_doneShift_3 rfl (lv_at hl 0 rfl) ?_
  refine lv_imul hx hb d_MA_doneShift_4 ?_
  refine lv_iadd hx hb d_MA_doneShift_5 ?_
  have hP9 := hP
  have hD9 := hD
  exact W.iret (v := 40 + (3 * t0)) hx hb hr (fun t ht hW => ⟨⟨40 + (3 * t0), (), rfl, h, by rw [ht]; exact hP9, va_K.moved hW.alike hK, hD9⟩, hS.F ht⟩) hS.2.2 d_MA_doneShift_6

/-- what OrderMachines$Machine.placeShift(I)I leaves -/
abbrev jQ_MA_placeShift (dC : Nat → ClassId) (dI : Nat → Nat → Nat) (cI cJ cZ cQ : ClassId) (A : Nat → Prop) (Post : Int32 → Prop) : Array Value → State → Outcome → State → Prop := va_Qi (fun (r : Int32) (u : Unit) => Post r) (fun (u : Unit) (t : State) => match u with
  | _ => jPost (dC, dI) (jT cI cJ cZ cQ) A [] t) A
/-- OrderMachines$Machine.placeShift(I)I -/
def wp_MA_placeShift (Post : Int32 → Prop) (t0 : Int32) : Prop :=
  Post (2 * (3 - t0))
set_option maxHeartbeats 4000000 in
set_option maxRecDepth 100000 in
theorem c_MA_placeShift (l : Launch) (dC : Nat → ClassId) (dI : Nat → Nat → Nat) (cI cJ cZ cQ : ClassId)  (sz : Nat) (t0 : Int32) (Post : Int32 → Prop) (h : wp_MA_placeShift Post t0) : Met l y_MA_placeShift (.code y_MA_placeShift b_MA_placeShift 1 (some .int) :: jW) ({ frames := 10, cells := 0, slots := 0, locals := 150 } : Room) (jPre l (dC, dI) cI cJ cZ cQ [] sz [.int t0]) (jQ_MA_placeShift dC dI cI cJ cZ cQ (va_A [] sz)  Post) 0 0 (va_A [] sz) := by
  refine Met.ofW (cc := b_MA_placeShift) (maxL := 1) (ret := (some .int)) (by decide) rfl ?_
  intro p e s m args below meth c s₁ B hml hv
  obtain ⟨rfl, hsz, hP, hK, hD0, hZ, hst⟩ := hv
  subst hsz
  have hD := hD0.self (sz := s.heap.size)
  generalize hAe : va_A [] s.heap.size = A at hD hZ ⊢
  have hA : ∀ q : Nat, s.heap.size ≤ q → A q := fun q h => by rw [← hAe]; exact Or.inr h
  have C0 : jC p l s m ([.int t0] : List Value).toArray meth c b_MA_placeShift (some .int) 1 R_MA (dC, dI) cI cJ cZ cQ A := ⟨B.exec, B.bytes, B.returns, hml, findClass_of_methodNamed B.named, fun w hw => atoms_spec (ws := (.code y_MA_placeShift b_MA_placeShift 1 (some .int) :: jW)) B.pre w (List.mem_cons_of_mem _ hw), B.notSynchronized, hK, hZ, hA, hst⟩
  obtain ⟨hx, hb, hr, hml, hown, hts, hlocks, hK, hZ, hA, hst⟩ := id C0
  have hS : va_S A s.heap s.heap [] := va_S.rf
  have hl := lv_entry ([.int t0]) (n := 1) (Nat.le_of_ble_eq_true rfl)
  rw [lg_entry_eq]
  generalize (lg_sl ([.int t0]) ++ List.replicate (1 - (lg_sl ([.int t0])).length) Slot.unset).toArray = ls at hl ⊢
  have hl : lv_has ls 1 [(0, .int t0)] := hl
  obtain ⟨H, hH⟩ : ∃ H : Heap, H = s.heap := ⟨_, rfl⟩
  obtain ⟨locs, hlc⟩ : ∃ L : List Loc, L = [] := ⟨_, rfl⟩
  have hP : va_P (dC, dI) vwCl [] H := by rw [hH]; exact hP
  have hS : va_S A s.heap H locs := by rw [hH, hlc]; exact hS
  suffices hW9 : W p l e ({ frames := 10, cells := 0, slots := 0, locals := 150 } : Room) s m ([.int t0] : List Value).toArray below meth c H locs 0 0 (MQ below (jQ_MA_placeShift dC dI cI cJ cZ cQ A  Post) ([.int t0] : List Value).toArray s 0 0 A) (F0 m 0 ls []) by rw [hH, hlc] at hW9; exact hW9
  clear hH hlc
  rw [wp_MA_placeShift] at h
  refine lv_iconst (v := 2) hx hb d_MA_placeShift_0 (by decide) ?_
  refine lv_iconst (v := 3) hx hb d_MA_placeShift_1 (by decide) ?_
  refine lv_iload_n hx hb d_MA_placeShift_2 rfl (lv_at hl 0 rfl) ?_
  refine lv_isub hx hb d_MA_placeShift_3 ?_
  refine lv_imul hx hb d_MA_placeShift_4 ?_
  have hP9 := hP
  have hD9 := hD
  exact W.iret (v := 2 * (3 - t0)) hx hb hr (fun t ht hW => ⟨⟨2 * (3 - t0), (), rfl, h, by rw [ht]; exact hP9, va_K.moved hW.alike hK, hD9⟩, hS.F ht⟩) hS.2.2 d_MA_placeShift_5

/-- what OrderMachines$Machine.registerShift(II)I leaves -/
abbrev jQ_MA_registerShift (dC : Nat → ClassId) (dI : Nat → Nat → Nat) (cI cJ cZ cQ : ClassId) (A : Nat → Prop) (Post : Int32 → Prop) : Array Value → State → Outcome → State → Prop := va_Qi (fun (r : Int32) (u : Unit) => Post r) (fun (u : Unit) (t : State) => match u with
  | _ => jPost (dC, dI) (jT cI cJ cZ cQ) A [] t) A
/-- OrderMachines$Machine.registerShift(II)I -/
def wp_MA_registerShift (Post : Int32 → Prop) (t0 r0 : Int32) : Prop :=
  Post (2 * ((19 - (4 * t0)) - r0))
set_option maxHeartbeats 4000000 in
set_option maxRecDepth 100000 in
theorem c_MA_registerShift (l : Launch) (dC : Nat → ClassId) (dI : Nat → Nat → Nat) (cI cJ cZ cQ : ClassId)  (sz : Nat) (t0 r0 : Int32) (Post : Int32 → Prop) (h : wp_MA_registerShift Post t0 r0) : Met l y_MA_registerShift (.code y_MA_registerShift b_MA_registerShift 2 (some .int) :: jW) ({ frames := 10, cells := 0, slots := 0, locals := 150 } : Room) (jPre l (dC, dI) cI cJ cZ cQ [] sz [.int t0, .int r0]) (jQ_MA_registerShift dC dI cI cJ cZ cQ (va_A [] sz)  Post) 0 0 (va_A [] sz) := by
  refine Met.ofW (cc := b_MA_registerShift) (maxL := 2) (ret := (some .int)) (by decide) rfl ?_
  intro p e s m args below meth c s₁ B hml hv
  obtain ⟨rfl, hsz, hP, hK, hD0, hZ, hst⟩ := hv
  subst hsz
  have hD := hD0.self (sz := s.heap.size)
  generalize hAe : va_A [] s.heap.size = A at hD hZ ⊢
  have hA : ∀ q : Nat, s.heap.size ≤ q → A q := fun q h => by rw [← hAe]; exact Or.inr h
  have C0 : jC p l s m ([.int t0, .int r0] : List Value).toArray meth c b_MA_registerShift (some .int) 2 R_MA (dC, dI) cI cJ cZ cQ A := ⟨B.exec, B.bytes, B.returns, hml, findClass_of_methodNamed B.named, fun w hw => atoms_spec (ws := (.code y_MA_registerShift b_MA_registerShift 2 (some .int) :: jW)) B.pre w (List.mem_cons_of_mem _ hw), B.notSynchronized, hK, hZ, hA, hst⟩
  obtain ⟨hx, hb, hr, hml, hown, hts, hlocks, hK, hZ, hA, hst⟩ := id C0
  have hS : va_S A s.heap s.heap [] := va_S.rf
  have hl := lv_entry ([.int t0, .int r0]) (n := 2) (Nat.le_of_ble_eq_true rfl)
  rw [lg_entry_eq]
  generalize (lg_sl ([.int t0, .int r0]) ++ List.replicate (2 - (lg_sl ([.int t0, .int r0])).length) Slot.unset).toArray = ls at hl ⊢
  have hl : lv_has ls 2 [(0, .int t0), (1, .int r0)] := hl
  obtain ⟨H, hH⟩ : ∃ H : Heap, H = s.heap := ⟨_, rfl⟩
  obtain ⟨locs, hlc⟩ : ∃ L : List Loc, L = [] := ⟨_, rfl⟩
  have hP : va_P (dC, dI) vwCl [] H := by rw [hH]; exact hP
  have hS : va_S A s.heap H locs := by rw [hH, hlc]; exact hS
  suffices hW9 : W p l e ({ frames := 10, cells := 0, slots := 0, locals := 150 } : Room) s m ([.int t0, .int r0] : List Value).toArray below meth c H locs 0 0 (MQ below (jQ_MA_registerShift dC dI cI cJ cZ cQ A  Post) ([.int t0, .int r0] : List Value).toArray s 0 0 A) (F0 m 0 ls []) by rw [hH, hlc] at hW9; exact hW9
  clear hH hlc
  rw [wp_MA_registerShift] at h
  refine lv_iconst (v := 2) hx hb d_MA_registerShift_0 (by decide) ?_
  refine lv_bipush (v := 19) hx hb d_MA_registerShift_1 (by decide) ?_
  refine lv_iconst (v := 4) hx hb d_MA_registerShift_3 (by decide) ?_
  refine lv_iload_n hx hb d_MA_registerShift_4 rfl (lv_at hl 0 rfl) ?_
  refine lv_imul hx hb d_MA_registerShift_5 ?_
  refine lv_isub hx hb d_MA_registerShift_6 ?_
  refine lv_iload_n hx hb d_MA_registerShift_7 rfl (lv_at hl 1 rfl) ?_
  refine lv_isub hx hb d_MA_registerShift_8 ?_
  refine lv_imul hx hb d_MA_registerShift_9 ?_
  have hP9 := hP
  have hD9 := hD
  exact W.iret (v := 2 * ((19 - (4 * t0)) - r0)) hx hb hr (fun t ht hW => ⟨⟨2 * ((19 - (4 * t0)) - r0), (), rfl, h, by rw [ht]; exact hP9, va_K.moved hW.alike hK, hD9⟩, hS.F ht⟩) hS.2.2 d_MA_registerShift_10

/-- what OrderMachines$Machine.withNewest(II)I leaves -/
abbrev jQ_MA_withNewest (dC : Nat → ClassId) (dI : Nat → Nat → Nat) (cI cJ cZ cQ : ClassId) (A : Nat → Prop) (Post : Int32 → Prop) : Array Value → State → Outcome → State → Prop := va_Qi (fun (r : Int32) (u : Unit) => Post r) (fun (u : Unit) (t : State) => match u with
  | _ => jPost (dC, dI) (jT cI cJ cZ cQ) A [] t) A
def wp_MA_withNewest_2 (Post : Int32 → Prop)  : Nat → Int32 → Int32 → Int32 → Prop
  | 0, _, _, _ => False
  | n_2 + 1, L0, L1, L2 =>
    ((3 ≤ L2 → Post L0) ∧
    (¬ 3 ≤ L2 → ((¬ (L0 >>> ((L2 * 5) &&& 31)) = 0 → ∀ x1 : Int32, x1 = L2 + 1 → (wp_MA_withNewest_2 Post n_2) L0 L1 x1) ∧
      ((L0 >>> ((L2 * 5) &&& 31)) = 0 → Post (L0 ||| (L1 <<< ((L2 * 5) &&& 31)))))))
/-- OrderMachines$Machine.withNewest(II)I -/
def wp_MA_withNewest (Post : Int32 → Prop) (en ne : Int32) : Prop :=
  (∃ n_2 : Nat, wp_MA_withNewest_2 Post n_2 en ne 0)
set_option maxHeartbeats 4000000 in
set_option maxRecDepth 100000 in
theorem l_MA_withNewest_2 {p : Program} {l : Launch} {e : Env} {s : State} {m : MethodId} {args : Array Value} {below : List Frame} {meth : Method} {c : Code} {dC : Nat → ClassId} {dI : Nat → Nat → Nat} {cI cJ cZ cQ : ClassId} {A : Nat → Prop} {Post : Int32 → Prop} (C0 : jC p l s m args meth c b_MA_withNewest (some .int) 3 R_MA (dC, dI) cI cJ cZ cQ A)  : ∀ n9 : Nat, ∀ (L0 L1 L2 : Int32), ∀ (H : Heap) (locs : List Loc) (ls : Array Slot), wp_MA_withNewest_2 Post  n9 L0 L1 L2 → va_P (dC, dI) vwCl [] H → va_D A [] → va_S A s.heap H locs → lv_has ls 3 [(0, .int L0), (1, .int L1), (2, .int L2)] → W p l e ({ frames := 10, cells := 0, slots := 0, locals := 150 } : Room) s m args below meth c H locs 0 0 (MQ below (jQ_MA_withNewest dC dI cI cJ cZ cQ A  Post) args s 0 0 A) (F0 m 2 ls []) := by
  obtain ⟨hx, hb, hr, hml, hown, hts, hlocks, hK, hZ, hA, hst⟩ := id C0
  intro n9
  induction n9 with
  | zero =>
    intro L0 L1 L2 H locs ls h hP hD hS hl
    exact False.elim h
  | succ n_2 ih =>
    intro L0 L1 L2 H locs ls h hP hD hS hl
    rw [wp_MA_withNewest_2] at h
    refine lv_iload_n hx hb d_MA_withNewest_2 rfl (lv_at hl 2 rfl) ?_
    refine lv_iconst (v := 3) hx hb d_MA_withNewest_3 (by decide) ?_
    refine lv_icmp_ge (tgt := 29) hx hb d_MA_withNewest_4 (by decide) (fun c4 => ?_) (fun c4 => ?_)
    · have h := h.1 c4
      refine lv_iload_n hx hb d_MA_withNewest_29 rfl (lv_at hl 0 rfl) ?_
      have hP9 := hP
      have hD9 := hD
      exact W.iret (v := L0) hx hb hr (fun t ht hW => ⟨⟨L0, (), rfl, h, by rw [ht]; exact hP9, va_K.moved hW.alike hK, hD9⟩, hS.F ht⟩) hS.2.2 d_MA_withNewest_30
    · have h := h.2 c4
      refine lv_iload_n hx hb d_MA_withNewest_7 rfl (lv_at hl 0 rfl) ?_
      refine lv_iload_n hx hb d_MA_withNewest_8 rfl (lv_at hl 2 rfl) ?_
      refine lv_iconst (v := 5) hx hb d_MA_withNewest_9 (by decide) ?_
      refine lv_imul hx hb d_MA_withNewest_10 ?_
      refine lv_ishr hx hb d_MA_withNewest_11 ?_
      refine lv_if_ne (tgt := 23) hx hb d_MA_withNewest_12 (by decide) (fun c12 => ?_) (fun c12 => ?_)
      · have h := h.1 c12
        obtain ⟨x1, ex1⟩ : ∃ y : Int32, y = L2 + 1 := ⟨_, rfl⟩
        have h := h x1 ex1
        refine lv_iinc (v := x1) (lv' := [(2, .int x1), (0, .int L0), (1, .int L1)]) hx hb d_MA_withNewest_23 hl (k := 2) rfl (by rw [ex1]; rfl) (by decide) rfl (fun ls hl => ?_)
        refine lv_goto (tgt := 2) hx hb d_MA_withNewest_26 (by decide) ?_
        exact ih L0 L1 x1  H locs ls h hP hD hS (lv_sub hl [1, 2, 0] rfl)
      · have h := h.2 c12
        refine lv_iload_n hx hb d_MA_withNewest_15 rfl (lv_at hl 0 rfl) ?_
        refine lv_iload_n hx hb d_MA_withNewest_16 rfl (lv_at hl 1 rfl) ?_
        refine lv_iload_n hx hb d_MA_withNewest_17 rfl (lv_at hl 2 rfl) ?_
        refine lv_iconst (v := 5) hx hb d_MA_withNewest_18 (by decide) ?_
        refine lv_imul hx hb d_MA_withNewest_19 ?_
        refine lv_ishl hx hb d_MA_withNewest_20 ?_
        refine lv_ior hx hb d_MA_withNewest_21 ?_
        have hP9 := hP
        have hD9 := hD
        exact W.iret (v := L0 ||| (L1 <<< ((L2 * 5) &&& 31))) hx hb hr (fun t ht hW => ⟨⟨L0 ||| (L1 <<< ((L2 * 5) &&& 31)), (), rfl, h, by rw [ht]; exact hP9, va_K.moved hW.alike hK, hD9⟩, hS.F ht⟩) hS.2.2 d_MA_withNewest_22
set_option maxHeartbeats 4000000 in
set_option maxRecDepth 100000 in
theorem c_MA_withNewest (l : Launch) (dC : Nat → ClassId) (dI : Nat → Nat → Nat) (cI cJ cZ cQ : ClassId)  (sz : Nat) (en ne : Int32) (Post : Int32 → Prop) (h : wp_MA_withNewest Post en ne) : Met l y_MA_withNewest (.code y_MA_withNewest b_MA_withNewest 3 (some .int) :: jW) ({ frames := 10, cells := 0, slots := 0, locals := 150 } : Room) (jPre l (dC, dI) cI cJ cZ cQ [] sz [.int en, .int ne]) (jQ_MA_withNewest dC dI cI cJ cZ cQ (va_A [] sz)  Post) 0 0 (va_A [] sz) := by
  refine Met.ofW (cc := b_MA_withNewest) (maxL := 3) (ret := (some .int)) (by decide) rfl ?_
  intro p e s m args below meth c s₁ B hml hv
  obtain ⟨rfl, hsz, hP, hK, hD0, hZ, hst⟩ := hv
  subst hsz
  have hD := hD0.self (sz := s.heap.size)
  generalize hAe : va_A [] s.heap.size = A at hD hZ ⊢
  have hA : ∀ q : Nat, s.heap.size ≤ q → A q := fun q h => by rw [← hAe]; exact Or.inr h
  have C0 : jC p l s m ([.int en, .int ne] : List Value).toArray meth c b_MA_withNewest (some .int) 3 R_MA (dC, dI) cI cJ cZ cQ A := ⟨B.exec, B.bytes, B.returns, hml, findClass_of_methodNamed B.named, fun w hw => atoms_spec (ws := (.code y_MA_withNewest b_MA_withNewest 3 (some .int) :: jW)) B.pre w (List.mem_cons_of_mem _ hw), B.notSynchronized, hK, hZ, hA, hst⟩
  obtain ⟨hx, hb, hr, hml, hown, hts, hlocks, hK, hZ, hA, hst⟩ := id C0
  have hS : va_S A s.heap s.heap [] := va_S.rf
  have hl := lv_entry ([.int en, .int ne]) (n := 3) (Nat.le_of_ble_eq_true rfl)
  rw [lg_entry_eq]
  generalize (lg_sl ([.int en, .int ne]) ++ List.replicate (3 - (lg_sl ([.int en, .int ne])).length) Slot.unset).toArray = ls at hl ⊢
  have hl : lv_has ls 3 [(0, .int en), (1, .int ne)] := hl
  obtain ⟨H, hH⟩ : ∃ H : Heap, H = s.heap := ⟨_, rfl⟩
  obtain ⟨locs, hlc⟩ : ∃ L : List Loc, L = [] := ⟨_, rfl⟩
  have hP : va_P (dC, dI) vwCl [] H := by rw [hH]; exact hP
  have hS : va_S A s.heap H locs := by rw [hH, hlc]; exact hS
  suffices hW9 : W p l e ({ frames := 10, cells := 0, slots := 0, locals := 150 } : Room) s m ([.int en, .int ne] : List Value).toArray below meth c H locs 0 0 (MQ below (jQ_MA_withNewest dC dI cI cJ cZ cQ A  Post) ([.int en, .int ne] : List Value).toArray s 0 0 A) (F0 m 0 ls []) by rw [hH, hlc] at hW9; exact hW9
  clear hH hlc
  rw [wp_MA_withNewest] at h
  refine lv_iconst (v := 0) hx hb d_MA_withNewest_0 (by decide) ?_
  refine lv_istore_n (lv' := [(2, .int 0), (0, .int en), (1, .int ne)]) hx hb d_MA_withNewest_1 rfl hl (by decide) rfl (fun ls hl => ?_)
  obtain ⟨n_2, h⟩ := h
  exact l_MA_withNewest_2 C0  n_2 en ne 0  H locs ls h hP hD hS (lv_sub hl [1, 2, 0] rfl)

/-- what OrderMachines$Machine.newestFor(II)I leaves -/
abbrev jQ_MA_newestFor (dC : Nat → ClassId) (dI : Nat → Nat → Nat) (cI cJ cZ cQ : ClassId) (A : Nat → Prop) (Post : Int32 → Prop) : Array Value → State → Outcome → State → Prop := va_Qi (fun (r : Int32) (u : Unit) => Post r) (fun (u : Unit) (t : State) => match u with
  | _ => jPost (dC, dI) (jT cI cJ cZ cQ) A [] t) A
def wp_MA_newestFor_2 (Post : Int32 → Prop)  : Nat → Int32 → Int32 → Int32 → Prop
  | 0, _, _, _ => False
  | n_2 + 1, L0, L1, L2 =>
    ((L2 < 0 → Post (-1)) ∧
    (¬ L2 < 0 → ∀ x1 : Int32, x1 = (L0 >>> ((L2 * 5) &&& 31)) &&& 31 → ((¬ (x1 / 4) = (4 + L1) → ∀ x2 : Int32, x2 = L2 + (-1) → (wp_MA_newestFor_2 Post n_2) L0 L1 x2) ∧
      ((x1 / 4) = (4 + L1) → Post (x1 - x1 / 4 * 4)))))
/-- OrderMachines$Machine.newestFor(II)I -/
def wp_MA_newestFor (Post : Int32 → Prop) (en pl0 : Int32) : Prop :=
  (∃ n_2 : Nat, wp_MA_newestFor_2 Post n_2 en pl0 2)
set_option maxHeartbeats 4000000 in
set_option maxRecDepth 100000 in
theorem l_MA_newestFor_2 {p : Program} {l : Launch} {e : Env} {s : State} {m : MethodId} {args : Array Value} {below : List Frame} {meth : Method} {c : Code} {dC : Nat → ClassId} {dI : Nat → Nat → Nat} {cI cJ cZ cQ : ClassId} {A : Nat → Prop} {Post : Int32 → Prop} (C0 : jC p l s m args meth c b_MA_newestFor (some .int) 4 R_MA (dC, dI) cI cJ cZ cQ A)  : ∀ n9 : Nat, ∀ (L0 L1 L2 : Int32), ∀ (H : Heap) (locs : List Loc) (ls : Array Slot), wp_MA_newestFor_2 Post  n9 L0 L1 L2 → va_P (dC, dI) vwCl [] H → va_D A [] → va_S A s.heap H locs → lv_has ls 4 [(0, .int L0), (1, .int L1), (2, .int L2)] → W p l e ({ frames := 10, cells := 0, slots := 0, locals := 150 } : Room) s m args below meth c H locs 0 0 (MQ below (jQ_MA_newestFor dC dI cI cJ cZ cQ A  Post) args s 0 0 A) (F0 m 2 ls []) := by
  obtain ⟨hx, hb, hr, hml, hown, hts, hlocks, hK, hZ, hA, hst⟩ := id C0
  intro n9
  induction n9 with
  | zero =>
    intro L0 L1 L2 H locs ls h hP hD hS hl
    exact False.elim h
  | succ n_2 ih =>
    intro L0 L1 L2 H locs ls h hP hD hS hl
    rw [wp_MA_newestFor_2] at h
    refine lv_iload_n hx hb d_MA_newestFor_2 rfl (lv_at hl 2 rfl) ?_
    refine lv_if_lt (tgt := 34) hx hb d_MA_newestFor_3 (by decide) (fun c3 => ?_) (fun c3 => ?_)
    · have h := h.1 c3
      refine lv_iconst (v := (-1)) hx hb d_MA_newestFor_34 (by decide) ?_
      have hP9 := hP
      have hD9 := hD
      exact W.iret (v := (-1)) hx hb hr (fun t ht hW => ⟨⟨(-1), (), rfl, h, by rw [ht]; exact hP9, va_K.moved hW.alike hK, hD9⟩, hS.F ht⟩) hS.2.2 d_MA_newestFor_35
    · have h := h.2 c3
      refine lv_iload_n hx hb d_MA_newestFor_6 rfl (lv_at hl 0 rfl) ?_
      refine lv_iload_n hx hb d_MA_newestFor_7 rfl (lv_at hl 2 rfl) ?_
      refine lv_iconst (v := 5) hx hb d_MA_newestFor_8 (by decide) ?_
      refine lv_imul hx hb d_MA_newestFor_9 ?_
      refine lv_ishr hx hb d_MA_newestFor_10 ?_
      refine lv_bipush (v := 31) hx hb d_MA_newestFor_11 (by decide) ?_
      refine lv_iand hx hb d_MA_newestFor_13 ?_
      refine lv_topi (fun x1 ex1 => ?_)
      have h := h x1 ex1
      refine lv_istore_n (lv' := [(3, .int x1), (0, .int L0), (1, .int L1), (2, .int L2)]) hx hb d_MA_newestFor_14 rfl hl (by decide) rfl (fun ls hl => ?_)
      refine lv_iload_n hx hb d_MA_newestFor_15 rfl (lv_at hl 0 rfl) ?_
      refine lv_iconst (v := 4) hx hb d_MA_newestFor_16 (by decide) ?_
      refine lv_idiv hx hb d_MA_newestFor_17 (by decide) ?_
      refine lv_iconst (v := 4) hx hb d_MA_newestFor_18 (by decide) ?_
      refine lv_iload_n hx hb d_MA_newestFor_19 rfl (lv_at hl 2 rfl) ?_
      refine lv_iadd hx hb d_MA_newestFor_20 ?_
      refine lv_icmp_ne (tgt := 28) hx hb d_MA_newestFor_21 (by decide) (fun c21 => ?_) (fun c21 => ?_)
      · have h := h.1 c21
        obtain ⟨x2, ex2⟩ : ∃ y : Int32, y = L2 + (-1) := ⟨_, rfl⟩
        have h := h x2 ex2
        refine lv_iinc (v := x2) (lv' := [(2, .int x2), (3, .int x1), (0, .int L0), (1, .int L1)]) hx hb d_MA_newestFor_28 hl (k := 3) rfl (by rw [ex2]; rfl) (by decide) rfl (fun ls hl => ?_)
        refine lv_goto (tgt := 2) hx hb d_MA_newestFor_31 (by decide) ?_
        exact ih L0 L1 x2  H locs ls h hP hD hS (lv_sub hl [2, 3, 0] rfl)
      · have h := h.2 c21
        refine lv_iload_n hx hb d_MA_newestFor_24 rfl (lv_at hl 0 rfl) ?_
        refine lv_iconst (v := 4) hx hb d_MA_newestFor_25 (by decide) ?_
        refine lv_irem hx hb d_MA_newestFor_26 (by decide) ?_
        have hP9 := hP
        have hD9 := hD
        exact W.iret (v := x1 - x1 / 4 * 4) hx hb hr (fun t ht hW => ⟨⟨x1 - x1 / 4 * 4, (), rfl, h, by rw [ht]; exact hP9, va_K.moved hW.alike hK, hD9⟩, hS.F ht⟩) hS.2.2 d_MA_newestFor_27
set_option maxHeartbeats 4000000 in
set_option maxRecDepth 100000 in
theorem c_MA_newestFor (l : Launch) (dC : Nat → ClassId) (dI : Nat → Nat → Nat) (cI cJ cZ cQ : ClassId)  (sz : Nat) (en pl0 : Int32) (Post : Int32 → Prop) (h : wp_MA_newestFor Post en pl0) : Met l y_MA_newestFor (.code y_MA_newestFor b_MA_newestFor 4 (some .int) :: jW) ({ frames := 10, cells := 0, slots := 0, locals := 150 } : Room) (jPre l (dC, dI) cI cJ cZ cQ [] sz [.int en, .int pl0]) (jQ_MA_newestFor dC dI cI cJ cZ cQ (va_A [] sz)  Post) 0 0 (va_A [] sz) := by
  refine Met.ofW (cc := b_MA_newestFor) (maxL := 4) (ret := (some .int)) (by decide) rfl ?_
  intro p e s m args below meth c s₁ B hml hv
  obtain ⟨rfl, hsz, hP, hK, hD0, hZ, hst⟩ := hv
  subst hsz
  have hD := hD0.self (sz := s.heap.size)
  generalize hAe : va_A [] s.heap.size = A at hD hZ ⊢
  have hA : ∀ q : Nat, s.heap.size ≤ q → A q := fun q h => by rw [← hAe]; exact Or.inr h
  have C0 : jC p l s m ([.int en, .int pl0] : List Value).toArray meth c b_MA_newestFor (some .int) 4 R_MA (dC, dI) cI cJ cZ cQ A := ⟨B.exec, B.bytes, B.returns, hml, findClass_of_methodNamed B.named, fun w hw => atoms_spec (ws := (.code y_MA_newestFor b_MA_newestFor 4 (some .int) :: jW)) B.pre w (List.mem_cons_of_mem _ hw), B.notSynchronized, hK, hZ, hA, hst⟩
  obtain ⟨hx, hb, hr, hml, hown, hts, hlocks, hK, hZ, hA, hst⟩ := id C0
  have hS : va_S A s.heap s.heap [] := va_S.rf
  have hl := lv_entry ([.int en, .int pl0]) (n := 4) (Nat.le_of_ble_eq_true rfl)
  rw [lg_entry_eq]
  generalize (lg_sl ([.int en, .int pl0]) ++ List.replicate (4 - (lg_sl ([.int en, .int pl0])).length) Slot.unset).toArray = ls at hl ⊢
  have hl : lv_has ls 4 [(0, .int en), (1, .int pl0)] := hl
  obtain ⟨H, hH⟩ : ∃ H : Heap, H = s.heap := ⟨_, rfl⟩
  obtain ⟨locs, hlc⟩ : ∃ L : List Loc, L = [] := ⟨_, rfl⟩
  have hP : va_P (dC, dI) vwCl [] H := by rw [hH]; exact hP
  have hS : va_S A s.heap H locs := by rw [hH, hlc]; exact hS
  suffices hW9 : W p l e ({ frames := 10, cells := 0, slots := 0, locals := 150 } : Room) s m ([.int en, .int pl0] : List Value).toArray below meth c H locs 0 0 (MQ below (jQ_MA_newestFor dC dI cI cJ cZ cQ A  Post) ([.int en, .int pl0] : List Value).toArray s 0 0 A) (F0 m 0 ls []) by rw [hH, hlc] at hW9; exact hW9
  clear hH hlc
  rw [wp_MA_newestFor] at h
  refine lv_iconst (v := 2) hx hb d_MA_newestFor_0 (by decide) ?_
  refine lv_istore_n (lv' := [(2, .int 2), (0, .int en), (1, .int pl0)]) hx hb d_MA_newestFor_1 rfl hl (by decide) rfl (fun ls hl => ?_)
  obtain ⟨n_2, h⟩ := h
  exact l_MA_newestFor_2 C0  n_2 en pl0 2  H locs ls h hP hD hS (lv_sub hl [1, 2, 0] rfl)

/-- what OrderMachines$Machine.become(I)V leaves -/
abbrev jQ_MA_become (dC : Nat → ClassId) (dI : Nat → Nat → Nat) (cI cJ cZ cQ : ClassId) (A : Nat → Prop) (a_ma a_pr a_codes a_lens : Nat) (Post : Int32 → Int64 → Int64 → Int64 → Int64 → (Nat → Int32) → (Nat → Int32) → Prop) : Array Value → State → Outcome → State → Prop := va_Qv (fun (u : Int32 × Int64 × Int64 × Int64 × Int64 × (Nat → Int32) × (Nat → Int32)) => Post u.1 u.2.1 u.2.2.1 u.2.2.2.1 u.2.2.2.2.1 u.2.2.2.2.2.1 u.2.2.2.2.2.2) (fun (u : Int32 × Int64 × Int64 × Int64 × Int64 × (Nat → Int32) × (Nat → Int32)) (t : State) => match u with
  | (mki, mme, mbu, mnm, mnb, pc, pl) => jPost (dC, dI) (jT cI cJ cZ cQ) A [(a_ma, .inr (1, [.ref a_pr, .int mki, .long mme, .long mbu, .long mnm, .long mnb])), (a_pr, .inr (0, [.ref a_codes, .ref a_lens])), (a_codes, .inl (cI, 20, .inl pc)), (a_lens, .inl (cI, 4, .inl pl))] t) A
/-- OrderMachines$Machine.become(I)V -/
def wp_MA_become (Post : Int32 → Int64 → Int64 → Int64 → Int64 → (Nat → Int32) → (Nat → Int32) → Prop) (mki : Int32) (mme mbu mnm mnb : Int64) (pc pl : Nat → Int32) (k0 : Int32) : Prop :=
  Post k0 mme mbu mnm mnb pc pl
set_option maxHeartbeats 4000000 in
set_option maxRecDepth 100000 in
theorem c_MA_become (l : Launch) (dC : Nat → ClassId) (dI : Nat → Nat → Nat) (cI cJ cZ cQ : ClassId) (a_ma a_pr a_codes a_lens : Nat) (sz : Nat) (mki : Int32) (mme mbu mnm mnb : Int64) (pc pl : Nat → Int32) (k0 : Int32) (Post : Int32 → Int64 → Int64 → Int64 → Int64 → (Nat → Int32) → (Nat → Int32) → Prop) (h : wp_MA_become Post mki mme mbu mnm mnb pc pl k0) : Met l y_MA_become (.code y_MA_become b_MA_become 2 none :: jW) ({ frames := 10, cells := 0, slots := 0, locals := 150 } : Room) (jPre l (dC, dI) cI cJ cZ cQ [(a_ma, .inr (1, [.ref a_pr, .int mki, .long mme, .long mbu, .long mnm, .long mnb])), (a_pr, .inr (0, [.ref a_codes, .ref a_lens])), (a_codes, .inl (cI, 20, .inl pc)), (a_lens, .inl (cI, 4, .inl pl))] sz [.ref a_ma, .int k0]) (jQ_MA_become dC dI cI cJ cZ cQ (va_A [(a_ma, .inr (1, [.ref a_pr, .int mki, .long mme, .long mbu, .long mnm, .long mnb])), (a_pr, .inr (0, [.ref a_codes, .ref a_lens])), (a_codes, .inl (cI, 20, .inl pc)), (a_lens, .inl (cI, 4, .inl pl))] sz) a_ma a_pr a_codes a_lens Post) 0 0 (va_A [(a_ma, .inr (1, [.ref a_pr, .int mki, .long mme, .long mbu, .long mnm, .long mnb])), (a_pr, .inr (0, [.ref a_codes, .ref a_lens])), (a_codes, .inl (cI, 20, .inl pc)), (a_lens, .inl (cI, 4, .inl pl))] sz) := by
  refine Met.ofW (cc := b_MA_become) (maxL := 2) (ret := none) (by decide) rfl ?_
  intro p e s m args below meth c s₁ B hml hv
  obtain ⟨rfl, hsz, hP, hK, hD0, hZ, hst⟩ := hv
  subst hsz
  have hD := hD0.self (sz := s.heap.size)
  generalize hAe : va_A [(a_ma, .inr (1, [.ref a_pr, .int mki, .long mme, .long mbu, .long mnm, .long mnb])), (a_pr, .inr (0, [.ref a_codes, .ref a_lens])), (a_codes, .inl (cI, 20, .inl pc)), (a_lens, .inl (cI, 4, .inl pl))] s.heap.size = A at hD hZ ⊢
  have hA : ∀ q : Nat, s.heap.size ≤ q → A q := fun q h => by rw [← hAe]; exact Or.inr h
  have C0 : jC p l s m ([.ref a_ma, .int k0] : List Value).toArray meth c b_MA_become none 2 R_MA (dC, dI) cI cJ cZ cQ A := ⟨B.exec, B.bytes, B.returns, hml, findClass_of_methodNamed B.named, fun w hw => atoms_spec (ws := (.code y_MA_become b_MA_become 2 none :: jW)) B.pre w (List.mem_cons_of_mem _ hw), B.notSynchronized, hK, hZ, hA, hst⟩
  obtain ⟨hx, hb, hr, hml, hown, hts, hlocks, hK, hZ, hA, hst⟩ := id C0
  have hS : va_S A s.heap s.heap [] := va_S.rf
  have hl := lv_entry ([.ref a_ma, .int k0]) (n := 2) (Nat.le_of_ble_eq_true rfl)
  rw [lg_entry_eq]
  generalize (lg_sl ([.ref a_ma, .int k0]) ++ List.replicate (2 - (lg_sl ([.ref a_ma, .int k0])).length) Slot.unset).toArray = ls at hl ⊢
  have hl : lv_has ls 2 [(0, .ref a_ma), (1, .int k0)] := hl
  obtain ⟨H, hH⟩ : ∃ H : Heap, H = s.heap := ⟨_, rfl⟩
  obtain ⟨locs, hlc⟩ : ∃ L : List Loc, L = [] := ⟨_, rfl⟩
  have hP : va_P (dC, dI) vwCl [(a_ma, .inr (1, [.ref a_pr, .int mki, .long mme, .long mbu, .long mnm, .long mnb])), (a_pr, .inr (0, [.ref a_codes, .ref a_lens])), (a_codes, .inl (cI, 20, .inl pc)), (a_lens, .inl (cI, 4, .inl pl))] H := by rw [hH]; exact hP
  have hS : va_S A s.heap H locs := by rw [hH, hlc]; exact hS
  suffices hW9 : W p l e ({ frames := 10, cells := 0, slots := 0, locals := 150 } : Room) s m ([.ref a_ma, .int k0] : List Value).toArray below meth c H locs 0 0 (MQ below (jQ_MA_become dC dI cI cJ cZ cQ A a_ma a_pr a_codes a_lens Post) ([.ref a_ma, .int k0] : List Value).toArray s 0 0 A) (F0 m 0 ls []) by rw [hH, hlc] at hW9; exact hW9
  clear hH hlc
  rw [wp_MA_become] at h
  refine lv_aload_n hx hb d_MA_become_0 rfl (lv_at hl 0 rfl) ?_
  refine lv_iload_n hx hb d_MA_become_1 rfl (lv_at hl 1 rfl) ?_
  refine va_put (D := (dC, dI)) (ci := 1) (v := .int k0) (ty := .int) (C := R_MA) (T := T_MA) (N := 6) hx hb hts in_MA ty_MA tok_MA nm_MA hown hK hP hD hS 0 rfl rfl 1 (by decide) (hts _ mw_91) (fun _ h9 => h9) rfl (by decide +kernel) rfl rfl (Nat.le_of_ble_eq_true rfl) d_MA_become_2 (fun H locs hP hD hS => ?_)
  have hP : va_P (dC, dI) vwCl [(a_ma, .inr (1, [.ref a_pr, .int k0, .long mme, .long mbu, .long mnm, .long mnb])), (a_pr, .inr (0, [.ref a_codes, .ref a_lens])), (a_codes, .inl (cI, 20, .inl pc)), (a_lens, .inl (cI, 4, .inl pl))] H := hP
  have hD : va_D A [(a_ma, .inr (1, [.ref a_pr, .int k0, .long mme, .long mbu, .long mnm, .long mnb])), (a_pr, .inr (0, [.ref a_codes, .ref a_lens])), (a_codes, .inl (cI, 20, .inl pc)), (a_lens, .inl (cI, 4, .inl pl))] := hD
  have hP9 := hP
  have hD9 := hD
  exact W.vret hx hb hr (fun t ht hW => ⟨⟨(k0, mme, mbu, mnm, mnb, pc, pl), rfl, h, by rw [ht]; exact hP9, va_K.moved hW.alike hK, hD9⟩, hS.F ht⟩) hS.2.2 d_MA_become_5

/-- what OrderMachines$Machine.standAt(JJ)V leaves -/
abbrev jQ_MA_standAt (dC : Nat → ClassId) (dI : Nat → Nat → Nat) (cI cJ cZ cQ : ClassId) (A : Nat → Prop) (a_ma a_pr a_codes a_lens : Nat) (Post : Int32 → Int64 → Int64 → Int64 → Int64 → (Nat → Int32) → (Nat → Int32) → Prop) : Array Value → State → Outcome → State → Prop := va_Qv (fun (u : Int32 × Int64 × Int64 × Int64 × Int64 × (Nat → Int32) × (Nat → Int32)) => Post u.1 u.2.1 u.2.2.1 u.2.2.2.1 u.2.2.2.2.1 u.2.2.2.2.2.1 u.2.2.2.2.2.2) (fun (u : Int32 × Int64 × Int64 × Int64 × Int64 × (Nat → Int32) × (Nat → Int32)) (t : State) => match u with
  | (mki, mme, mbu, mnm, mnb, pc, pl) => jPost (dC, dI) (jT cI cJ cZ cQ) A [(a_ma, .inr (1, [.ref a_pr, .int mki, .long mme, .long mbu, .long mnm, .long mnb])), (a_pr, .inr (0, [.ref a_codes, .ref a_lens])), (a_codes, .inl (cI, 20, .inl pc)), (a_lens, .inl (cI, 4, .inl pl))] t) A
/-- OrderMachines$Machine.standAt(JJ)V -/
def wp_MA_standAt (Post : Int32 → Int64 → Int64 → Int64 → Int64 → (Nat → Int32) → (Nat → Int32) → Prop) (mki : Int32) (mme mbu mnm mnb : Int64) (pc pl : Nat → Int32) (x0 y0 : Int64) : Prop :=
  Post mki x0 y0 mnm mnb pc pl
set_option maxHeartbeats 4000000 in
set_option maxRecDepth 100000 in
theorem c_MA_standAt (l : Launch) (dC : Nat → ClassId) (dI : Nat → Nat → Nat) (cI cJ cZ cQ : ClassId) (a_ma a_pr a_codes a_lens : Nat) (sz : Nat) (mki : Int32) (mme mbu mnm mnb : Int64) (pc pl : Nat → Int32) (x0 y0 : Int64) (Post : Int32 → Int64 → Int64 → Int64 → Int64 → (Nat → Int32) → (Nat → Int32) → Prop) (h : wp_MA_standAt Post mki mme mbu mnm mnb pc pl x0 y0) : Met l y_MA_standAt (.code y_MA_standAt b_MA_standAt 5 none :: jW) ({ frames := 10, cells := 0, slots := 0, locals := 150 } : Room) (jPre l (dC, dI) cI cJ cZ cQ [(a_ma, .inr (1, [.ref a_pr, .int mki, .long mme, .long mbu, .long mnm, .long mnb])), (a_pr, .inr (0, [.ref a_codes, .ref a_lens])), (a_codes, .inl (cI, 20, .inl pc)), (a_lens, .inl (cI, 4, .inl pl))] sz [.ref a_ma, .long x0, .long y0]) (jQ_MA_standAt dC dI cI cJ cZ cQ (va_A [(a_ma, .inr (1, [.ref a_pr, .int mki, .long mme, .long mbu, .long mnm, .long mnb])), (a_pr, .inr (0, [.ref a_codes, .ref a_lens])), (a_codes, .inl (cI, 20, .inl pc)), (a_lens, .inl (cI, 4, .inl pl))] sz) a_ma a_pr a_codes a_lens Post) 0 0 (va_A [(a_ma, .inr (1, [.ref a_pr, .int mki, .long mme, .long mbu, .long mnm, .long mnb])), (a_pr, .inr (0, [.ref a_codes, .ref a_lens])), (a_codes, .inl (cI, 20, .inl pc)), (a_lens, .inl (cI, 4, .inl pl))] sz) := by
  refine Met.ofW (cc := b_MA_standAt) (maxL := 5) (ret := none) (by decide) rfl ?_
  intro p e s m args below meth c s₁ B hml hv
  obtain ⟨rfl, hsz, hP, hK, hD0, hZ, hst⟩ := hv
  subst hsz
  have hD := hD0.self (sz := s.heap.size)
  generalize hAe : va_A [(a_ma, .inr (1, [.ref a_pr, .int mki, .long mme, .long mbu, .long mnm, .long mnb])), (a_pr, .inr (0, [.ref a_codes, .ref a_lens])), (a_codes, .inl (cI, 20, .inl pc)), (a_lens, .inl (cI, 4, .inl pl))] s.heap.size = A at hD hZ ⊢
  have hA : ∀ q : Nat, s.heap.size ≤ q → A q := fun q h => by rw [← hAe]; exact Or.inr h
  have C0 : jC p l s m ([.ref a_ma, .long x0, .long y0] : List Value).toArray meth c b_MA_standAt none 5 R_MA (dC, dI) cI cJ cZ cQ A := ⟨B.exec, B.bytes, B.returns, hml, findClass_of_methodNamed B.named, fun w hw => atoms_spec (ws := (.code y_MA_standAt b_MA_standAt 5 none :: jW)) B.pre w (List.mem_cons_of_mem _ hw), B.notSynchronized, hK, hZ, hA, hst⟩
  obtain ⟨hx, hb, hr, hml, hown, hts, hlocks, hK, hZ, hA, hst⟩ := id C0
  have hS : va_S A s.heap s.heap [] := va_S.rf
  have hl := lv_entry ([.ref a_ma, .long x0, .long y0]) (n := 5) (Nat.le_of_ble_eq_true rfl)
  rw [lg_entry_eq]
  generalize (lg_sl ([.ref a_ma, .long x0, .long y0]) ++ List.replicate (5 - (lg_sl ([.ref a_ma, .long x0, .long y0])).length) Slot.unset).toArray = ls at hl ⊢
  have hl : lv_has ls 5 [(0, .ref a_ma), (1, .long x0), (3, .long y0)] := hl
  obtain ⟨H, hH⟩ : ∃ H : Heap, H = s.heap := ⟨_, rfl⟩
  obtain ⟨locs, hlc⟩ : ∃ L : List Loc, L = [] := ⟨_, rfl⟩
  have hP : va_P (dC, dI) vwCl [(a_ma, .inr (1, [.ref a_pr, .int mki, .long mme, .long mbu, .long mnm, .long mnb])), (a_pr, .inr (0, [.ref a_codes, .ref a_lens])), (a_codes, .inl (cI, 20, .inl pc)), (a_lens, .inl (cI, 4, .inl pl))] H := by rw [hH]; exact hP
  have hS : va_S A s.heap H locs := by rw [hH, hlc]; exact hS
  suffices hW9 : W p l e ({ frames := 10, cells := 0, slots := 0, locals := 150 } : Room) s m ([.ref a_ma, .long x0, .long y0] : List Value).toArray below meth c H locs 0 0 (MQ below (jQ_MA_standAt dC dI cI cJ cZ cQ A a_ma a_pr a_codes a_lens Post) ([.ref a_ma, .long x0, .long y0] : List Value).toArray s 0 0 A) (F0 m 0 ls []) by rw [hH, hlc] at hW9; exact hW9
  clear hH hlc
  rw [wp_MA_standAt] at h
  refine lv_aload_n hx hb d_MA_standAt_0 rfl (lv_at hl 0 rfl) ?_
  refine lv_lload_n hx hb d_MA_standAt_1 rfl (lv_at hl 1 rfl) ?_
  refine va_put (D := (dC, dI)) (ci := 1) (v := .long x0) (ty := .long) (C := R_MA) (T := T_MA) (N := 6) hx hb hts in_MA ty_MA tok_MA nm_MA hown hK hP hD hS 0 rfl rfl 2 (by decide) (hts _ mw_92) (fun _ h9 => h9) rfl (by decide +kernel) rfl rfl (Nat.le_of_ble_eq_true rfl) d_MA_standAt_2 (fun H locs hP hD hS => ?_)
  have hP : va_P (dC, dI) vwCl [(a_ma, .inr (1, [.ref a_pr, .int mki, .long x0, .long mbu, .long mnm, .long mnb])), (a_pr, .inr (0, [.ref a_codes, .ref a_lens])), (a_codes, .inl (cI, 20, .inl pc)), (a_lens, .inl (cI, 4, .inl pl))] H := hP
  have hD : va_D A [(a_ma, .inr (1, [.ref a_pr, .int mki, .long x0, .long mbu, .long mnm, .long mnb])), (a_pr, .inr (0, [.ref a_codes, .ref a_lens])), (a_codes, .inl (cI, 20, .inl pc)), (a_lens, .inl (cI, 4, .inl pl))] := hD
  refine lv_aload_n hx hb d_MA_standAt_5 rfl (lv_at hl 0 rfl) ?_
  refine lv_lload_n hx hb d_MA_standAt_6 rfl (lv_at hl 2 rfl) ?_
  refine va_put (D := (dC, dI)) (ci := 1) (v := .long y0) (ty := .long) (C := R_MA) (T := T_MA) (N := 6) hx hb hts in_MA ty_MA tok_MA nm_MA hown hK hP hD hS 0 rfl rfl 3 (by decide) (hts _ mw_93) (fun _ h9 => h9) rfl (by decide +kernel) rfl rfl (Nat.le_of_ble_eq_true rfl) d_MA_standAt_7 (fun H locs hP hD hS => ?_)
  have hP : va_P (dC, dI) vwCl [(a_ma, .inr (1, [.ref a_pr, .int mki, .long x0, .long y0, .long mnm, .long mnb])), (a_pr, .inr (0, [.ref a_codes, .ref a_lens])), (a_codes, .inl (cI, 20, .inl pc)), (a_lens, .inl (cI, 4, .inl pl))] H := hP
  have hD : va_D A [(a_ma, .inr (1, [.ref a_pr, .int mki, .long x0, .long y0, .long mnm, .long mnb])), (a_pr, .inr (0, [.ref a_codes, .ref a_lens])), (a_codes, .inl (cI, 20, .inl pc)), (a_lens, .inl (cI, 4, .inl pl))] := hD
  have hP9 := hP
  have hD9 := hD
  exact W.vret hx hb hr (fun t ht hW => ⟨⟨(mki, x0, y0, mnm, mnb, pc, pl), rfl, h, by rw [ht]; exact hP9, va_K.moved hW.alike hK, hD9⟩, hS.F ht⟩) hS.2.2 d_MA_standAt_10

/-- what OrderMachines$Machine.stepsEnd()I leaves -/
abbrev jQ_MA_stepsEnd (dC : Nat → ClassId) (dI : Nat → Nat → Nat) (cI cJ cZ cQ : ClassId) (A : Nat → Prop) (a_ma a_pr a_codes a_lens : Nat) (Post : Int32 → Int32 → Int64 → Int64 → Int64 → Int64 → (Nat → Int32) → (Nat → Int32) → Prop) : Array Value → State → Outcome → State → Prop := va_Qi (fun (r : Int32) (u : Int32 × Int64 × Int64 × Int64 × Int64 × (Nat → Int32) × (Nat → Int32)) => Post r u.1 u.2.1 u.2.2.1 u.2.2.2.1 u.2.2.2.2.1 u.2.2.2.2.2.1 u.2.2.2.2.2.2) (fun (u : Int32 × Int64 × Int64 × Int64 × Int64 × (Nat → Int32) × (Nat → Int32)) (t : State) => match u with
  | (mki, mme, mbu, mnm, mnb, pc, pl) => jPost (dC, dI) (jT cI cJ cZ cQ) A [(a_ma, .inr (1, [.ref a_pr, .int mki, .long mme, .long mbu, .long mnm, .long mnb])), (a_pr, .inr (0, [.ref a_codes, .ref a_lens])), (a_codes, .inl (cI, 20, .inl pc)), (a_lens, .inl (cI, 4, .inl pl))] t) A
/-- OrderMachines$Machine.stepsEnd()I -/
def wp_MA_stepsEnd (Post : Int32 → Int32 → Int64 → Int64 → Int64 → Int64 → (Nat → Int32) → (Nat → Int32) → Prop) (mki : Int32) (mme mbu mnm mnb : Int64) (pc pl : Nat → Int32) : Prop :=
  ((¬ (lg_cmp mbu 0) = 0 → vp_in mki 4 ∧ Post (jSEi mki.toNatClampNeg) mki mme mbu mnm mnb pc pl) ∧
  ((lg_cmp mbu 0) = 0 → Post 4 mki mme mbu mnm mnb pc pl))
set_option maxHeartbeats 4000000 in
set_option maxRecDepth 100000 in
theorem c_MA_stepsEnd (l : Launch) (dC : Nat → ClassId) (dI : Nat → Nat → Nat) (cI cJ cZ cQ : ClassId) (a_ma a_pr a_codes a_lens : Nat) (sz : Nat) (mki : Int32) (mme mbu mnm mnb : Int64) (pc pl : Nat → Int32) (Post : Int32 → Int32 → Int64 → Int64 → Int64 → Int64 → (Nat → Int32) → (Nat → Int32) → Prop) (h : wp_MA_stepsEnd Post mki mme mbu mnm mnb pc pl) : Met l y_MA_stepsEnd (.code y_MA_stepsEnd b_MA_stepsEnd 1 (some .int) :: jW) ({ frames := 10, cells := 0, slots := 0, locals := 150 } : Room) (jPre l (dC, dI) cI cJ cZ cQ [(a_ma, .inr (1, [.ref a_pr, .int mki, .long mme, .long mbu, .long mnm, .long mnb])), (a_pr, .inr (0, [.ref a_codes, .ref a_lens])), (a_codes, .inl (cI, 20, .inl pc)), (a_lens, .inl (cI, 4, .inl pl))] sz [.ref a_ma]) (jQ_MA_stepsEnd dC dI cI cJ cZ cQ (va_A [(a_ma, .inr (1, [.ref a_pr, .int mki, .long mme, .long mbu, .long mnm, .long mnb])), (a_pr, .inr (0, [.ref a_codes, .ref a_lens])), (a_codes, .inl (cI, 20, .inl pc)), (a_lens, .inl (cI, 4, .inl pl))] sz) a_ma a_pr a_codes a_lens Post) 0 0 (va_A [(a_ma, .inr (1, [.ref a_pr, .int mki, .long mme, .long mbu, .long mnm, .long mnb])), (a_pr, .inr (0, [.ref a_codes, .ref a_lens])), (a_codes, .inl (cI, 20, .inl pc)), (a_lens, .inl (cI, 4, .inl pl))] sz) := by
  refine Met.ofW (cc := b_MA_stepsEnd) (maxL := 1) (ret := (some .int)) (by decide) rfl ?_
  intro p e s m args below meth c s₁ B hml hv
  obtain ⟨rfl, hsz, hP, hK, hD0, hZ, hst⟩ := hv
  subst hsz
  have hD := hD0.self (sz := s.heap.size)
  generalize hAe : va_A [(a_ma, .inr (1, [.ref a_pr, .int mki, .long mme, .long mbu, .long mnm, .long mnb])), (a_pr, .inr (0, [.ref a_codes, .ref a_lens])), (a_codes, .inl (cI, 20, .inl pc)), (a_lens, .inl (cI, 4, .inl pl))] s.heap.size = A at hD hZ ⊢
  have hA : ∀ q : Nat, s.heap.size ≤ q → A q := fun q h => by rw [← hAe]; exact Or.inr h
  have C0 : jC p l s m ([.ref a_ma] : List Value).toArray meth c b_MA_stepsEnd (some .int) 1 R_MA (dC, dI) cI cJ cZ cQ A := ⟨B.exec, B.bytes, B.returns, hml, findClass_of_methodNamed B.named, fun w hw => atoms_spec (ws := (.code y_MA_stepsEnd b_MA_stepsEnd 1 (some .int) :: jW)) B.pre w (List.mem_cons_of_mem _ hw), B.notSynchronized, hK, hZ, hA, hst⟩
  obtain ⟨hx, hb, hr, hml, hown, hts, hlocks, hK, hZ, hA, hst⟩ := id C0
  have hS : va_S A s.heap s.heap [] := va_S.rf
  have hl := lv_entry ([.ref a_ma]) (n := 1) (Nat.le_of_ble_eq_true rfl)
  rw [lg_entry_eq]
  generalize (lg_sl ([.ref a_ma]) ++ List.replicate (1 - (lg_sl ([.ref a_ma])).length) Slot.unset).toArray = ls at hl ⊢
  have hl : lv_has ls 1 [(0, .ref a_ma)] := hl
  obtain ⟨H, hH⟩ : ∃ H : Heap, H = s.heap := ⟨_, rfl⟩
  obtain ⟨locs, hlc⟩ : ∃ L : List Loc, L = [] := ⟨_, rfl⟩
  have hP : va_P (dC, dI) vwCl [(a_ma, .inr (1, [.ref a_pr, .int mki, .long mme, .long mbu, .long mnm, .long mnb])), (a_pr, .inr (0, [.ref a_codes, .ref a_lens])), (a_codes, .inl (cI, 20, .inl pc)), (a_lens, .inl (cI, 4, .inl pl))] H := by rw [hH]; exact hP
  have hS : va_S A s.heap H locs := by rw [hH, hlc]; exact hS
  suffices hW9 : W p l e ({ frames := 10, cells := 0, slots := 0, locals := 150 } : Room) s m ([.ref a_ma] : List Value).toArray below meth c H locs 0 0 (MQ below (jQ_MA_stepsEnd dC dI cI cJ cZ cQ A a_ma a_pr a_codes a_lens Post) ([.ref a_ma] : List Value).toArray s 0 0 A) (F0 m 0 ls []) by rw [hH, hlc] at hW9; exact hW9
  clear hH hlc
  rw [wp_MA_stepsEnd] at h
  refine lv_aload_n hx hb d_MA_stepsEnd_0 rfl (lv_at hl 0 rfl) ?_
  refine va_get (D := (dC, dI)) (ci := 1) (v := .long mbu) (C := R_MA) (T := T_MA) (N := 6) hx hb hts in_MA hown hK hP 0 rfl rfl 3 (by decide) (hts _ mw_93) (fun _ h9 => h9) rfl d_MA_stepsEnd_1 ?_
  refine lv_lconst (v := 0) hx hb d_MA_stepsEnd_4 (by decide) ?_
  refine W.lcmp hx hb d_MA_stepsEnd_5 ?_
  refine lv_if_ne (tgt := 13) hx hb d_MA_stepsEnd_6 (by decide) (fun c6 => ?_) (fun c6 => ?_)
  · have h := h.1 c6
    obtain ⟨tSE, hz1, hz2⟩ := hZ.2.1
    refine va_gets hx hb hz1 hS hown (hts _ mw_676) (fun _ h9 => h9) d_MA_stepsEnd_13 ?_
    refine lv_aload_n hx hb d_MA_stepsEnd_16 rfl (lv_at hl 0 rfl) ?_
    refine va_get (D := (dC, dI)) (ci := 1) (v := .int mki) (C := R_MA) (T := T_MA) (N := 6) hx hb hts in_MA hown hK hP 0 rfl rfl 1 (by decide) (hts _ mw_91) (fun _ h9 => h9) rfl d_MA_stepsEnd_17 ?_
    refine va_ti hx hb hz2 hS h.1 (v := .int (jSEi mki.toNatClampNeg)) rfl d_MA_stepsEnd_20 ?_
    have h := h.2
    have hP9 := hP
    have hD9 := hD
    exact W.iret (v := jSEi mki.toNatClampNeg) hx hb hr (fun t ht hW => ⟨⟨jSEi mki.toNatClampNeg, (mki, mme, mbu, mnm, mnb, pc, pl), rfl, h, by rw [ht]; exact hP9, va_K.moved hW.alike hK, hD9⟩, hS.F ht⟩) hS.2.2 d_MA_stepsEnd_21
  · have h := h.2 c6
    refine lv_iconst (v := 4) hx hb d_MA_stepsEnd_9 (by decide) ?_
    refine lv_goto (tgt := 21) hx hb d_MA_stepsEnd_10 (by decide) ?_
    have hP9 := hP
    have hD9 := hD
    exact W.iret (v := 4) hx hb hr (fun t ht hW => ⟨⟨4, (mki, mme, mbu, mnm, mnb, pc, pl), rfl, h, by rw [ht]; exact hP9, va_K.moved hW.alike hK, hD9⟩, hS.F ht⟩) hS.2.2 d_MA_stepsEnd_21

/-- what OrderMachines$Machine.outcomeHere()J leaves -/
abbrev jQ_MA_outcomeHere (dC : Nat → ClassId) (dI : Nat → Nat → Nat) (cI cJ cZ cQ : ClassId) (A : Nat → Prop) (a_ma a_pr a_codes a_lens : Nat) (Post : Int64 → Int32 → Int64 → Int64 → Int64 → Int64 → (Nat → Int32) → (Nat → Int32) → Prop) : Array Value → State → Outcome → State → Prop := va_Ql (fun (r : Int64) (u : Int32 × Int64 × Int64 × Int64 × Int64 × (Nat → Int32) × (Nat → Int32)) => Post r u.1 u.2.1 u.2.2.1 u.2.2.2.1 u.2.2.2.2.1 u.2.2.2.2.2.1 u.2.2.2.2.2.2) (fun (u : Int32 × Int64 × Int64 × Int64 × Int64 × (Nat → Int32) × (Nat → Int32)) (t : State) => match u with
  | (mki, mme, mbu, mnm, mnb, pc, pl) => jPost (dC, dI) (jT cI cJ cZ cQ) A [(a_ma, .inr (1, [.ref a_pr, .int mki, .long mme, .long mbu, .long mnm, .long mnb])), (a_pr, .inr (0, [.ref a_codes, .ref a_lens])), (a_codes, .inl (cI, 20, .inl pc)), (a_lens, .inl (cI, 4, .inl pl))] t) A
/-- OrderMachines$Machine.outcomeHere()J -/
def wp_MA_outcomeHere (Post : Int64 → Int32 → Int64 → Int64 → Int64 → Int64 → (Nat → Int32) → (Nat → Int32) → Prop) (mki : Int32) (mme mbu mnm mnb : Int64) (pc pl : Nat → Int32) : Prop :=
  Post (mme &&& 1099511627775) mki mme mbu mnm mnb pc pl
set_option maxHeartbeats 4000000 in
set_option maxRecDepth 100000 in
theorem c_MA_outcomeHere (l : Launch) (dC : Nat → ClassId) (dI : Nat → Nat → Nat) (cI cJ cZ cQ : ClassId) (a_ma a_pr a_codes a_lens : Nat) (sz : Nat) (mki : Int32) (mme mbu mnm mnb : Int64) (pc pl : Nat → Int32) (Post : Int64 → Int32 → Int64 → Int64 → Int64 → Int64 → (Nat → Int32) → (Nat → Int32) → Prop) (h : wp_MA_outcomeHere Post mki mme mbu mnm mnb pc pl) : Met l y_MA_outcomeHere (.code y_MA_outcomeHere b_MA_outcomeHere 1 (some .long) :: jW) ({ frames := 10, cells := 0, slots := 0, locals := 150 } : Room) (jPre l (dC, dI) cI cJ cZ cQ [(a_ma, .inr (1, [.ref a_pr, .int mki, .long mme, .long mbu, .long mnm, .long mnb])), (a_pr, .inr (0, [.ref a_codes, .ref a_lens])), (a_codes, .inl (cI, 20, .inl pc)), (a_lens, .inl (cI, 4, .inl pl))] sz [.ref a_ma]) (jQ_MA_outcomeHere dC dI cI cJ cZ cQ (va_A [(a_ma, .inr (1, [.ref a_pr, .int mki, .long mme, .long mbu, .long mnm, .long mnb])), (a_pr, .inr (0, [.ref a_codes, .ref a_lens])), (a_codes, .inl (cI, 20, .inl pc)), (a_lens, .inl (cI, 4, .inl pl))] sz) a_ma a_pr a_codes a_lens Post) 0 0 (va_A [(a_ma, .inr (1, [.ref a_pr, .int mki, .long mme, .long mbu, .long mnm, .long mnb])), (a_pr, .inr (0, [.ref a_codes, .ref a_lens])), (a_codes, .inl (cI, 20, .inl pc)), (a_lens, .inl (cI, 4, .inl pl))] sz) := by
  refine Met.ofW (cc := b_MA_outcomeHere) (maxL := 1) (ret := (some .long)) (by decide) rfl ?_
  intro p e s m args below meth c s₁ B hml hv
  obtain ⟨rfl, hsz, hP, hK, hD0, hZ, hst⟩ := hv
  subst hsz
  have hD := hD0.self (sz := s.heap.size)
  generalize hAe : va_A [(a_ma, .inr (1, [.ref a_pr, .int mki, .long mme, .long mbu, .long mnm, .long mnb])), (a_pr, .inr (0, [.ref a_codes, .ref a_lens])), (a_codes, .inl (cI, 20, .inl pc)), (a_lens, .inl (cI, 4, .inl pl))] s.heap.size = A at hD hZ ⊢
  have hA : ∀ q : Nat, s.heap.size ≤ q → A q := fun q h => by rw [← hAe]; exact Or.inr h
  have C0 : jC p l s m ([.ref a_ma] : List Value).toArray meth c b_MA_outcomeHere (some .long) 1 R_MA (dC, dI) cI cJ cZ cQ A := ⟨B.exec, B.bytes, B.returns, hml, findClass_of_methodNamed B.named, fun w hw => atoms_spec (ws := (.code y_MA_outcomeHere b_MA_outcomeHere 1 (some .long) :: jW)) B.pre w (List.mem_cons_of_mem _ hw), B.notSynchronized, hK, hZ, hA, hst⟩
  obtain ⟨hx, hb, hr, hml, hown, hts, hlocks, hK, hZ, hA, hst⟩ := id C0
  have hS : va_S A s.heap s.heap [] := va_S.rf
  have hl := lv_entry ([.ref a_ma]) (n := 1) (Nat.le_of_ble_eq_true rfl)
  rw [lg_entry_eq]
  generalize (lg_sl ([.ref a_ma]) ++ List.replicate (1 - (lg_sl ([.ref a_ma])).length) Slot.unset).toArray = ls at hl ⊢
  have hl : lv_has ls 1 [(0, .ref a_ma)] := hl
  obtain ⟨H, hH⟩ : ∃ H : Heap, H = s.heap := ⟨_, rfl⟩
  obtain ⟨locs, hlc⟩ : ∃ L : List Loc, L = [] := ⟨_, rfl⟩
  have hP : va_P (dC, dI) vwCl [(a_ma, .inr (1, [.ref a_pr, .int mki, .long mme, .long mbu, .long mnm, .long mnb])), (a_pr, .inr (0, [.ref a_codes, .ref a_lens])), (a_codes, .inl (cI, 20, .inl pc)), (a_lens, .inl (cI, 4, .inl pl))] H := by rw [hH]; exact hP
  have hS : va_S A s.heap H locs := by rw [hH, hlc]; exact hS
  suffices hW9 : W p l e ({ frames := 10, cells := 0, slots := 0, locals := 150 } : Room) s m ([.ref a_ma] : List Value).toArray below meth c H locs 0 0 (MQ below (jQ_MA_outcomeHere dC dI cI cJ cZ cQ A a_ma a_pr a_codes a_lens Post) ([.ref a_ma] : List Value).toArray s 0 0 A) (F0 m 0 ls []) by rw [hH, hlc] at hW9; exact hW9
  clear hH hlc
  rw [wp_MA_outcomeHere] at h
  refine lv_aload_n hx hb d_MA_outcomeHere_0 rfl (lv_at hl 0 rfl) ?_
  refine va_get (D := (dC, dI)) (ci := 1) (v := .long mme) (C := R_MA) (T := T_MA) (N := 6) hx hb hts in_MA hown hK hP 0 rfl rfl 2 (by decide) (hts _ mw_92) (fun _ h9 => h9) rfl d_MA_outcomeHere_1 ?_
  refine lv_ldc2 (v := 1099511627775) hx hb hown (hts _ mw_730) d_MA_outcomeHere_4 ?_
  refine lv_land hx hb d_MA_outcomeHere_7 ?_
  have hP9 := hP
  have hD9 := hD
  exact W.lret (v := mme &&& 1099511627775) hx hb hr (fun t ht hW => ⟨⟨mme &&& 1099511627775, (mki, mme, mbu, mnm, mnb, pc, pl), rfl, h, by rw [ht]; exact hP9, va_K.moved hW.alike hK, hD9⟩, hS.F ht⟩) hS.2.2 d_MA_outcomeHere_8

/-- what OrderMachines$Machine.bitsAt(II)I leaves -/
abbrev jQ_MA_bitsAt (dC : Nat → ClassId) (dI : Nat → Nat → Nat) (cI cJ cZ cQ : ClassId) (A : Nat → Prop) (a_ma a_pr a_codes a_lens : Nat) (Post : Int32 → Int32 → Int64 → Int64 → Int64 → Int64 → (Nat → Int32) → (Nat → Int32) → Prop) : Array Value → State → Outcome → State → Prop := va_Qi (fun (r : Int32) (u : Int32 × Int64 × Int64 × Int64 × Int64 × (Nat → Int32) × (Nat → Int32)) => Post r u.1 u.2.1 u.2.2.1 u.2.2.2.1 u.2.2.2.2.1 u.2.2.2.2.2.1 u.2.2.2.2.2.2) (fun (u : Int32 × Int64 × Int64 × Int64 × Int64 × (Nat → Int32) × (Nat → Int32)) (t : State) => match u with
  | (mki, mme, mbu, mnm, mnb, pc, pl) => jPost (dC, dI) (jT cI cJ cZ cQ) A [(a_ma, .inr (1, [.ref a_pr, .int mki, .long mme, .long mbu, .long mnm, .long mnb])), (a_pr, .inr (0, [.ref a_codes, .ref a_lens])), (a_codes, .inl (cI, 20, .inl pc)), (a_lens, .inl (cI, 4, .inl pl))] t) A
/-- OrderMachines$Machine.bitsAt(II)I -/
def wp_MA_bitsAt (Post : Int32 → Int32 → Int64 → Int64 → Int64 → Int64 → (Nat → Int32) → (Nat → Int32) → Prop) (mki : Int32) (mme mbu mnm mnb : Int64) (pc pl : Nat → Int32) (sh msk : Int32) : Prop :=
  Post ((((mme.toUInt64 >>> (sh.toInt64.toUInt64 &&& Int64.toUInt64 63)).toInt64).toInt32) &&& msk) mki mme mbu mnm mnb pc pl
set_option maxHeartbeats 4000000 in
set_option maxRecDepth 100000 in
theorem c_MA_bitsAt (l : Launch) (dC : Nat → ClassId) (dI : Nat → Nat → Nat) (cI cJ cZ cQ : ClassId) (a_ma a_pr a_codes a_lens : Nat) (sz : Nat) (mki : Int32) (mme mbu mnm mnb : Int64) (pc pl : Nat → Int32) (sh msk : Int32) (Post : Int32 → Int32 → Int64 → Int64 → Int64 → Int64 → (Nat → Int32) → (Nat → Int32) → Prop) (h : wp_MA_bitsAt Post mki mme mbu mnm mnb pc pl sh msk) : Met l y_MA_bitsAt (.code y_MA_bitsAt b_MA_bitsAt 3 (some .int) :: jW) ({ frames := 10, cells := 0, slots := 0, locals := 150 } : Room) (jPre l (dC, dI) cI cJ cZ cQ [(a_ma, .inr (1, [.ref a_pr, .int mki, .long mme, .long mbu, .long mnm, .long mnb])), (a_pr, .inr (0, [.ref a_codes, .ref a_lens])), (a_codes, .inl (cI, 20, .inl pc)), (a_lens, .inl (cI, 4, .inl pl))] sz [.ref a_ma, .int sh, .int msk]) (jQ_MA_bitsAt dC dI cI cJ cZ cQ (va_A [(a_ma, .inr (1, [.ref a_pr, .int mki, .long mme, .long mbu, .long mnm, .long mnb])), (a_pr, .inr (0, [.ref a_codes, .ref a_lens])), (a_codes, .inl (cI, 20, .inl pc)), (a_lens, .inl (cI, 4, .inl pl))] sz) a_ma a_pr a_codes a_lens Post) 0 0 (va_A [(a_ma, .inr (1, [.ref a_pr, .int mki, .long mme, .long mbu, .long mnm, .long mnb])), (a_pr, .inr (0, [.ref a_codes, .ref a_lens])), (a_codes, .inl (cI, 20, .inl pc)), (a_lens, .inl (cI, 4, .inl pl))] sz) := by
  refine Met.ofW (cc := b_MA_bitsAt) (maxL := 3) (ret := (some .int)) (by decide) rfl ?_
  intro p e s m args below meth c s₁ B hml hv
  obtain ⟨rfl, hsz, hP, hK, hD0, hZ, hst⟩ := hv
  subst hsz
  have hD := hD0.self (sz := s.heap.size)
  generalize hAe : va_A [(a_ma, .inr (1, [.ref a_pr, .int mki, .long mme, .long mbu, .long mnm, .long mnb])), (a_pr, .inr (0, [.ref a_codes, .ref a_lens])), (a_codes, .inl (cI, 20, .inl pc)), (a_lens, .inl (cI, 4, .inl pl))] s.heap.size = A at hD hZ ⊢
  have hA : ∀ q : Nat, s.heap.size ≤ q → A q := fun q h => by rw [← hAe]; exact Or.inr h
  have C0 : jC p l s m ([.ref a_ma, .int sh, .int msk] : List Value).toArray meth c b_MA_bitsAt (some .int) 3 R_MA (dC, dI) cI cJ cZ cQ A := ⟨B.exec, B.bytes, B.returns, hml, findClass_of_methodNamed B.named, fun w hw => atoms_spec (ws := (.code y_MA_bitsAt b_MA_bitsAt 3 (some .int) :: jW)) B.pre w (List.mem_cons_of_mem _ hw), B.notSynchronized, hK, hZ, hA, hst⟩
  obtain ⟨hx, hb, hr, hml, hown, hts, hlocks, hK, hZ, hA, hst⟩ := id C0
  have hS : va_S A s.heap s.heap [] := va_S.rf
  have hl := lv_entry ([.ref a_ma, .int sh, .int msk]) (n := 3) (Nat.le_of_ble_eq_true rfl)
  rw [lg_entry_eq]
  generalize (lg_sl ([.ref a_ma, .int sh, .int msk]) ++ List.replicate (3 - (lg_sl ([.ref a_ma, .int sh, .int msk])).length) Slot.unset).toArray = ls at hl ⊢
  have hl : lv_has ls 3 [(0, .ref a_ma), (1, .int sh), (2, .int msk)] := hl
  obtain ⟨H, hH⟩ : ∃ H : Heap, H = s.heap := ⟨_, rfl⟩
  obtain ⟨locs, hlc⟩ : ∃ L : List Loc, L = [] := ⟨_, rfl⟩
  have hP : va_P (dC, dI) vwCl [(a_ma, .inr (1, [.ref a_pr, .int mki, .long mme, .long mbu, .long mnm, .long mnb])), (a_pr, .inr (0, [.ref a_codes, .ref a_lens])), (a_codes, .inl (cI, 20, .inl pc)), (a_lens, .inl (cI, 4, .inl pl))] H := by rw [hH]; exact hP
  have hS : va_S A s.heap H locs := by rw [hH, hlc]; exact hS
  suffices hW9 : W p l e ({ frames := 10, cells := 0, slots := 0, locals := 150 } : Room) s m ([.ref a_ma, .int sh, .int msk] : List Value).toArray below meth c H locs 0 0 (MQ below (jQ_MA_bitsAt dC dI cI cJ cZ cQ A a_ma a_pr a_codes a_lens Post) ([.ref a_ma, .int sh, .int msk] : List Value).toArray s 0 0 A) (F0 m 0 ls []) by rw [hH, hlc] at hW9; exact hW9
  clear hH hlc
  rw [wp_MA_bitsAt] at h
  refine lv_aload_n hx hb d_MA_bitsAt_0 rfl (lv_at hl 0 rfl) ?_
  refine va_get (D := (dC, dI)) (ci := 1) (v := .long mme) (C := R_MA) (T := T_MA) (N := 6) hx hb hts in_MA hown hK hP 0 rfl rfl 2 (by decide) (hts _ mw_92) (fun _ h9 => h9) rfl d_MA_bitsAt_1 ?_
  refine lv_iload_n hx hb d_MA_bitsAt_4 rfl (lv_at hl 1 rfl) ?_
  refine lv_lushr hx hb d_MA_bitsAt_5 rfl ?_
  refine lv_l2i hx hb d_MA_bitsAt_6 rfl ?_
  refine lv_iload_n hx hb d_MA_bitsAt_7 rfl (lv_at hl 2 rfl) ?_
  refine lv_iand hx hb d_MA_bitsAt_8 ?_
  have hP9 := hP
  have hD9 := hD
  exact W.iret (v := (((mme.toUInt64 >>> (sh.toInt64.toUInt64 &&& Int64.toUInt64 63)).toInt64).toInt32) &&& msk) hx hb hr (fun t ht hW => ⟨⟨(((mme.toUInt64 >>> (sh.toInt64.toUInt64 &&& Int64.toUInt64 63)).toInt64).toInt32) &&& msk, (mki, mme, mbu, mnm, mnb, pc, pl), rfl, h, by rw [ht]; exact hP9, va_K.moved hW.alike hK, hD9⟩, hS.F ht⟩) hS.2.2 d_MA_bitsAt_9

/-- what OrderMachines$Machine.cutHere()I leaves -/
abbrev jQ_MA_cutHere (dC : Nat → ClassId) (dI : Nat → Nat → Nat) (cI cJ cZ cQ : ClassId) (A : Nat → Prop) (a_ma a_pr a_codes a_lens : Nat) (Post : Int32 → Int32 → Int64 → Int64 → Int64 → Int64 → (Nat → Int32) → (Nat → Int32) → Prop) : Array Value → State → Outcome → State → Prop := va_Qi (fun (r : Int32) (u : Int32 × Int64 × Int64 × Int64 × Int64 × (Nat → Int32) × (Nat → Int32)) => Post r u.1 u.2.1 u.2.2.1 u.2.2.2.1 u.2.2.2.2.1 u.2.2.2.2.2.1 u.2.2.2.2.2.2) (fun (u : Int32 × Int64 × Int64 × Int64 × Int64 × (Nat → Int32) × (Nat → Int32)) (t : State) => match u with
  | (mki, mme, mbu, mnm, mnb, pc, pl) => jPost (dC, dI) (jT cI cJ cZ cQ) A [(a_ma, .inr (1, [.ref a_pr, .int mki, .long mme, .long mbu, .long mnm, .long mnb])), (a_pr, .inr (0, [.ref a_codes, .ref a_lens])), (a_codes, .inl (cI, 20, .inl pc)), (a_lens, .inl (cI, 4, .inl pl))] t) A
/-- OrderMachines$Machine.cutHere()I -/
def wp_MA_cutHere (Post : Int32 → Int32 → Int64 → Int64 → Int64 → Int64 → (Nat → Int32) → (Nat → Int32) → Prop) (mki : Int32) (mme mbu mnm mnb : Int64) (pc pl : Nat → Int32) : Prop :=
  wp_MA_bitsAt (fun (r1 : Int32) (u2 : Int32) (u3 : Int64) (u4 : Int64) (u5 : Int64) (u6 : Int64) (u7 : Nat → Int32) (u8 : Nat → Int32) => Post r1 u2 u3 u4 u5 u6 u7 u8) mki mme mbu mnm mnb pc pl 0 255
set_option maxHeartbeats 4000000 in
set_option maxRecDepth 100000 in
theorem c_MA_cutHere (l : Launch) (dC : Nat → ClassId) (dI : Nat → Nat → Nat) (cI cJ cZ cQ : ClassId) (a_ma a_pr a_codes a_lens : Nat) (sz : Nat) (mki : Int32) (mme mbu mnm mnb : Int64) (pc pl : Nat → Int32) (Post : Int32 → Int32 → Int64 → Int64 → Int64 → Int64 → (Nat → Int32) → (Nat → Int32) → Prop) (h : wp_MA_cutHere Post mki mme mbu mnm mnb pc pl) : Met l y_MA_cutHere (.code y_MA_cutHere b_MA_cutHere 1 (some .int) :: jW) ({ frames := 11, cells := 0, slots := 0, locals := 172 } : Room) (jPre l (dC, dI) cI cJ cZ cQ [(a_ma, .inr (1, [.ref a_pr, .int mki, .long mme, .long mbu, .long mnm, .long mnb])), (a_pr, .inr (0, [.ref a_codes, .ref a_lens])), (a_codes, .inl (cI, 20, .inl pc)), (a_lens, .inl (cI, 4, .inl pl))] sz [.ref a_ma]) (jQ_MA_cutHere dC dI cI cJ cZ cQ (va_A [(a_ma, .inr (1, [.ref a_pr, .int mki, .long mme, .long mbu, .long mnm, .long mnb])), (a_pr, .inr (0, [.ref a_codes, .ref a_lens])), (a_codes, .inl (cI, 20, .inl pc)), (a_lens, .inl (cI, 4, .inl pl))] sz) a_ma a_pr a_codes a_lens Post) 0 0 (va_A [(a_ma, .inr (1, [.ref a_pr, .int mki, .long mme, .long mbu, .long mnm, .long mnb])), (a_pr, .inr (0, [.ref a_codes, .ref a_lens])), (a_codes, .inl (cI, 20, .inl pc)), (a_lens, .inl (cI, 4, .inl pl))] sz) := by
  refine Met.ofW (cc := b_MA_cutHere) (maxL := 1) (ret := (some .int)) (by decide) rfl ?_
  intro p e s m args below meth c s₁ B hml hv
  obtain ⟨rfl, hsz, hP, hK, hD0, hZ, hst⟩ := hv
  subst hsz
  have hD := hD0.self (sz := s.heap.size)
  generalize hAe : va_A [(a_ma, .inr (1, [.ref a_pr, .int mki, .long mme, .long mbu, .long mnm, .long mnb])), (a_pr, .inr (0, [.ref a_codes, .ref a_lens])), (a_codes, .inl (cI, 20, .inl pc)), (a_lens, .inl (cI, 4, .inl pl))] s.heap.size = A at hD hZ ⊢
  have hA : ∀ q : Nat, s.heap.size ≤ q → A q := fun q h => by rw [← hAe]; exact Or.inr h
  have C0 : jC p l s m ([.ref a_ma] : List Value).toArray meth c b_MA_cutHere (some .int) 1 R_MA (dC, dI) cI cJ cZ cQ A := ⟨B.exec, B.bytes, B.returns, hml, findClass_of_methodNamed B.named, fun w hw => atoms_spec (ws := (.code y_MA_cutHere b_MA_cutHere 1 (some .int) :: jW)) B.pre w (List.mem_cons_of_mem _ hw), B.notSynchronized, hK, hZ, hA, hst⟩
  obtain ⟨hx, hb, hr, hml, hown, hts, hlocks, hK, hZ, hA, hst⟩ := id C0
  have hS : va_S A s.heap s.heap [] := va_S.rf
  have hl := lv_entry ([.ref a_ma]) (n := 1) (Nat.le_of_ble_eq_true rfl)
  rw [lg_entry_eq]
  generalize (lg_sl ([.ref a_ma]) ++ List.replicate (1 - (lg_sl ([.ref a_ma])).length) Slot.unset).toArray = ls at hl ⊢
  have hl : lv_has ls 1 [(0, .ref a_ma)] := hl
  obtain ⟨H, hH⟩ : ∃ H : Heap, H = s.heap := ⟨_, rfl⟩
  obtain ⟨locs, hlc⟩ : ∃ L : List Loc, L = [] := ⟨_, rfl⟩
  have hP : va_P (dC, dI) vwCl [(a_ma, .inr (1, [.ref a_pr, .int mki, .long mme, .long mbu, .long mnm, .long mnb])), (a_pr, .inr (0, [.ref a_codes, .ref a_lens])), (a_codes, .inl (cI, 20, .inl pc)), (a_lens, .inl (cI, 4, .inl pl))] H := by rw [hH]; exact hP
  have hS : va_S A s.heap H locs := by rw [hH, hlc]; exact hS
  suffices hW9 : W p l e ({ frames := 11, cells := 0, slots := 0, locals := 172 } : Room) s m ([.ref a_ma] : List Value).toArray below meth c H locs 0 0 (MQ below (jQ_MA_cutHere dC dI cI cJ cZ cQ A a_ma a_pr a_codes a_lens Post) ([.ref a_ma] : List Value).toArray s 0 0 A) (F0 m 0 ls []) by rw [hH, hlc] at hW9; exact hW9
  clear hH hlc
  rw [wp_MA_cutHere] at h
  refine lv_aload_n hx hb d_MA_cutHere_0 rfl (lv_at hl 0 rfl) ?_
  refine lv_iconst (v := 0) hx hb d_MA_cutHere_1 (by decide) ?_
  refine lv_sipush (v := 255) hx hb d_MA_cutHere_2 (by decide) ?_
  have hPc := hP.sub (ws' := [(a_ma, .inr (1, [.ref a_pr, .int mki, .long mme, .long mbu, .long mnm, .long mnb])), (a_pr, .inr (0, [.ref a_codes, .ref a_lens])), (a_codes, .inl (cI, 20, .inl pc)), (a_lens, .inl (cI, 4, .inl pl))]) [0, 1, 2, 3] rfl
  have hDc := hD.sub (ws' := [(a_ma, .inr (1, [.ref a_pr, .int mki, .long mme, .long mbu, .long mnm, .long mnb])), (a_pr, .inr (0, [.ref a_codes, .ref a_lens])), (a_codes, .inl (cI, 20, .inl pc)), (a_lens, .inl (cI, 4, .inl pl))]) [0, 1, 2, 3] (by decide) rfl
  have hFc := va_free (wc := [(a_ma, .inr (1, [.ref a_pr, .int mki, .long mme, .long mbu, .long mnm, .long mnb])), (a_pr, .inr (0, [.ref a_codes, .ref a_lens])), (a_codes, .inl (cI, 20, .inl pc)), (a_lens, .inl (cI, 4, .inl pl))]) hD hS hA [0, 1, 2, 3] rfl
  refine va_calli (va_runV (As := [.int 0, .int 255]) (rest := []) ⟨hx, hb, hml, hown, hts⟩ (c_MA_bitsAt l dC dI cI cJ cZ cQ a_ma a_pr a_codes a_lens H.size mki mme mbu mnm mnb pc pl 0 255 _  h) (cwV 2 hts (goodIn_app (jGl (List.forall_mem_cons.mpr ⟨mw_660, List.forall_mem_cons.mpr ⟨mw_662, List.forall_mem_cons.mpr ⟨ms_MA_bitsAt, List.forall_mem_cons.mpr ⟨mw_5, fun _ h => absurd h List.not_mem_nil⟩⟩⟩⟩)) (jG mw_663)) rfl rfl rfl (by decide +kernel) ⟨Nat.le_of_ble_eq_true rfl, Nat.le_of_ble_eq_true rfl⟩) ⟨jPre_blind, va_recv hK hPc (ci := 1) (q0 := 0) rfl rfl, jPre_in hPc hK hDc hZ hS hFc hst⟩ rfl rfl hl.1 rfl (lv_room (Nat.le_of_ble_eq_true rfl)) d_MA_cutHere_5 ⟨(Nat.zero_le _), (Nat.zero_le _)⟩) hS (fun q _ h => hFc q h) hFc (fun r1 u t H1 locs ht hvm hw hB hz1 hk1 hS => ?_)
  obtain ⟨u2, u3, u4, u5, u6, u7, u8⟩ := u
  obtain ⟨hP1, hK1, hD1⟩ := hB
  rw [ht] at hP1
  have h := hw
  obtain ⟨hP, hD⟩ := va_join (wr := []) (w1 := [(a_ma, .inr (1, [.ref a_pr, .int u2, .long u3, .long u4, .long u5, .long u6])), (a_pr, .inr (0, [.ref a_codes, .ref a_lens])), (a_codes, .inl (cI, 20, .inl u7)), (a_lens, .inl (cI, 4, .inl u8))]) hP hD [0, 1, 2, 3] [] rfl rfl (by decide) (by decide) hk1 hFc hP1 hD1
  generalize H1 = H at hP hS ⊢
  have hP : va_P (dC, dI) vwCl [(a_ma, .inr (1, [.ref a_pr, .int u2, .long u3, .long u4, .long u5, .long u6])), (a_pr, .inr (0, [.ref a_codes, .ref a_lens])), (a_codes, .inl (cI, 20, .inl u7)), (a_lens, .inl (cI, 4, .inl u8))] H := hP
  have hD : va_D A [(a_ma, .inr (1, [.ref a_pr, .int u2, .long u3, .long u4, .long u5, .long u6])), (a_pr, .inr (0, [.ref a_codes, .ref a_lens])), (a_codes, .inl (cI, 20, .inl u7)), (a_lens, .inl (cI, 4, .inl u8))] := hD
  have hP9 := hP
  have hD9 := hD
  exact W.iret (v := r1) hx hb hr (fun t ht hW => ⟨⟨r1, (u2, u3, u4, u5, u6, u7, u8), rfl, h, by rw [ht]; exact hP9, va_K.moved hW.alike hK, hD9⟩, hS.F ht⟩) hS.2.2 d_MA_cutHere_8

/-- what OrderMachines$Machine.entriesOf(I)I leaves -/
abbrev jQ_MA_entriesOf (dC : Nat → ClassId) (dI : Nat → Nat → Nat) (cI cJ cZ cQ : ClassId) (A : Nat → Prop) (a_ma a_pr a_codes a_lens : Nat) (Post : Int32 → Int32 → Int64 → Int64 → Int64 → Int64 → (Nat → Int32) → (Nat → Int32) → Prop) : Array Value → State → Outcome → State → Prop := va_Qi (fun (r : Int32) (u : Int32 × Int64 × Int64 × Int64 × Int64 × (Nat → Int32) × (Nat → Int32)) => Post r u.1 u.2.1 u.2.2.1 u.2.2.2.1 u.2.2.2.2.1 u.2.2.2.2.2.1 u.2.2.2.2.2.2) (fun (u : Int32 × Int64 × Int64 × Int64 × Int64 × (Nat → Int32) × (Nat → Int32)) (t : State) => match u with
  | (mki, mme, mbu, mnm, mnb, pc, pl) => jPost (dC, dI) (jT cI cJ cZ cQ) A [(a_ma, .inr (1, [.ref a_pr, .int mki, .long mme, .long mbu, .long mnm, .long mnb])), (a_pr, .inr (0, [.ref a_codes, .ref a_lens])), (a_codes, .inl (cI, 20, .inl pc)), (a_lens, .inl (cI, 4, .inl pl))] t) A
/-- OrderMachines$Machine.entriesOf(I)I -/
def wp_MA_entriesOf (Post : Int32 → Int32 → Int64 → Int64 → Int64 → Int64 → (Nat → Int32) → (Nat → Int32) → Prop) (mki : Int32) (mme mbu mnm mnb : Int64) (pc pl : Nat → Int32) (b0 : Int32) : Prop :=
  Post ((((mbu.toUInt64 >>> ((b0 * 15).toInt64.toUInt64 &&& Int64.toUInt64 63)).toInt64).toInt32) &&& 32767) mki mme mbu mnm mnb pc pl
set_option maxHeartbeats 4000000 in
set_option maxRecDepth 100000 in
theorem c_MA_entriesOf (l : Launch) (dC : Nat → ClassId) (dI : Nat → Nat → Nat) (cI cJ cZ cQ : ClassId) (a_ma a_pr a_codes a_lens : Nat) (sz : Nat) (mki : Int32) (mme mbu mnm mnb : Int64) (pc pl : Nat → Int32) (b0 : Int32) (Post : Int32 → Int32 → Int64 → Int64 → Int64 → Int64 → (Nat → Int32) → (Nat → Int32) → Prop) (h : wp_MA_entriesOf Post mki mme mbu mnm mnb pc pl b0) : Met l y_MA_entriesOf (.code y_MA_entriesOf b_MA_entriesOf 2 (some .int) :: jW) ({ frames := 10, cells := 0, slots := 0, locals := 150 } : Room) (jPre l (dC, dI) cI cJ cZ cQ [(a_ma, .inr (1, [.ref a_pr, .int mki, .long mme, .long mbu, .long mnm, .long mnb])), (a_pr, .inr (0, [.ref a_codes, .ref a_lens])), (a_codes, .inl (cI, 20, .inl pc)), (a_lens, .inl (cI, 4, .inl pl))] sz [.ref a_ma, .int b0]) (jQ_MA_entriesOf dC dI cI cJ cZ cQ (va_A [(a_ma, .inr (1, [.ref a_pr, .int mki, .long mme, .long mbu, .long mnm, .long mnb])), (a_pr, .inr (0, [.ref a_codes, .ref a_lens])), (a_codes, .inl (cI, 20, .inl pc)), (a_lens, .inl (cI, 4, .inl pl))] sz) a_ma a_pr a_codes a_lens Post) 0 0 (va_A [(a_ma, .inr (1, [.ref a_pr, .int mki, .long mme, .long mbu, .long mnm, .long mnb])), (a_pr, .inr (0, [.ref a_codes, .ref a_lens])), (a_codes, .inl (cI, 20, .inl pc)), (a_lens, .inl (cI, 4, .inl pl))] sz) := by
  refine Met.ofW (cc := b_MA_entriesOf) (maxL := 2) (ret := (some .int)) (by decide) rfl ?_
  intro p e s m args below meth c s₁ B hml hv
  obtain ⟨rfl, hsz, hP, hK, hD0, hZ, hst⟩ := hv
  subst hsz
  have hD := hD0.self (sz := s.heap.size)
  generalize hAe : va_A [(a_ma, .inr (1, [.ref a_pr, .int mki, .long mme, .long mbu, .long mnm, .long mnb])), (a_pr, .inr (0, [.ref a_codes, .ref a_lens])), (a_codes, .inl (cI, 20, .inl pc)), (a_lens, .inl (cI, 4, .inl pl))] s.heap.size = A at hD hZ ⊢
  have hA : ∀ q : Nat, s.heap.size ≤ q → A q := fun q h => by rw [← hAe]; exact Or.inr h
  have C0 : jC p l s m ([.ref a_ma, .int b0] : List Value).toArray meth c b_MA_entriesOf (some .int) 2 R_MA (dC, dI) cI cJ cZ cQ A := ⟨B.exec, B.bytes, B.returns, hml, findClass_of_methodNamed B.named, fun w hw => atoms_spec (ws := (.code y_MA_entriesOf b_MA_entriesOf 2 (some .int) :: jW)) B.pre w (List.mem_cons_of_mem _ hw), B.notSynchronized, hK, hZ, hA, hst⟩
  obtain ⟨hx, hb, hr, hml, hown, hts, hlocks, hK, hZ, hA, hst⟩ := id C0
  have hS : va_S A s.heap s.heap [] := va_S.rf
  have hl := lv_entry ([.ref a_ma, .int b0]) (n := 2) (Nat.le_of_ble_eq_true rfl)
  rw [lg_entry_eq]
  generalize (lg_sl ([.ref a_ma, .int b0]) ++ List.replicate (2 - (lg_sl ([.ref a_ma, .int b0])).length) Slot.unset).toArray = ls at hl ⊢
  have hl : lv_has ls 2 [(0, .ref a_ma), (1, .int b0)] := hl
  obtain ⟨H, hH⟩ : ∃ H : Heap, H = s.heap := ⟨_, rfl⟩
  obtain ⟨locs, hlc⟩ : ∃ L : List Loc, L = [] := ⟨_, rfl⟩
  have hP : va_P (dC, dI) vwCl [(a_ma, .inr (1, [.ref a_pr, .int mki, .long mme, .long mbu, .long mnm, .long mnb])), (a_pr, .inr (0, [.ref a_codes, .ref a_lens])), (a_codes, .inl (cI, 20, .inl pc)), (a_lens, .inl (cI, 4, .inl pl))] H := by rw [hH]; exact hP
  have hS : va_S A s.heap H locs := by rw [hH, hlc]; exact hS
  suffices hW9 : W p l e ({ frames := 10, cells := 0, slots := 0, locals := 150 } : Room) s m ([.ref a_ma, .int b0] : List Value).toArray below meth c H locs 0 0 (MQ below (jQ_MA_entriesOf dC dI cI cJ cZ cQ A a_ma a_pr a_codes a_lens Post) ([.ref a_ma, .int b0] : List Value).toArray s 0 0 A) (F0 m 0 ls []) by rw [hH, hlc] at hW9; exact hW9
  clear hH hlc
  rw [wp_MA_entriesOf] at h
  refine lv_aload_n hx hb d_MA_entriesOf_0 rfl (lv_at hl 0 rfl) ?_
  refine va_get (D := (dC, dI)) (ci := 1) (v := .long mbu) (C := R_MA) (T := T_MA) (N := 6) hx hb hts in_MA hown hK hP 0 rfl rfl 3 (by decide) (hts _ mw_93) (fun _ h9 => h9) rfl d_MA_entriesOf_1 ?_
  refine lv_iload_n hx hb d_MA_entriesOf_4 rfl (lv_at hl 1 rfl) ?_
  refine lv_bipush (v := 15) hx hb d_MA_entriesOf_5 (by decide) ?_
  refine lv_imul hx hb d_MA_entriesOf_7 ?_
  refine lv_lushr hx hb d_MA_entriesOf_8 rfl ?_
  refine lv_l2i hx hb d_MA_entriesOf_9 rfl ?_
  refine lv_sipush (v := 32767) hx hb d_MA_entriesOf_10 (by decide) ?_
  refine lv_iand hx hb d_MA_entriesOf_13 ?_
  have hP9 := hP
  have hD9 := hD
  exact W.iret (v := (((mbu.toUInt64 >>> ((b0 * 15).toInt64.toUInt64 &&& Int64.toUInt64 63)).toInt64).toInt32) &&& 32767) hx hb hr (fun t ht hW => ⟨⟨(((mbu.toUInt64 >>> ((b0 * 15).toInt64.toUInt64 &&& Int64.toUInt64 63)).toInt64).toInt32) &&& 32767, (mki, mme, mbu, mnm, mnb, pc, pl), rfl, h, by rw [ht]; exact hP9, va_K.moved hW.alike hK, hD9⟩, hS.F ht⟩) hS.2.2 d_MA_entriesOf_14

/-- what OrderMachines$Machine.setEntries(II)V leaves -/
abbrev jQ_MA_setEntries (dC : Nat → ClassId) (dI : Nat → Nat → Nat) (cI cJ cZ cQ : ClassId) (A : Nat → Prop) (a_ma a_pr a_codes a_lens : Nat) (Post : Int32 → Int64 → Int64 → Int64 → Int64 → (Nat → Int32) → (Nat → Int32) → Prop) : Array Value → State → Outcome → State → Prop := va_Qv (fun (u : Int32 × Int64 × Int64 × Int64 × Int64 × (Nat → Int32) × (Nat → Int32)) => Post u.1 u.2.1 u.2.2.1 u.2.2.2.1 u.2.2.2.2.1 u.2.2.2.2.2.1 u.2.2.2.2.2.2) (fun (u : Int32 × Int64 × Int64 × Int64 × Int64 × (Nat → Int32) × (Nat → Int32)) (t : State) => match u with
  | (mki, mme, mbu, mnm, mnb, pc, pl) => jPost (dC, dI) (jT cI cJ cZ cQ) A [(a_ma, .inr (1, [.ref a_pr, .int mki, .long mme, .long mbu, .long mnm, .long mnb])), (a_pr, .inr (0, [.ref a_codes, .ref a_lens])), (a_codes, .inl (cI, 20, .inl pc)), (a_lens, .inl (cI, 4, .inl pl))] t) A
/-- OrderMachines$Machine.setEntries(II)V -/
def wp_MA_setEntries (Post : Int32 → Int64 → Int64 → Int64 → Int64 → (Nat → Int32) → (Nat → Int32) → Prop) (mki : Int32) (mme mbu mnm mnb : Int64) (pc pl : Nat → Int32) (b0 en : Int32) : Prop :=
  ∀ x1 : Int32, x1 = b0 * 15 → ∀ x2 : Int64, x2 = (mbu &&& ((32767 <<< (x1.toInt64 &&& 63)) ^^^ (-1))) ||| (en.toInt64 <<< (x1.toInt64 &&& 63)) → Post mki mme mbu mnm x2 pc pl
set_option maxHeartbeats 4000000 in
set_option maxRecDepth 100000 in
theorem c_MA_setEntries (l : Launch) (dC : Nat → ClassId) (dI : Nat → Nat → Nat) (cI cJ cZ cQ : ClassId) (a_ma a_pr a_codes a_lens : Nat) (sz : Nat) (mki : Int32) (mme mbu mnm mnb : Int64) (pc pl : Nat → Int32) (b0 en : Int32) (Post : Int32 → Int64 → Int64 → Int64 → Int64 → (Nat → Int32) → (Nat → Int32) → Prop) (h : wp_MA_setEntries Post mki mme mbu mnm mnb pc pl b0 en) : Met l y_MA_setEntries (.code y_MA_setEntries b_MA_setEntries 4 none :: jW) ({ frames := 10, cells := 0, slots := 0, locals := 150 } : Room) (jPre l (dC, dI) cI cJ cZ cQ [(a_ma, .inr (1, [.ref a_pr, .int mki, .long mme, .long mbu, .long mnm, .long mnb])), (a_pr, .inr (0, [.ref a_codes, .ref a_lens])), (a_codes, .inl (cI, 20, .inl pc)), (a_lens, .inl (cI, 4, .inl pl))] sz [.ref a_ma, .int b0, .int en]) (jQ_MA_setEntries dC dI cI cJ cZ cQ (va_A [(a_ma, .inr (1, [.ref a_pr, .int mki, .long mme, .long mbu, .long mnm, .long mnb])), (a_pr, .inr (0, [.ref a_codes, .ref a_lens])), (a_codes, .inl (cI, 20, .inl pc)), (a_lens, .inl (cI, 4, .inl pl))] sz) a_ma a_pr a_codes a_lens Post) 0 0 (va_A [(a_ma, .inr (1, [.ref a_pr, .int mki, .long mme, .long mbu, .long mnm, .long mnb])), (a_pr, .inr (0, [.ref a_codes, .ref a_lens])), (a_codes, .inl (cI, 20, .inl pc)), (a_lens, .inl (cI, 4, .inl pl))] sz) := by
  refine Met.ofW (cc := b_MA_setEntries) (maxL := 4) (ret := none) (by decide) rfl ?_
  intro p e s m args below meth c s₁ B hml hv
  obtain ⟨rfl, hsz, hP, hK, hD0, hZ, hst⟩ := hv
  subst hsz
  have hD := hD0.self (sz := s.heap.size)
  generalize hAe : va_A [(a_ma, .inr (1, [.ref a_pr, .int mki, .long mme, .long mbu, .long mnm, .long mnb])), (a_pr, .inr (0, [.ref a_codes, .ref a_lens])), (a_codes, .inl (cI, 20, .inl pc)), (a_lens, .inl (cI, 4, .inl pl))] s.heap.size = A at hD hZ ⊢
  have hA : ∀ q : Nat, s.heap.size ≤ q → A q := fun q h => by rw [← hAe]; exact Or.inr h
  have C0 : jC p l s m ([.ref a_ma, .int b0, .int en] : List Value).toArray meth c b_MA_setEntries none 4 R_MA (dC, dI) cI cJ cZ cQ A := ⟨B.exec, B.bytes, B.returns, hml, findClass_of_methodNamed B.named, fun w hw => atoms_spec (ws := (.code y_MA_setEntries b_MA_setEntries 4 none :: jW)) B.pre w (List.mem_cons_of_mem _ hw), B.notSynchronized, hK, hZ, hA, hst⟩
  obtain ⟨hx, hb, hr, hml, hown, hts, hlocks, hK, hZ, hA, hst⟩ := id C0
  have hS : va_S A s.heap s.heap [] := va_S.rf
  have hl := lv_entry ([.ref a_ma, .int b0, .int en]) (n := 4) (Nat.le_of_ble_eq_true rfl)
  rw [lg_entry_eq]
  generalize (lg_sl ([.ref a_ma, .int b0, .int en]) ++ List.replicate (4 - (lg_sl ([.ref a_ma, .int b0, .int en])).length) Slot.unset).toArray = ls at hl ⊢
  have hl : lv_has ls 4 [(0, .ref a_ma), (1, .int b0), (2, .int en)] := hl
  obtain ⟨H, hH⟩ : ∃ H : Heap, H = s.heap := ⟨_, rfl⟩
  obtain ⟨locs, hlc⟩ : ∃ L : List Loc, L = [] := ⟨_, rfl⟩
  have hP : va_P (dC, dI) vwCl [(a_ma, .inr (1, [.ref a_pr, .int mki, .long mme, .long mbu, .long mnm, .long mnb])), (a_pr, .inr (0, [.ref a_codes, .ref a_lens])), (a_codes, .inl (cI, 20, .inl pc)), (a_lens, .inl (cI, 4, .inl pl))] H := by rw [hH]; exact hP
  have hS : va_S A s.heap H locs := by rw [hH, hlc]; exact hS
  suffices hW9 : W p l e ({ frames := 10, cells := 0, slots := 0, locals := 150 } : Room) s m ([.ref a_ma, .int b0, .int en] : List Value).toArray below meth c H locs 0 0 (MQ below (jQ_MA_setEntries dC dI cI cJ cZ cQ A a_ma a_pr a_codes a_lens Post) ([.ref a_ma, .int b0, .int en] : List Value).toArray s 0 0 A) (F0 m 0 ls []) by rw [hH, hlc] at hW9; exact hW9
  clear hH hlc
  rw [wp_MA_setEntries] at h
  refine lv_iload_n hx hb d_MA_setEntries_0 rfl (lv_at hl 1 rfl) ?_
  refine lv_bipush (v := 15) hx hb d_MA_setEntries_1 (by decide) ?_
  refine lv_imul hx hb d_MA_setEntries_3 ?_
  refine lv_topi (fun x1 ex1 => ?_)
  have h := h x1 ex1
  refine lv_istore_n (lv' := [(3, .int x1), (0, .ref a_ma), (1, .int b0), (2, .int en)]) hx hb d_MA_setEntries_4 rfl hl (by decide) rfl (fun ls hl => ?_)
  refine lv_aload_n hx hb d_MA_setEntries_5 rfl (lv_at hl 1 rfl) ?_
  refine lv_aload_n hx hb d_MA_setEntries_6 rfl (lv_at hl 1 rfl) ?_
  refine va_get (D := (dC, dI)) (ci := 1) (v := .long mbu) (C := R_MA) (T := T_MA) (N := 6) hx hb hts in_MA hown hK hP 0 rfl rfl 3 (by decide) (hts _ mw_93) (fun _ h9 => h9) rfl d_MA_setEntries_7 ?_
  refine lv_ldc2 (v := 32767) hx hb hown (hts _ mw_711) d_MA_setEntries_10 ?_
  refine lv_iload_n hx hb d_MA_setEntries_13 rfl (lv_at hl 0 rfl) ?_
  refine lv_lshl hx hb d_MA_setEntries_14 rfl ?_
  refine lv_ldc2 (v := (-1)) hx hb hown (hts _ mw_703) d_MA_setEntries_15 ?_
  refine lv_lxor hx hb d_MA_setEntries_18 ?_
  refine lv_land hx hb d_MA_setEntries_19 ?_
  refine lv_iload_n hx hb d_MA_setEntries_20 rfl (lv_at hl 3 rfl) ?_
  refine lv_i2l hx hb d_MA_setEntries_21 rfl ?_
  refine lv_iload_n hx hb d_MA_setEntries_22 rfl (lv_at hl 0 rfl) ?_
  refine lv_lshl hx hb d_MA_setEntries_23 rfl ?_
  refine lv_lor hx hb d_MA_setEntries_24 ?_
  refine lv_topl (fun x2 ex2 => ?_)
  have h := h x2 ex2
  refine va_put (D := (dC, dI)) (ci := 1) (v := .long x2) (ty := .long) (C := R_MA) (T := T_MA) (N := 6) hx hb hts in_MA ty_MA tok_MA nm_MA hown hK hP hD hS 0 rfl rfl 5 (by decide) (hts _ mw_97) (fun _ h9 => h9) rfl (by decide +kernel) rfl rfl (Nat.le_of_ble_eq_true rfl) d_MA_setEntries_25 (fun H locs hP hD hS => ?_)
  have hP : va_P (dC, dI) vwCl [(a_ma, .inr (1, [.ref a_pr, .int mki, .long mme, .long mbu, .long mnm, .long x2])), (a_pr, .inr (0, [.ref a_codes, .ref a_lens])), (a_codes, .inl (cI, 20, .inl pc)), (a_lens, .inl (cI, 4, .inl pl))] H := hP
  have hD : va_D A [(a_ma, .inr (1, [.ref a_pr, .int mki, .long mme, .long mbu, .long mnm, .long x2])), (a_pr, .inr (0, [.ref a_codes, .ref a_lens])), (a_codes, .inl (cI, 20, .inl pc)), (a_lens, .inl (cI, 4, .inl pl))] := hD
  have hP9 := hP
  have hD9 := hD
  exact W.vret hx hb hr (fun t ht hW => ⟨⟨(mki, mme, mbu, mnm, x2, pc, pl), rfl, h, by rw [ht]; exact hP9, va_K.moved hW.alike hK, hD9⟩, hS.F ht⟩) hS.2.2 d_MA_setEntries_28

/-- what OrderMachines$Machine.setDigit(II)V leaves -/
abbrev jQ_MA_setDigit (dC : Nat → ClassId) (dI : Nat → Nat → Nat) (cI cJ cZ cQ : ClassId) (A : Nat → Prop) (a_ma a_pr a_codes a_lens : Nat) (Post : Int32 → Int64 → Int64 → Int64 → Int64 → (Nat → Int32) → (Nat → Int32) → Prop) : Array Value → State → Outcome → State → Prop := va_Qv (fun (u : Int32 × Int64 × Int64 × Int64 × Int64 × (Nat → Int32) × (Nat → Int32)) => Post u.1 u.2.1 u.2.2.1 u.2.2.2.1 u.2.2.2.2.1 u.2.2.2.2.2.1 u.2.2.2.2.2.2) (fun (u : Int32 × Int64 × Int64 × Int64 × Int64 × (Nat → Int32) × (Nat → Int32)) (t : State) => match u with
  | (mki, mme, mbu, mnm, mnb, pc, pl) => jPost (dC, dI) (jT cI cJ cZ cQ) A [(a_ma, .inr (1, [.ref a_pr, .int mki, .long mme, .long mbu, .long mnm, .long mnb])), (a_pr, .inr (0, [.ref a_codes, .ref a_lens])), (a_codes, .inl (cI, 20, .inl pc)), (a_lens, .inl (cI, 4, .inl pl))] t) A
/-- OrderMachines$Machine.setDigit(II)V -/
def wp_MA_setDigit (Post : Int32 → Int64 → Int64 → Int64 → Int64 → (Nat → Int32) → (Nat → Int32) → Prop) (mki : Int32) (mme mbu mnm mnb : Int64) (pc pl : Nat → Int32) (sh dg : Int32) : Prop :=
  ∀ x1 : Int64, x1 = (mnm &&& ((3 <<< (sh.toInt64 &&& 63)) ^^^ (-1))) ||| (dg.toInt64 <<< (sh.toInt64 &&& 63)) → Post mki mme mbu x1 mnb pc pl
set_option maxHeartbeats 4000000 in
set_option maxRecDepth 100000 in
theorem c_MA_setDigit (l : Launch) (dC : Nat → ClassId) (dI : Nat → Nat → Nat) (cI cJ cZ cQ : ClassId) (a_ma a_pr a_codes a_lens : Nat) (sz : Nat) (mki : Int32) (mme mbu mnm mnb : Int64) (pc pl : Nat → Int32) (sh dg : Int32) (Post : Int32 → Int64 → Int64 → Int64 → Int64 → (Nat → Int32) → (Nat → Int32) → Prop) (h : wp_MA_setDigit Post mki mme mbu mnm mnb pc pl sh dg) : Met l y_MA_setDigit (.code y_MA_setDigit b_MA_setDigit 3 none :: jW) ({ frames := 10, cells := 0, slots := 0, locals := 150 } : Room) (jPre l (dC, dI) cI cJ cZ cQ [(a_ma, .inr (1, [.ref a_pr, .int mki, .long mme, .long mbu, .long mnm, .long mnb])), (a_pr, .inr (0, [.ref a_codes, .ref a_lens])), (a_codes, .inl (cI, 20, .inl pc)), (a_lens, .inl (cI, 4, .inl pl))] sz [.ref a_ma, .int sh, .int dg]) (jQ_MA_setDigit dC dI cI cJ cZ cQ (va_A [(a_ma, .inr (1, [.ref a_pr, .int mki, .long mme, .long mbu, .long mnm, .long mnb])), (a_pr, .inr (0, [.ref a_codes, .ref a_lens])), (a_codes, .inl (cI, 20, .inl pc)), (a_lens, .inl (cI, 4, .inl pl))] sz) a_ma a_pr a_codes a_lens Post) 0 0 (va_A [(a_ma, .inr (1, [.ref a_pr, .int mki, .long mme, .long mbu, .long mnm, .long mnb])), (a_pr, .inr (0, [.ref a_codes, .ref a_lens])), (a_codes, .inl (cI, 20, .inl pc)), (a_lens, .inl (cI, 4, .inl pl))] sz) := by
  refine Met.ofW (cc := b_MA_setDigit) (maxL := 3) (ret := none) (by decide) rfl ?_
  intro p e s m args below meth c s₁ B hml hv
  obtain ⟨rfl, hsz, hP, hK, hD0, hZ, hst⟩ := hv
  subst hsz
  have hD := hD0.self (sz := s.heap.size)
  generalize hAe : va_A [(a_ma, .inr (1, [.ref a_pr, .int mki, .long mme, .long mbu, .long mnm, .long mnb])), (a_pr, .inr (0, [.ref a_codes, .ref a_lens])), (a_codes, .inl (cI, 20, .inl pc)), (a_lens, .inl (cI, 4, .inl pl))] s.heap.size = A at hD hZ ⊢
  have hA : ∀ q : Nat, s.heap.size ≤ q → A q := fun q h => by rw [← hAe]; exact Or.inr h
  have C0 : jC p l s m ([.ref a_ma, .int sh, .int dg] : List Value).toArray meth c b_MA_setDigit none 3 R_MA (dC, dI) cI cJ cZ cQ A := ⟨B.exec, B.bytes, B.returns, hml, findClass_of_methodNamed B.named, fun w hw => atoms_spec (ws := (.code y_MA_setDigit b_MA_setDigit 3 none :: jW)) B.pre w (List.mem_cons_of_mem _ hw), B.notSynchronized, hK, hZ, hA, hst⟩
  obtain ⟨hx, hb, hr, hml, hown, hts, hlocks, hK, hZ, hA, hst⟩ := id C0
  have hS : va_S A s.heap s.heap [] := va_S.rf
  have hl := lv_entry ([.ref a_ma, .int sh, .int dg]) (n := 3) (Nat.le_of_ble_eq_true rfl)
  rw [lg_entry_eq]
  generalize (lg_sl ([.ref a_ma, .int sh, .int dg]) ++ List.replicate (3 - (lg_sl ([.ref a_ma, .int sh, .int dg])).length) Slot.unset).toArray = ls at hl ⊢
  have hl : lv_has ls 3 [(0, .ref a_ma), (1, .int sh), (2, .int dg)] := hl
  obtain ⟨H, hH⟩ : ∃ H : Heap, H = s.heap := ⟨_, rfl⟩
  obtain ⟨locs, hlc⟩ : ∃ L : List Loc, L = [] := ⟨_, rfl⟩
  have hP : va_P (dC, dI) vwCl [(a_ma, .inr (1, [.ref a_pr, .int mki, .long mme, .long mbu, .long mnm, .long mnb])), (a_pr, .inr (0, [.ref a_codes, .ref a_lens])), (a_codes, .inl (cI, 20, .inl pc)), (a_lens, .inl (cI, 4, .inl pl))] H := by rw [hH]; exact hP
  have hS : va_S A s.heap H locs := by rw [hH, hlc]; exact hS
  suffices hW9 : W p l e ({ frames := 10, cells := 0, slots := 0, locals := 150 } : Room) s m ([.ref a_ma, .int sh, .int dg] : List Value).toArray below meth c H locs 0 0 (MQ below (jQ_MA_setDigit dC dI cI cJ cZ cQ A a_ma a_pr a_codes a_lens Post) ([.ref a_ma, .int sh, .int dg] : List Value).toArray s 0 0 A) (F0 m 0 ls []) by rw [hH, hlc] at hW9; exact hW9
  clear hH hlc
  rw [wp_MA_setDigit] at h
  refine lv_aload_n hx hb d_MA_setDigit_0 rfl (lv_at hl 0 rfl) ?_
  refine lv_aload_n hx hb d_MA_setDigit_1 rfl (lv_at hl 0 rfl) ?_
  refine va_get (D := (dC, dI)) (ci := 1) (v := .long mnm) (C := R_MA) (T := T_MA) (N := 6) hx hb hts in_MA hown hK hP 0 rfl rfl 4 (by decide) (hts _ mw_95) (fun _ h9 => h9) rfl d_MA_setDigit_2 ?_
  refine lv_ldc2 (v := 3) hx hb hown (hts _ mw_702) d_MA_setDigit_5 ?_
  refine lv_iload_n hx hb d_MA_setDigit_8 rfl (lv_at hl 1 rfl) ?_
  refine lv_lshl hx hb d_MA_setDigit_9 rfl ?_
  refine lv_ldc2 (v := (-1)) hx hb hown (hts _ mw_703) d_MA_setDigit_10 ?_
  refine lv_lxor hx hb d_MA_setDigit_13 ?_
  refine lv_land hx hb d_MA_setDigit_14 ?_
  refine lv_iload_n hx hb d_MA_setDigit_15 rfl (lv_at hl 2 rfl) ?_
  refine lv_i2l hx hb d_MA_setDigit_16 rfl ?_
  refine lv_iload_n hx hb d_MA_setDigit_17 rfl (lv_at hl 1 rfl) ?_
  refine lv_lshl hx hb d_MA_setDigit_18 rfl ?_
  refine lv_lor hx hb d_MA_setDigit_19 ?_
  refine lv_topl (fun x1 ex1 => ?_)
  have h := h x1 ex1
  refine va_put (D := (dC, dI)) (ci := 1) (v := .long x1) (ty := .long) (C := R_MA) (T := T_MA) (N := 6) hx hb hts in_MA ty_MA tok_MA nm_MA hown hK hP hD hS 0 rfl rfl 4 (by decide) (hts _ mw_95) (fun _ h9 => h9) rfl (by decide +kernel) rfl rfl (Nat.le_of_ble_eq_true rfl) d_MA_setDigit_20 (fun H locs hP hD hS => ?_)
  have hP : va_P (dC, dI) vwCl [(a_ma, .inr (1, [.ref a_pr, .int mki, .long mme, .long mbu, .long x1, .long mnb])), (a_pr, .inr (0, [.ref a_codes, .ref a_lens])), (a_codes, .inl (cI, 20, .inl pc)), (a_lens, .inl (cI, 4, .inl pl))] H := hP
  have hD : va_D A [(a_ma, .inr (1, [.ref a_pr, .int mki, .long mme, .long mbu, .long x1, .long mnb])), (a_pr, .inr (0, [.ref a_codes, .ref a_lens])), (a_codes, .inl (cI, 20, .inl pc)), (a_lens, .inl (cI, 4, .inl pl))] := hD
  have hP9 := hP
  have hD9 := hD
  exact W.vret hx hb hr (fun t ht hW => ⟨⟨(mki, mme, mbu, x1, mnb, pc, pl), rfl, h, by rw [ht]; exact hP9, va_K.moved hW.alike hK, hD9⟩, hS.F ht⟩) hS.2.2 d_MA_setDigit_23

/-- what OrderMachines$Machine.isAtEnd()Z leaves -/
abbrev jQ_MA_isAtEnd (dC : Nat → ClassId) (dI : Nat → Nat → Nat) (cI cJ cZ cQ : ClassId) (A : Nat → Prop) (a_ma a_pr a_codes a_lens : Nat) (Post : Int32 → Int32 → Int64 → Int64 → Int64 → Int64 → (Nat → Int32) → (Nat → Int32) → Prop) : Array Value → State → Outcome → State → Prop := va_Qi (fun (r : Int32) (u : Int32 × Int64 × Int64 × Int64 × Int64 × (Nat → Int32) × (Nat → Int32)) => Post r u.1 u.2.1 u.2.2.1 u.2.2.2.1 u.2.2.2.2.1 u.2.2.2.2.2.1 u.2.2.2.2.2.2) (fun (u : Int32 × Int64 × Int64 × Int64 × Int64 × (Nat → Int32) × (Nat → Int32)) (t : State) => match u with
  | (mki, mme, mbu, mnm, mnb, pc, pl) => jPost (dC, dI) (jT cI cJ cZ cQ) A [(a_ma, .inr (1, [.ref a_pr, .int mki, .long mme, .long mbu, .long mnm, .long mnb])), (a_pr, .inr (0, [.ref a_codes, .ref a_lens])), (a_codes, .inl (cI, 20, .inl pc)), (a_lens, .inl (cI, 4, .inl pl))] t) A
def wp_MA_isAtEnd_2 (Post : Int32 → Int32 → Int64 → Int64 → Int64 → Int64 → (Nat → Int32) → (Nat → Int32) → Prop)  : Nat → Int32 → Int64 → Int64 → Int64 → Int64 → (Nat → Int32) → (Nat → Int32) → Int32 → Prop
  | 0, _, _, _, _, _, _, _, _ => False
  | n_2 + 1, mki, mme, mbu, mnm, mnb, pc, pl, L1 =>
    ((4 ≤ L1 → ((¬ (lg_cmp mbu 0) = 0 → Post 0 mki mme mbu mnm mnb pc pl) ∧
      ((lg_cmp mbu 0) = 0 → Post 1 mki mme mbu mnm mnb pc pl))) ∧
    (¬ 4 ≤ L1 → wp_MA_doneShift (fun (r1 : Int32) => wp_MA_bitsAt (fun (r2 : Int32) (u3 : Int32) (u4 : Int64) (u5 : Int64) (u6 : Int64) (u7 : Int64) (u8 : Nat → Int32) (u9 : Nat → Int32) => wp_PR_lengthOf (fun (r10 : Int32) (u11 : Nat → Int32) (u12 : Nat → Int32) => ((r10 ≤ r2 → ∀ x13 : Int32, x13 = L1 + 1 → (wp_MA_isAtEnd_2 Post n_2) u3 u4 u5 u6 u7 u11 u12 x13) ∧
      (¬ r10 ≤ r2 → Post 0 u3 u4 u5 u6 u7 u11 u12))) u8 u9 L1) mki mme mbu mnm mnb pc pl r1 7) L1))
/-- OrderMachines$Machine.isAtEnd()Z -/
def wp_MA_isAtEnd (Post : Int32 → Int32 → Int64 → Int64 → Int64 → Int64 → (Nat → Int32) → (Nat → Int32) → Prop) (mki : Int32) (mme mbu mnm mnb : Int64) (pc pl : Nat → Int32) : Prop :=
  (∃ n_2 : Nat, wp_MA_isAtEnd_2 Post n_2 mki mme mbu mnm mnb pc pl 0)
set_option maxHeartbeats 4000000 in
set_option maxRecDepth 100000 in
theorem l_MA_isAtEnd_2 {p : Program} {l : Launch} {e : Env} {s : State} {m : MethodId} {args : Array Value} {below : List Frame} {meth : Method} {c : Code} {dC : Nat → ClassId} {dI : Nat → Nat → Nat} {cI cJ cZ cQ : ClassId} {a_ma a_pr a_codes a_lens : Nat} {A : Nat → Prop} {Post : Int32 → Int32 → Int64 → Int64 → Int64 → Int64 → (Nat → Int32) → (Nat → Int32) → Prop} (C0 : jC p l s m args meth c b_MA_isAtEnd (some .boolean) 2 R_MA (dC, dI) cI cJ cZ cQ A)  : ∀ n9 : Nat, ∀ (mki : Int32) (mme mbu mnm mnb : Int64) (pc pl : Nat → Int32) (L1 : Int32), ∀ (H : Heap) (locs : List Loc) (ls : Array Slot), wp_MA_isAtEnd_2 Post  n9 mki mme mbu mnm mnb pc pl L1 → va_P (dC, dI) vwCl [(a_ma, .inr (1, [.ref a_pr, .int mki, .long mme, .long mbu, .long mnm, .long mnb])), (a_pr, .inr (0, [.ref a_codes, .ref a_lens])), (a_codes, .inl (cI, 20, .inl pc)), (a_lens, .inl (cI, 4, .inl pl))] H → va_D A [(a_ma, .inr (1, [.ref a_pr, .int mki, .long mme, .long mbu, .long mnm, .long mnb])), (a_pr, .inr (0, [.ref a_codes, .ref a_lens])), (a_codes, .inl (cI, 20, .inl pc)), (a_lens, .inl (cI, 4, .inl pl))] → va_S A s.heap H locs → lv_has ls 2 [(0, .ref a_ma), (1, .int L1)] → W p l e ({ frames := 11, cells := 0, slots := 0, locals := 172 } : Room) s m args below meth c H locs 0 0 (MQ below (jQ_MA_isAtEnd dC dI cI cJ cZ cQ A a_ma a_pr a_codes a_lens Post) args s 0 0 A) (F0 m 2 ls []) := by
  obtain ⟨hx, hb, hr, hml, hown, hts, hlocks, hK, hZ, hA, hst⟩ := id C0
  intro n9
  induction n9 with
  | zero =>
    intro mki mme mbu mnm mnb pc pl L1 H locs ls h hP hD hS hl
    exact False.elim h
  | succ n_2 ih =>
    intro mki mme mbu mnm mnb pc pl L1 H locs ls h hP hD hS hl
    rw [wp_MA_isAtEnd_2] at h
    refine lv_iload_n hx hb d_MA_isAtEnd_2 rfl (lv_at hl 1 rfl) ?_
    refine lv_iconst (v := 4) hx hb d_MA_isAtEnd_3 (by decide) ?_
    refine lv_icmp_ge (tgt := 36) hx hb d_MA_isAtEnd_4 (by decide) (fun c4 => ?_) (fun c4 => ?_)
    · have h := h.1 c4
      refine lv_aload_n hx hb d_MA_isAtEnd_36 rfl (lv_at hl 0 rfl) ?_
      refine va_get (D := (dC, dI)) (ci := 1) (v := .long mbu) (C := R_MA) (T := T_MA) (N := 6) hx hb hts in_MA hown hK hP 0 rfl rfl 3 (by decide) (hts _ mw_93) (fun _ h9 => h9) rfl d_MA_isAtEnd_37 ?_
      refine lv_lconst (v := 0) hx hb d_MA_isAtEnd_40 (by decide) ?_
      refine W.lcmp hx hb d_MA_isAtEnd_41 ?_
      refine lv_if_ne (tgt := 49) hx hb d_MA_isAtEnd_42 (by decide) (fun c42 => ?_) (fun c42 => ?_)
      · have h := h.1 c42
        refine lv_iconst (v := 0) hx hb d_MA_isAtEnd_49 (by decide) ?_
        have hP9 := hP
        have hD9 := hD
        exact W.zret (v := 0) hx hb hr rfl (fun t ht hW => ⟨⟨0, (mki, mme, mbu, mnm, mnb, pc, pl), rfl, h, by rw [ht]; exact hP9, va_K.moved hW.alike hK, hD9⟩, hS.F ht⟩) hS.2.2 d_MA_isAtEnd_50
      · have h := h.2 c42
        refine lv_iconst (v := 1) hx hb d_MA_isAtEnd_45 (by decide) ?_
        refine lv_goto (tgt := 50) hx hb d_MA_isAtEnd_46 (by decide) ?_
        have hP9 := hP
        have hD9 := hD
        exact W.zret (v := 1) hx hb hr rfl (fun t ht hW => ⟨⟨1, (mki, mme, mbu, mnm, mnb, pc, pl), rfl, h, by rw [ht]; exact hP9, va_K.moved hW.alike hK, hD9⟩, hS.F ht⟩) hS.2.2 d_MA_isAtEnd_50
    · have h := h.2 c4
      refine lv_aload_n hx hb d_MA_isAtEnd_7 rfl (lv_at hl 0 rfl) ?_
      refine lv_iload_n hx hb d_MA_isAtEnd_8 rfl (lv_at hl 1 rfl) ?_
      have hPc := hP.sub (ws' := []) [] rfl
      have hDc := hD.sub (ws' := []) [] (by decide) rfl
      have hFc := va_free (wc := []) hD hS hA [] rfl
      refine va_calli (va_runS (As := [.int L1]) (rest := [.ref a_ma]) ⟨hx, hb, hml, hown, hts⟩ (c_MA_doneShift l dC dI cI cJ cZ cQ  H.size L1 _  h) (va_cwS 1 hts (goodIn_app (jGl (List.forall_mem_cons.mpr ⟨mw_686, List.forall_mem_cons.mpr ⟨mw_687, List.forall_mem_cons.mpr ⟨mw_5, fun _ h => absurd h List.not_mem_nil⟩⟩⟩)) (jG mw_688)) rfl rfl rfl (by decide +kernel) ⟨Nat.le_of_ble_eq_true rfl, Nat.le_of_ble_eq_true rfl⟩) ⟨jPre_blind, jPre_in hPc hK hDc hZ hS hFc hst⟩ rfl rfl hl.1 rfl (lv_room (Nat.le_of_ble_eq_true rfl)) d_MA_isAtEnd_9 ⟨(Nat.zero_le _), (Nat.zero_le _)⟩) hS (fun q _ h => hFc q h) hFc (fun r1 u t H1 locs ht hvm hw hB hz1 hk1 hS => ?_)
      obtain ⟨hP1, hK1, hD1⟩ := hB
      rw [ht] at hP1
      have h := hw
      obtain ⟨hP, hD⟩ := va_join (wr := [(a_ma, .inr (1, [.ref a_pr, .int mki, .long mme, .long mbu, .long mnm, .long mnb])), (a_pr, .inr (0, [.ref a_codes, .ref a_lens])), (a_codes, .inl (cI, 20, .inl pc)), (a_lens, .inl (cI, 4, .inl pl))]) (w1 := []) hP hD [] [0, 1, 2, 3] rfl rfl (by decide) (by decide) hk1 hFc hP1 hD1
      generalize H1 = H at hP hS ⊢
      have hP : va_P (dC, dI) vwCl [(a_ma, .inr (1, [.ref a_pr, .int mki, .long mme, .long mbu, .long mnm, .long mnb])), (a_pr, .inr (0, [.ref a_codes, .ref a_lens])), (a_codes, .inl (cI, 20, .inl pc)), (a_lens, .inl (cI, 4, .inl pl))] H := hP
      have hD : va_D A [(a_ma, .inr (1, [.ref a_pr, .int mki, .long mme, .long mbu, .long mnm, .long mnb])), (a_pr, .inr (0, [.ref a_codes, .ref a_lens])), (a_codes, .inl (cI, 20, .inl pc)), (a_lens, .inl (cI, 4, .inl pl))] := hD
      refine lv_bipush (v := 7) hx hb d_MA_isAtEnd_12 (by decide) ?_
      have hPc := hP.sub (ws' := [(a_ma, .inr (1, [.ref a_pr, .int mki, .long mme, .long mbu, .long mnm, .long mnb])), (a_pr, .inr (0, [.ref a_codes, .ref a_lens])), (a_codes, .inl (cI, 20, .inl pc)), (a_lens, .inl (cI, 4, .inl pl))]) [0, 1, 2, 3] rfl
      have hDc := hD.sub (ws' := [(a_ma, .inr (1, [.ref a_pr, .int mki, .long mme, .long mbu, .long mnm, .long mnb])), (a_pr, .inr (0, [.ref a_codes, .ref a_lens])), (a_codes, .inl (cI, 20, .inl pc)), (a_lens, .inl (cI, 4, .inl pl))]) [0, 1, 2, 3] (by decide) rfl
      have hFc := va_free (wc := [(a_ma, .inr (1, [.ref a_pr, .int mki, .long mme, .long mbu, .long mnm, .long mnb])), (a_pr, .inr (0, [.ref a_codes, .ref a_lens])), (a_codes, .inl (cI, 20, .inl pc)), (a_lens, .inl (cI, 4, .inl pl))]) hD hS hA [0, 1, 2, 3] rfl
      refine va_calli (va_runV (As := [.int r1, .int 7]) (rest := []) ⟨hx, hb, hml, hown, hts⟩ (c_MA_bitsAt l dC dI cI cJ cZ cQ a_ma a_pr a_codes a_lens H.size mki mme mbu mnm mnb pc pl r1 7 _  h) (cwV 2 hts (goodIn_app (jGl (List.forall_mem_cons.mpr ⟨mw_660, List.forall_mem_cons.mpr ⟨mw_662, List.forall_mem_cons.mpr ⟨ms_MA_bitsAt, List.forall_mem_cons.mpr ⟨mw_5, fun _ h => absurd h List.not_mem_nil⟩⟩⟩⟩)) (jG mw_663)) rfl rfl rfl (by decide +kernel) ⟨Nat.le_of_ble_eq_true rfl, Nat.le_of_ble_eq_true rfl⟩) ⟨jPre_blind, va_recv hK hPc (ci := 1) (q0 := 0) rfl rfl, jPre_in hPc hK hDc hZ hS hFc hst⟩ rfl rfl hl.1 rfl (lv_room (Nat.le_of_ble_eq_true rfl)) d_MA_isAtEnd_14 ⟨(Nat.zero_le _), (Nat.zero_le _)⟩) hS (fun q _ h => hFc q h) hFc (fun r2 u t H1 locs ht hvm hw hB hz1 hk1 hS => ?_)
      obtain ⟨u3, u4, u5, u6, u7, u8, u9⟩ := u
      obtain ⟨hP1, hK1, hD1⟩ := hB
      rw [ht] at hP1
      have h := hw
      obtain ⟨hP, hD⟩ := va_join (wr := []) (w1 := [(a_ma, .inr (1, [.ref a_pr, .int u3, .long u4, .long u5, .long u6, .long u7])), (a_pr, .inr (0, [.ref a_codes, .ref a_lens])), (a_codes, .inl (cI, 20, .inl u8)), (a_lens, .inl (cI, 4, .inl u9))]) hP hD [0, 1, 2, 3] [] rfl rfl (by decide) (by decide) hk1 hFc hP1 hD1
      generalize H1 = H at hP hS ⊢
      have hP : va_P (dC, dI) vwCl [(a_ma, .inr (1, [.ref a_pr, .int u3, .long u4, .long u5, .long u6, .long u7])), (a_pr, .inr (0, [.ref a_codes, .ref a_lens])), (a_codes, .inl (cI, 20, .inl u8)), (a_lens, .inl (cI, 4, .inl u9))] H := hP
      have hD : va_D A [(a_ma, .inr (1, [.ref a_pr, .int u3, .long u4, .long u5, .long u6, .long u7])), (a_pr, .inr (0, [.ref a_codes, .ref a_lens])), (a_codes, .inl (cI, 20, .inl u8)), (a_lens, .inl (cI, 4, .inl u9))] := hD
      refine lv_aload_n hx hb d_MA_isAtEnd_17 rfl (lv_at hl 0 rfl) ?_
      refine va_get (D := (dC, dI)) (ci := 1) (v := .ref a_pr) (C := R_MA) (T := T_MA) (N := 6) hx hb hts in_MA hown hK hP 0 rfl rfl 0 (by decide) (hts _ mw_90) (fun _ h9 => h9) rfl d_MA_isAtEnd_18 ?_
      refine lv_iload_n hx hb d_MA_isAtEnd_21 rfl (lv_at hl 1 rfl) ?_
      have hPc := hP.sub (ws' := [(a_pr, .inr (0, [.ref a_codes, .ref a_lens])), (a_codes, .inl (cI, 20, .inl u8)), (a_lens, .inl (cI, 4, .inl u9))]) [1, 2, 3] rfl
      have hDc := hD.sub (ws' := [(a_pr, .inr (0, [.ref a_codes, .ref a_lens])), (a_codes, .inl (cI, 20, .inl u8)), (a_lens, .inl (cI, 4, .inl u9))]) [1, 2, 3] (by decide) rfl
      have hFc := va_free (wc := [(a_pr, .inr (0, [.ref a_codes, .ref a_lens])), (a_codes, .inl (cI, 20, .inl u8)), (a_lens, .inl (cI, 4, .inl u9))]) hD hS hA [1, 2, 3] rfl
      refine va_calli (va_runV (As := [.int L1]) (rest := [.int r2]) ⟨hx, hb, hml, hown, hts⟩ (c_PR_lengthOf l dC dI cI cJ cZ cQ a_pr a_codes a_lens H.size u8 u9 L1 _  h) (cwV 1 hts (goodIn_app (jGl (List.forall_mem_cons.mpr ⟨mw_689, List.forall_mem_cons.mpr ⟨mw_291, List.forall_mem_cons.mpr ⟨mw_292, List.forall_mem_cons.mpr ⟨mw_2, fun _ h => absurd h List.not_mem_nil⟩⟩⟩⟩)) (jG mw_293)) rfl rfl rfl (by decide +kernel) ⟨Nat.le_of_ble_eq_true rfl, Nat.le_of_ble_eq_true rfl⟩) ⟨jPre_blind, va_recv hK hPc (ci := 0) (q0 := 0) rfl rfl, jPre_in hPc hK hDc hZ hS hFc hst⟩ rfl rfl hl.1 rfl (lv_room (Nat.le_of_ble_eq_true rfl)) d_MA_isAtEnd_22 ⟨(Nat.zero_le _), (Nat.zero_le _)⟩) hS (fun q _ h => hFc q h) hFc (fun r10 u t H1 locs ht hvm hw hB hz1 hk1 hS => ?_)
      obtain ⟨u11, u12⟩ := u
      obtain ⟨hP1, hK1, hD1⟩ := hB
      rw [ht] at hP1
      have h := hw
      obtain ⟨hP, hD⟩ := va_join (wr := [(a_ma, .inr (1, [.ref a_pr, .int u3, .long u4, .long u5, .long u6, .long u7]))]) (w1 := [(a_pr, .inr (0, [.ref a_codes, .ref a_lens])), (a_codes, .inl (cI, 20, .inl u11)), (a_lens, .inl (cI, 4, .inl u12))]) hP hD [1, 2, 3] [0] rfl rfl (by decide) (by decide) hk1 hFc hP1 hD1
      generalize H1 = H at hP hS ⊢
      have hP : va_P (dC, dI) vwCl [(a_ma, .inr (1, [.ref a_pr, .int u3, .long u4, .long u5, .long u6, .long u7])), (a_pr, .inr (0, [.ref a_codes, .ref a_lens])), (a_codes, .inl (cI, 20, .inl u11)), (a_lens, .inl (cI, 4, .inl u12))] H := hP
      have hD : va_D A [(a_ma, .inr (1, [.ref a_pr, .int u3, .long u4, .long u5, .long u6, .long u7])), (a_pr, .inr (0, [.ref a_codes, .ref a_lens])), (a_codes, .inl (cI, 20, .inl u11)), (a_lens, .inl (cI, 4, .inl u12))] := hD
      refine lv_icmp_ge (tgt := 30) hx hb d_MA_isAtEnd_25 (by decide) (fun c25 => ?_) (fun c25 => ?_)
      · have h := h.1 c25
        obtain ⟨x13, ex13⟩ : ∃ y : Int32, y = L1 + 1 := ⟨_, rfl⟩
        have h := h x13 ex13
        refine lv_iinc (v := x13) (lv' := [(1, .int x13), (0, .ref a_ma)]) hx hb d_MA_isAtEnd_30 hl (k := 1) rfl (by rw [ex13]; rfl) (by decide) rfl (fun ls hl => ?_)
        refine lv_goto (tgt := 2) hx hb d_MA_isAtEnd_33 (by decide) ?_
        exact ih u3 u4 u5 u6 u7 u11 u12 x13  H locs ls h hP hD hS (lv_sub hl [1, 0] rfl)
      · have h := h.2 c25
        refine lv_iconst (v := 0) hx hb d_MA_isAtEnd_28 (by decide) ?_
        have hP9 := hP
        have hD9 := hD
        exact W.zret (v := 0) hx hb hr rfl (fun t ht hW => ⟨⟨0, (u3, u4, u5, u6, u7, u11, u12), rfl, h, by rw [ht]; exact hP9, va_K.moved hW.alike hK, hD9⟩, hS.F ht⟩) hS.2.2 d_MA_isAtEnd_29
set_option maxHeartbeats 4000000 in
set_option maxRecDepth 100000 in
theorem c_MA_isAtEnd (l : Launch) (dC : Nat → ClassId) (dI : Nat → Nat → Nat) (cI cJ cZ cQ : ClassId) (a_ma a_pr a_codes a_lens : Nat) (sz : Nat) (mki : Int32) (mme mbu mnm mnb : Int64) (pc pl : Nat → Int32) (Post : Int32 → Int32 → Int64 → Int64 → Int64 → Int64 → (Nat → Int32) → (Nat → Int32) → Prop) (h : wp_MA_isAtEnd Post mki mme mbu mnm mnb pc pl) : Met l y_MA_isAtEnd (.code y_MA_isAtEnd b_MA_isAtEnd 2 (some .boolean) :: jW) ({ frames := 11, cells := 0, slots := 0, locals := 172 } : Room) (jPre l (dC, dI) cI cJ cZ cQ [(a_ma, .inr (1, [.ref a_pr, .int mki, .long mme, .long mbu, .long mnm, .long mnb])), (a_pr, .inr (0, [.ref a_codes, .ref a_lens])), (a_codes, .inl (cI, 20, .inl pc)), (a_lens, .inl (cI, 4, .inl pl))] sz [.ref a_ma]) (jQ_MA_isAtEnd dC dI cI cJ cZ cQ (va_A [(a_ma, .inr (1, [.ref a_pr, .int mki, .long mme, .long mbu, .long mnm, .long mnb])), (a_pr, .inr (0, [.ref a_codes, .ref a_lens])), (a_codes, .inl (cI, 20, .inl pc)), (a_lens, .inl (cI, 4, .inl pl))] sz) a_ma a_pr a_codes a_lens Post) 0 0 (va_A [(a_ma, .inr (1, [.ref a_pr, .int mki, .long mme, .long mbu, .long mnm, .long mnb])), (a_pr, .inr (0, [.ref a_codes, .ref a_lens])), (a_codes, .inl (cI, 20, .inl pc)), (a_lens, .inl (cI, 4, .inl pl))] sz) := by
  refine Met.ofW (cc := b_MA_isAtEnd) (maxL := 2) (ret := (some .boolean)) (by decide) rfl ?_
  intro p e s m args below meth c s₁ B hml hv
  obtain ⟨rfl, hsz, hP, hK, hD0, hZ, hst⟩ := hv
  subst hsz
  have hD := hD0.self (sz := s.heap.size)
  generalize hAe : va_A [(a_ma, .inr (1, [.ref a_pr, .int mki, .long mme, .long mbu, .long mnm, .long mnb])), (a_pr, .inr (0, [.ref a_codes, .ref a_lens])), (a_codes, .inl (cI, 20, .inl pc)), (a_lens, .inl (cI, 4, .inl pl))] s.heap.size = A at hD hZ ⊢
  have hA : ∀ q : Nat, s.heap.size ≤ q → A q := fun q h => by rw [← hAe]; exact Or.inr h
  have C0 : jC p l s m ([.ref a_ma] : List Value).toArray meth c b_MA_isAtEnd (some .boolean) 2 R_MA (dC, dI) cI cJ cZ cQ A := ⟨B.exec, B.bytes, B.returns, hml, findClass_of_methodNamed B.named, fun w hw => atoms_spec (ws := (.code y_MA_isAtEnd b_MA_isAtEnd 2 (some .boolean) :: jW)) B.pre w (List.mem_cons_of_mem _ hw), B.notSynchronized, hK, hZ, hA, hst⟩
  obtain ⟨hx, hb, hr, hml, hown, hts, hlocks, hK, hZ, hA, hst⟩ := id C0
  have hS : va_S A s.heap s.heap [] := va_S.rf
  have hl := lv_entry ([.ref a_ma]) (n := 2) (Nat.le_of_ble_eq_true rfl)
  rw [lg_entry_eq]
  generalize (lg_sl ([.ref a_ma]) ++ List.replicate (2 - (lg_sl ([.ref a_ma])).length) Slot.unset).toArray = ls at hl ⊢
  have hl : lv_has ls 2 [(0, .ref a_ma)] := hl
  obtain ⟨H, hH⟩ : ∃ H : Heap, H = s.heap := ⟨_, rfl⟩
  obtain ⟨locs, hlc⟩ : ∃ L : List Loc, L = [] := ⟨_, rfl⟩
  have hP : va_P (dC, dI) vwCl [(a_ma, .inr (1, [.ref a_pr, .int mki, .long mme, .long mbu, .long mnm, .long mnb])), (a_pr, .inr (0, [.ref a_codes, .ref a_lens])), (a_codes, .inl (cI, 20, .inl pc)), (a_lens, .inl (cI, 4, .inl pl))] H := by rw [hH]; exact hP
  have hS : va_S A s.heap H locs := by rw [hH, hlc]; exact hS
  suffices hW9 : W p l e ({ frames := 11, cells := 0, slots := 0, locals := 172 } : Room) s m ([.ref a_ma] : List Value).toArray below meth c H locs 0 0 (MQ below (jQ_MA_isAtEnd dC dI cI cJ cZ cQ A a_ma a_pr a_codes a_lens Post) ([.ref a_ma] : List Value).toArray s 0 0 A) (F0 m 0 ls []) by rw [hH, hlc] at hW9; exact hW9
  clear hH hlc
  rw [wp_MA_isAtEnd] at h
  refine lv_iconst (v := 0) hx hb d_MA_isAtEnd_0 (by decide) ?_
  refine lv_istore_n (lv' := [(1, .int 0), (0, .ref a_ma)]) hx hb d_MA_isAtEnd_1 rfl hl (by decide) rfl (fun ls hl => ?_)
  obtain ⟨n_2, h⟩ := h
  exact l_MA_isAtEnd_2 C0  n_2 mki mme mbu mnm mnb pc pl 0  H locs ls h hP hD hS (lv_sub hl [1, 0] rfl)

/-- what OrderMachines$Machine.drain(II)Z leaves -/
abbrev jQ_MA_drain (dC : Nat → ClassId) (dI : Nat → Nat → Nat) (cI cJ cZ cQ : ClassId) (A : Nat → Prop) (a_ma a_pr a_codes a_lens : Nat) (Post : Int32 → Int32 → Int64 → Int64 → Int64 → Int64 → (Nat → Int32) → (Nat → Int32) → Prop) : Array Value → State → Outcome → State → Prop := va_Qi (fun (r : Int32) (u : Int32 × Int64 × Int64 × Int64 × Int64 × (Nat → Int32) × (Nat → Int32)) => Post r u.1 u.2.1 u.2.2.1 u.2.2.2.1 u.2.2.2.2.1 u.2.2.2.2.2.1 u.2.2.2.2.2.2) (fun (u : Int32 × Int64 × Int64 × Int64 × Int64 × (Nat → Int32) × (Nat → Int32)) (t : State) => match u with
  | (mki, mme, mbu, mnm, mnb, pc, pl) => jPost (dC, dI) (jT cI cJ cZ cQ) A [(a_ma, .inr (1, [.ref a_pr, .int mki, .long mme, .long mbu, .long mnm, .long mnb])), (a_pr, .inr (0, [.ref a_codes, .ref a_lens])), (a_codes, .inl (cI, 20, .inl pc)), (a_lens, .inl (cI, 4, .inl pl))] t) A
def wp_MA_drain_56 (Post : Int32 → Int32 → Int64 → Int64 → Int64 → Int64 → (Nat → Int32) → (Nat → Int32) → Prop)  (mki : Int32) (mme mbu mnm mnb : Int64) (pc pl : Nat → Int32) (L1 L3 L4 L5 L6 L7 : Int32) : Prop :=
    ∀ x13 : Int32, x13 = L3 &&& ((1 <<< ((L4 * 5) &&& 31)) - 1) → wp_MA_setEntries (fun (u15 : Int32) (u16 : Int64) (u17 : Int64) (u18 : Int64) (u19 : Int64) (u20 : Nat → Int32) (u21 : Nat → Int32) => wp_MA_placeShift (fun (r22 : Int32) => wp_MA_setDigit (fun (u24 : Int32) (u25 : Int64) (u26 : Int64) (u27 : Int64) (u28 : Int64) (u29 : Nat → Int32) (u30 : Nat → Int32) => Post 1 u24 u25 u26 u27 u28 u29 u30) u15 u16 u17 u18 u19 u20 u21 r22 (L6 - L6 / 4 * 4)) L7) mki mme mbu mnm mnb pc pl L1 (x13 ||| ((L5 >>> (5 &&& 31)) <<< ((L4 * 5) &&& 31)))
def wp_MA_drain_9 (Post : Int32 → Int32 → Int64 → Int64 → Int64 → Int64 → (Nat → Int32) → (Nat → Int32) → Prop)  : Nat → Int32 → Int64 → Int64 → Int64 → Int64 → (Nat → Int32) → (Nat → Int32) → Int32 → Int32 → Int32 → Int32 → Prop
  | 0, _, _, _, _, _, _, _, _, _, _, _ => False
  | n_9 + 1, mki, mme, mbu, mnm, mnb, pc, pl, L1, L2, L3, L4 =>
    ((3 ≤ L4 → Post 0 mki mme mbu mnm mnb pc pl) ∧
    (¬ 3 ≤ L4 → ∀ x9 : Int32, x9 = L3 >>> ((L4 * 5) &&& 31) → ((¬ x9 = 0 → ∀ x10 : Int32, x10 = x9 &&& 31 → ∀ x11 : Int32, x11 = (x10 / 4) - 4 → ((L2 = (-1) → wp_MA_drain_56 Post mki mme mbu mnm mnb pc pl L1 L3 L4 x9 x10 x11) ∧
        (¬ L2 = (-1) → ((¬ x11 = L2 → ∀ x12 : Int32, x12 = L4 + 1 → (wp_MA_drain_9 Post n_9) mki mme mbu mnm mnb pc pl L1 L2 L3 x12) ∧
          (x11 = L2 → wp_MA_drain_56 Post mki mme mbu mnm mnb pc pl L1 L3 L4 x9 x10 x11))))) ∧
      (x9 = 0 → Post 0 mki mme mbu mnm mnb pc pl))))
/-- OrderMachines$Machine.drain(II)Z -/
def wp_MA_drain (Post : Int32 → Int32 → Int64 → Int64 → Int64 → Int64 → (Nat → Int32) → (Nat → Int32) → Prop) (mki : Int32) (mme mbu mnm mnb : Int64) (pc pl : Nat → Int32) (b0 q0 : Int32) : Prop :=
  wp_MA_entriesOf (fun (r1 : Int32) (u2 : Int32) (u3 : Int64) (u4 : Int64) (u5 : Int64) (u6 : Int64) (u7 : Nat → Int32) (u8 : Nat → Int32) => (∃ n_9 : Nat, wp_MA_drain_9 Post n_9 u2 u3 u4 u5 u6 u7 u8 b0 q0 r1 0)) mki mme mbu mnm mnb pc pl b0
set_option maxHeartbeats 4000000 in
set_option maxRecDepth 100000 in
theorem l_MA_drain_56 {p : Program} {l : Launch} {e : Env} {s : State} {m : MethodId} {args : Array Value} {below : List Frame} {meth : Method} {c : Code} {dC : Nat → ClassId} {dI : Nat → Nat → Nat} {cI cJ cZ cQ : ClassId} {a_ma a_pr a_codes a_lens : Nat} {A : Nat → Prop} {Post : Int32 → Int32 → Int64 → Int64 → Int64 → Int64 → (Nat → Int32) → (Nat → Int32) → Prop} (C0 : jC p l s m args meth c b_MA_drain (some .boolean) 9 R_MA (dC, dI) cI cJ cZ cQ A)  : ∀ (mki : Int32) (mme mbu mnm mnb : Int64) (pc pl : Nat → Int32) (L1 L3 L4 L5 L6 L7 : Int32), ∀ (H : Heap) (locs : List Loc) (ls : Array Slot), wp_MA_drain_56 Post  mki mme mbu mnm mnb pc pl L1 L3 L4 L5 L6 L7 → va_P (dC, dI) vwCl [(a_ma, .inr (1, [.ref a_pr, .int mki, .long mme, .long mbu, .long mnm, .long mnb])), (a_pr, .inr (0, [.ref a_codes, .ref a_lens])), (a_codes, .inl (cI, 20, .inl pc)), (a_lens, .inl (cI, 4, .inl pl))] H → va_D A [(a_ma, .inr (1, [.ref a_pr, .int mki, .long mme, .long mbu, .long mnm, .long mnb])), (a_pr, .inr (0, [.ref a_codes, .ref a_lens])), (a_codes, .inl (cI, 20, .inl pc)), (a_lens, .inl (cI, 4, .inl pl))] → va_S A s.heap H locs → lv_has ls 9 [(0, .ref a_ma), (1, .int L1), (3, .int L3), (4, .int L4), (5, .int L5), (6, .int L6), (7, .int L7)] → W p l e ({ frames := 11, cells := 0, slots := 0, locals := 173 } : Room) s m args below meth c H locs 0 0 (MQ below (jQ_MA_drain dC dI cI cJ cZ cQ A a_ma a_pr a_codes a_lens Post) args s 0 0 A) (F0 m 56 ls []) := by
  obtain ⟨hx, hb, hr, hml, hown, hts, hlocks, hK, hZ, hA, hst⟩ := id C0
  intro mki mme mbu mnm mnb pc pl L1 L3 L4 L5 L6 L7 H locs ls h hP hD hS hl
  rw [wp_MA_drain_56] at h
  refine lv_iload_n hx hb d_MA_drain_56 rfl (lv_at hl 2 rfl) ?_
  refine lv_iconst (v := 1) hx hb d_MA_drain_57 (by decide) ?_
  refine lv_iload hx hb d_MA_drain_58 (lv_at hl 3 rfl) ?_
  refine lv_iconst (v := 5) hx hb d_MA_drain_60 (by decide) ?_
  refine lv_imul hx hb d_MA_drain_61 ?_
  refine lv_ishl hx hb d_MA_drain_62 ?_
  refine lv_iconst (v := 1) hx hb d_MA_drain_63 (by decide) ?_
  refine lv_isub hx hb d_MA_drain_64 ?_
  refine lv_iand hx hb d_MA_drain_65 ?_
  refine lv_topi (fun x13 ex13 => ?_)
  have h := h x13 ex13
  refine lv_istore (lv' := [(8, .int x13), (0, .ref a_ma), (1, .int L1), (3, .int L3), (4, .int L4), (5, .int L5), (6, .int L6), (7, .int L7)]) hx hb d_MA_drain_66 hl (by decide) rfl (fun ls hl => ?_)
  refine lv_aload_n hx hb d_MA_drain_68 rfl (lv_at hl 1 rfl) ?_
  refine lv_iload_n hx hb d_MA_drain_69 rfl (lv_at hl 2 rfl) ?_
  refine lv_iload hx hb d_MA_drain_70 (lv_at hl 0 rfl) ?_
  refine lv_iload hx hb d_MA_drain_72 (lv_at hl 5 rfl) ?_
  refine lv_iconst (v := 5) hx hb d_MA_drain_74 (by decide) ?_
  refine lv_ishr hx hb d_MA_drain_75 ?_
  refine lv_iload hx hb d_MA_drain_76 (lv_at hl 4 rfl) ?_
  refine lv_iconst (v := 5) hx hb d_MA_drain_78 (by decide) ?_
  refine lv_imul hx hb d_MA_drain_79 ?_
  refine lv_ishl hx hb d_MA_drain_80 ?_
  refine lv_ior hx hb d_MA_drain_81 ?_
  have hPc := hP.sub (ws' := [(a_ma, .inr (1, [.ref a_pr, .int mki, .long mme, .long mbu, .long mnm, .long mnb])), (a_pr, .inr (0, [.ref a_codes, .ref a_lens])), (a_codes, .inl (cI, 20, .inl pc)), (a_lens, .inl (cI, 4, .inl pl))]) [0, 1, 2, 3] rfl
  have hDc := hD.sub (ws' := [(a_ma, .inr (1, [.ref a_pr, .int mki, .long mme, .long mbu, .long mnm, .long mnb])), (a_pr, .inr (0, [.ref a_codes, .ref a_lens])), (a_codes, .inl (cI, 20, .inl pc)), (a_lens, .inl (cI, 4, .inl pl))]) [0, 1, 2, 3] (by decide) rfl
  have hFc := va_free (wc := [(a_ma, .inr (1, [.ref a_pr, .int mki, .long mme, .long mbu, .long mnm, .long mnb])), (a_pr, .inr (0, [.ref a_codes, .ref a_lens])), (a_codes, .inl (cI, 20, .inl pc)), (a_lens, .inl (cI, 4, .inl pl))]) hD hS hA [0, 1, 2, 3] rfl
  refine va_callv (va_runV (As := [.int L1, .int (x13 ||| ((L5 >>> (5 &&& 31)) <<< ((L4 * 5) &&& 31)))]) (rest := []) ⟨hx, hb, hml, hown, hts⟩ (c_MA_setEntries l dC dI cI cJ cZ cQ a_ma a_pr a_codes a_lens H.size mki mme mbu mnm mnb pc pl L1 (x13 ||| ((L5 >>> (5 &&& 31)) <<< ((L4 * 5) &&& 31))) _  h) (cwV 2 hts (goodIn_app (jGl (List.forall_mem_cons.mpr ⟨mw_707, List.forall_mem_cons.mpr ⟨mw_709, List.forall_mem_cons.mpr ⟨ms_MA_setEntries, List.forall_mem_cons.mpr ⟨mw_5, fun _ h => absurd h List.not_mem_nil⟩⟩⟩⟩)) (jG mw_710)) rfl rfl rfl (by decide +kernel) ⟨Nat.le_of_ble_eq_true rfl, Nat.le_of_ble_eq_true rfl⟩) ⟨jPre_blind, va_recv hK hPc (ci := 1) (q0 := 0) rfl rfl, jPre_in hPc hK hDc hZ hS hFc hst⟩ rfl rfl hl.1 rfl (lv_room (Nat.le_of_ble_eq_true rfl)) d_MA_drain_82 ⟨(Nat.zero_le _), (Nat.zero_le _)⟩) hS (fun q _ h => hFc q h) hFc (fun u t H1 locs ht hvm hw hB hz1 hk1 hS => ?_)
  obtain ⟨u15, u16, u17, u18, u19, u20, u21⟩ := u
  obtain ⟨hP1, hK1, hD1⟩ := hB
  rw [ht] at hP1
  have h := hw
  obtain ⟨hP, hD⟩ := va_join (wr := []) (w1 := [(a_ma, .inr (1, [.ref a_pr, .int u15, .long u16, .long u17, .long u18, .long u19])), (a_pr, .inr (0, [.ref a_codes, .ref a_lens])), (a_codes, .inl (cI, 20, .inl u20)), (a_lens, .inl (cI, 4, .inl u21))]) hP hD [0, 1, 2, 3] [] rfl rfl (by decide) (by decide) hk1 hFc hP1 hD1
  generalize H1 = H at hP hS ⊢
  have hP : va_P (dC, dI) vwCl [(a_ma, .inr (1, [.ref a_pr, .int u15, .long u16, .long u17, .long u18, .long u19])), (a_pr, .inr (0, [.ref a_codes, .ref a_lens])), (a_codes, .inl (cI, 20, .inl u20)), (a_lens, .inl (cI, 4, .inl u21))] H := hP
  have hD : va_D A [(a_ma, .inr (1, [.ref a_pr, .int u15, .long u16, .long u17, .long u18, .long u19])), (a_pr, .inr (0, [.ref a_codes, .ref a_lens])), (a_codes, .inl (cI, 20, .inl u20)), (a_lens, .inl (cI, 4, .inl u21))] := hD
  refine lv_aload_n hx hb d_MA_drain_85 rfl (lv_at hl 1 rfl) ?_
  refine lv_iload hx hb d_MA_drain_86 (lv_at hl 7 rfl) ?_
  have hPc := hP.sub (ws' := []) [] rfl
  have hDc := hD.sub (ws' := []) [] (by decide) rfl
  have hFc := va_free (wc := []) hD hS hA [] rfl
  refine va_calli (va_runS (As := [.int L7]) (rest := [.ref a_ma]) ⟨hx, hb, hml, hown, hts⟩ (c_MA_placeShift l dC dI cI cJ cZ cQ  H.size L7 _  h) (va_cwS 1 hts (goodIn_app (jGl (List.forall_mem_cons.mpr ⟨mw_695, List.forall_mem_cons.mpr ⟨mw_696, List.forall_mem_cons.mpr ⟨mw_5, fun _ h => absurd h List.not_mem_nil⟩⟩⟩)) (jG mw_697)) rfl rfl rfl (by decide +kernel) ⟨Nat.le_of_ble_eq_true rfl, Nat.le_of_ble_eq_true rfl⟩) ⟨jPre_blind, jPre_in hPc hK hDc hZ hS hFc hst⟩ rfl rfl hl.1 rfl (lv_room (Nat.le_of_ble_eq_true rfl)) d_MA_drain_88 ⟨(Nat.zero_le _), (Nat.zero_le _)⟩) hS (fun q _ h => hFc q h) hFc (fun r22 u t H1 locs ht hvm hw hB hz1 hk1 hS => ?_)
  obtain ⟨hP1, hK1, hD1⟩ := hB
  rw [ht] at hP1
  have h := hw
  obtain ⟨hP, hD⟩ := va_join (wr := [(a_ma, .inr (1, [.ref a_pr, .int u15, .long u16, .long u17, .long u18, .long u19])), (a_pr, .inr (0, [.ref a_codes, .ref a_lens])), (a_codes, .inl (cI, 20, .inl u20)), (a_lens, .inl (cI, 4, .inl u21))]) (w1 := []) hP hD [] [0, 1, 2, 3] rfl rfl (by decide) (by decide) hk1 hFc hP1 hD1
  generalize H1 = H at hP hS ⊢
  have hP : va_P (dC, dI) vwCl [(a_ma, .inr (1, [.ref a_pr, .int u15, .long u16, .long u17, .long u18, .long u19])), (a_pr, .inr (0, [.ref a_codes, .ref a_lens])), (a_codes, .inl (cI, 20, .inl u20)), (a_lens, .inl (cI, 4, .inl u21))] H := hP
  have hD : va_D A [(a_ma, .inr (1, [.ref a_pr, .int u15, .long u16, .long u17, .long u18, .long u19])), (a_pr, .inr (0, [.ref a_codes, .ref a_lens])), (a_codes, .inl (cI, 20, .inl u20)), (a_lens, .inl (cI, 4, .inl u21))] := hD
  refine lv_iload hx hb d_MA_drain_91 (lv_at hl 6 rfl) ?_
  refine lv_iconst (v := 4) hx hb d_MA_drain_93 (by decide) ?_
  refine lv_irem hx hb d_MA_drain_94 (by decide) ?_
  have hPc := hP.sub (ws' := [(a_ma, .inr (1, [.ref a_pr, .int u15, .long u16, .long u17, .long u18, .long u19])), (a_pr, .inr (0, [.ref a_codes, .ref a_lens])), (a_codes, .inl (cI, 20, .inl u20)), (a_lens, .inl (cI, 4, .inl u21))]) [0, 1, 2, 3] rfl
  have hDc := hD.sub (ws' := [(a_ma, .inr (1, [.ref a_pr, .int u15, .long u16, .long u17, .long u18, .long u19])), (a_pr, .inr (0, [.ref a_codes, .ref a_lens])), (a_codes, .inl (cI, 20, .inl u20)), (a_lens, .inl (cI, 4, .inl u21))]) [0, 1, 2, 3] (by decide) rfl
  have hFc := va_free (wc := [(a_ma, .inr (1, [.ref a_pr, .int u15, .long u16, .long u17, .long u18, .long u19])), (a_pr, .inr (0, [.ref a_codes, .ref a_lens])), (a_codes, .inl (cI, 20, .inl u20)), (a_lens, .inl (cI, 4, .inl u21))]) hD hS hA [0, 1, 2, 3] rfl
  refine va_callv (va_runV (As := [.int r22, .int (L6 - L6 / 4 * 4)]) (rest := []) ⟨hx, hb, hml, hown, hts⟩ (c_MA_setDigit l dC dI cI cJ cZ cQ a_ma a_pr a_codes a_lens H.size u15 u16 u17 u18 u19 u20 u21 r22 (L6 - L6 / 4 * 4) _  h) (cwV 2 hts (goodIn_app (jGl (List.forall_mem_cons.mpr ⟨mw_698, List.forall_mem_cons.mpr ⟨mw_700, List.forall_mem_cons.mpr ⟨ms_MA_setDigit, List.forall_mem_cons.mpr ⟨mw_5, fun _ h => absurd h List.not_mem_nil⟩⟩⟩⟩)) (jG mw_701)) rfl rfl rfl (by decide +kernel) ⟨Nat.le_of_ble_eq_true rfl, Nat.le_of_ble_eq_true rfl⟩) ⟨jPre_blind, va_recv hK hPc (ci := 1) (q0 := 0) rfl rfl, jPre_in hPc hK hDc hZ hS hFc hst⟩ rfl rfl hl.1 rfl (lv_room (Nat.le_of_ble_eq_true rfl)) d_MA_drain_95 ⟨(Nat.zero_le _), (Nat.zero_le _)⟩) hS (fun q _ h => hFc q h) hFc (fun u t H1 locs ht hvm hw hB hz1 hk1 hS => ?_)
  obtain ⟨u24, u25, u26, u27, u28, u29, u30⟩ := u
  obtain ⟨hP1, hK1, hD1⟩ := hB
  rw [ht] at hP1
  have h := hw
  obtain ⟨hP, hD⟩ := va_join (wr := []) (w1 := [(a_ma, .inr (1, [.ref a_pr, .int u24, .long u25, .long u26, .long u27, .long u28])), (a_pr, .inr (0, [.ref a_codes, .ref a_lens])), (a_codes, .inl (cI, 20, .inl u29)), (a_lens, .inl (cI, 4, .inl u30))]) hP hD [0, 1, 2, 3] [] rfl rfl (by decide) (by decide) hk1 hFc hP1 hD1
  generalize H1 = H at hP hS ⊢
  have hP : va_P (dC, dI) vwCl [(a_ma, .inr (1, [.ref a_pr, .int u24, .long u25, .long u26, .long u27, .long u28])), (a_pr, .inr (0, [.ref a_codes, .ref a_lens])), (a_codes, .inl (cI, 20, .inl u29)), (a_lens, .inl (cI, 4, .inl u30))] H := hP
  have hD : va_D A [(a_ma, .inr (1, [.ref a_pr, .int u24, .long u25, .long u26, .long u27, .long u28])), (a_pr, .inr (0, [.ref a_codes, .ref a_lens])), (a_codes, .inl (cI, 20, .inl u29)), (a_lens, .inl (cI, 4, .inl u30))] := hD
  refine lv_iconst (v := 1) hx hb d_MA_drain_98 (by decide) ?_
  have hP9 := hP
  have hD9 := hD
  exact W.zret (v := 1) hx hb hr rfl (fun t ht hW => ⟨⟨1, (u24, u25, u26, u27, u28, u29, u30), rfl, h, by rw [ht]; exact hP9, va_K.moved hW.alike hK, hD9⟩, hS.F ht⟩) hS.2.2 d_MA_drain_99
set_option maxHeartbeats 4000000 in
set_option maxRecDepth 100000 in
theorem l_MA_drain_9 {p : Program} {l : Launch} {e : Env} {s : State} {m : MethodId} {args : Array Value} {below : List Frame} {meth : Method} {c : Code} {dC : Nat → ClassId} {dI : Nat → Nat → Nat} {cI cJ cZ cQ : ClassId} {a_ma a_pr a_codes a_lens : Nat} {A : Nat → Prop} {Post : Int32 → Int32 → Int64 → Int64 → Int64 → Int64 → (Nat → Int32) → (Nat → Int32) → Prop} (C0 : jC p l s m args meth c b_MA_drain (some .boolean) 9 R_MA (dC, dI) cI cJ cZ cQ A)  : ∀ n9 : Nat, ∀ (mki : Int32) (mme mbu mnm mnb : Int64) (pc pl : Nat → Int32) (L1 L2 L3 L4 : Int32), ∀ (H : Heap) (locs : List Loc) (ls : Array Slot), wp_MA_drain_9 Post  n9 mki mme mbu mnm mnb pc pl L1 L2 L3 L4 → va_P (dC, dI) vwCl [(a_ma, .inr (1, [.ref a_pr, .int mki, .long mme, .long mbu, .long mnm, .long mnb])), (a_pr, .inr (0, [.ref a_codes, .ref a_lens])), (a_codes, .inl (cI, 20, .inl pc)), (a_lens, .inl (cI, 4, .inl pl))] H → va_D A [(a_ma, .inr (1, [.ref a_pr, .int mki, .long mme, .long mbu, .long mnm, .long mnb])), (a_pr, .inr (0, [.ref a_codes, .ref a_lens])), (a_codes, .inl (cI, 20, .inl pc)), (a_lens, .inl (cI, 4, .inl pl))] → va_S A s.heap H locs → lv_has ls 9 [(0, .ref a_ma), (1, .int L1), (2, .int L2), (3, .int L3), (4, .int L4)] → W p l e ({ frames := 11, cells := 0, slots := 0, locals := 173 } : Room) s m args below meth c H locs 0 0 (MQ below (jQ_MA_drain dC dI cI cJ cZ cQ A a_ma a_pr a_codes a_lens Post) args s 0 0 A) (F0 m 9 ls []) := by
  obtain ⟨hx, hb, hr, hml, hown, hts, hlocks, hK, hZ, hA, hst⟩ := id C0
  intro n9
  induction n9 with
  | zero =>
    intro mki mme mbu mnm mnb pc pl L1 L2 L3 L4 H locs ls h hP hD hS hl
    exact False.elim h
  | succ n_9 ih =>
    intro mki mme mbu mnm mnb pc pl L1 L2 L3 L4 H locs ls h hP hD hS hl
    rw [wp_MA_drain_9] at h
    refine lv_iload hx hb d_MA_drain_9 (lv_at hl 4 rfl) ?_
    refine lv_iconst (v := 3) hx hb d_MA_drain_11 (by decide) ?_
    refine lv_icmp_ge (tgt := 106) hx hb d_MA_drain_12 (by decide) (fun c12 => ?_) (fun c12 => ?_)
    · have h := h.1 c12
      refine lv_iconst (v := 0) hx hb d_MA_drain_106 (by decide) ?_
      have hP9 := hP
      have hD9 := hD
      exact W.zret (v := 0) hx hb hr rfl (fun t ht hW => ⟨⟨0, (mki, mme, mbu, mnm, mnb, pc, pl), rfl, h, by rw [ht]; exact hP9, va_K.moved hW.alike hK, hD9⟩, hS.F ht⟩) hS.2.2 d_MA_drain_107
    · have h := h.2 c12
      refine lv_iload_n hx hb d_MA_drain_15 rfl (lv_at hl 3 rfl) ?_
      refine lv_iload hx hb d_MA_drain_16 (lv_at hl 4 rfl) ?_
      refine lv_iconst (v := 5) hx hb d_MA_drain_18 (by decide) ?_
      refine lv_imul hx hb d_MA_drain_19 ?_
      refine lv_ishr hx hb d_MA_drain_20 ?_
      refine lv_topi (fun x9 ex9 => ?_)
      have h := h x9 ex9
      refine lv_istore (lv' := [(5, .int x9), (0, .ref a_ma), (1, .int L1), (2, .int L2), (3, .int L3), (4, .int L4)]) hx hb d_MA_drain_21 hl (by decide) rfl (fun ls hl => ?_)
      refine lv_iload hx hb d_MA_drain_23 (lv_at hl 0 rfl) ?_
      refine lv_if_ne (tgt := 30) hx hb d_MA_drain_25 (by decide) (fun c25 => ?_) (fun c25 => ?_)
      · have h := h.1 c25
        refine lv_iload hx hb d_MA_drain_30 (lv_at hl 0 rfl) ?_
        refine lv_bipush (v := 31) hx hb d_MA_drain_32 (by decide) ?_
        refine lv_iand hx hb d_MA_drain_34 ?_
        refine lv_topi (fun x10 ex10 => ?_)
        have h := h x10 ex10
        refine lv_istore (lv' := [(6, .int x10), (5, .int x9), (0, .ref a_ma), (1, .int L1), (2, .int L2), (3, .int L3), (4, .int L4)]) hx hb d_MA_drain_35 hl (by decide) rfl (fun ls hl => ?_)
        refine lv_iload hx hb d_MA_drain_37 (lv_at hl 0 rfl) ?_
        refine lv_iconst (v := 4) hx hb d_MA_drain_39 (by decide) ?_
        refine lv_idiv hx hb d_MA_drain_40 (by decide) ?_
        refine lv_iconst (v := 4) hx hb d_MA_drain_41 (by decide) ?_
        refine lv_isub hx hb d_MA_drain_42 ?_
        refine lv_topi (fun x11 ex11 => ?_)
        have h := h x11 ex11
        refine lv_istore (lv' := [(7, .int x11), (6, .int x10), (5, .int x9), (0, .ref a_ma), (1, .int L1), (2, .int L2), (3, .int L3), (4, .int L4)]) hx hb d_MA_drain_43 hl (by decide) rfl (fun ls hl => ?_)
        refine lv_iload_n hx hb d_MA_drain_45 rfl (lv_at hl 5 rfl) ?_
        refine lv_iconst (v := (-1)) hx hb d_MA_drain_46 (by decide) ?_
        refine lv_icmp_eq (tgt := 56) hx hb d_MA_drain_47 (by decide) (fun c47 => ?_) (fun c47 => ?_)
        · have h := h.1 c47
          exact l_MA_drain_56 C0  mki mme mbu mnm mnb pc pl L1 L3 L4 x9 x10 x11  H locs ls h hP hD hS (lv_sub hl [3, 4, 6, 7, 2, 1, 0] rfl)
        · have h := h.2 c47
          refine lv_iload hx hb d_MA_drain_50 (lv_at hl 0 rfl) ?_
          refine lv_iload_n hx hb d_MA_drain_52 rfl (lv_at hl 5 rfl) ?_
          refine lv_icmp_ne (tgt := 100) hx hb d_MA_drain_53 (by decide) (fun c53 => ?_) (fun c53 => ?_)
          · have h := h.1 c53
            obtain ⟨x12, ex12⟩ : ∃ y : Int32, y = L4 + 1 := ⟨_, rfl⟩
            have h := h x12 ex12
            refine lv_iinc (v := x12) (lv' := [(4, .int x12), (7, .int x11), (6, .int x10), (5, .int x9), (0, .ref a_ma), (1, .int L1), (2, .int L2), (3, .int L3)]) hx hb d_MA_drain_100 hl (k := 7) rfl (by rw [ex12]; rfl) (by decide) rfl (fun ls hl => ?_)
            refine lv_goto (tgt := 9) hx hb d_MA_drain_103 (by decide) ?_
            exact ih mki mme mbu mnm mnb pc pl L1 L2 L3 x12  H locs ls h hP hD hS (lv_sub hl [4, 5, 6, 7, 0] rfl)
          · have h := h.2 c53
            exact l_MA_drain_56 C0  mki mme mbu mnm mnb pc pl L1 L3 L4 x9 x10 x11  H locs ls h hP hD hS (lv_sub hl [3, 4, 6, 7, 2, 1, 0] rfl)
      · have h := h.2 c25
        refine lv_iconst (v := 0) hx hb d_MA_drain_28 (by decide) ?_
        have hP9 := hP
        have hD9 := hD
        exact W.zret (v := 0) hx hb hr rfl (fun t ht hW => ⟨⟨0, (mki, mme, mbu, mnm, mnb, pc, pl), rfl, h, by rw [ht]; exact hP9, va_K.moved hW.alike hK, hD9⟩, hS.F ht⟩) hS.2.2 d_MA_drain_29
set_option maxHeartbeats 4000000 in
set_option maxRecDepth 100000 in
theorem c_MA_drain (l : Launch) (dC : Nat → ClassId) (dI : Nat → Nat → Nat) (cI cJ cZ cQ : ClassId) (a_ma a_pr a_codes a_lens : Nat) (sz : Nat) (mki : Int32) (mme mbu mnm mnb : Int64) (pc pl : Nat → Int32) (b0 q0 : Int32) (Post : Int32 → Int32 → Int64 → Int64 → Int64 → Int64 → (Nat → Int32) → (Nat → Int32) → Prop) (h : wp_MA_drain Post mki mme mbu mnm mnb pc pl b0 q0) : Met l y_MA_drain (.code y_MA_drain b_MA_drain 9 (some .boolean) :: jW) ({ frames := 11, cells := 0, slots := 0, locals := 173 } : Room) (jPre l (dC, dI) cI cJ cZ cQ [(a_ma, .inr (1, [.ref a_pr, .int mki, .long mme, .long mbu, .long mnm, .long mnb])), (a_pr, .inr (0, [.ref a_codes, .ref a_lens])), (a_codes, .inl (cI, 20, .inl pc)), (a_lens, .inl (cI, 4, .inl pl))] sz [.ref a_ma, .int b0, .int q0]) (jQ_MA_drain dC dI cI cJ cZ cQ (va_A [(a_ma, .inr (1, [.ref a_pr, .int mki, .long mme, .long mbu, .long mnm, .long mnb])), (a_pr, .inr (0, [.ref a_codes, .ref a_lens])), (a_codes, .inl (cI, 20, .inl pc)), (a_lens, .inl (cI, 4, .inl pl))] sz) a_ma a_pr a_codes a_lens Post) 0 0 (va_A [(a_ma, .inr (1, [.ref a_pr, .int mki, .long mme, .long mbu, .long mnm, .long mnb])), (a_pr, .inr (0, [.ref a_codes, .ref a_lens])), (a_codes, .inl (cI, 20, .inl pc)), (a_lens, .inl (cI, 4, .inl pl))] sz) := by
  refine Met.ofW (cc := b_MA_drain) (maxL := 9) (ret := (some .boolean)) (by decide) rfl ?_
  intro p e s m args below meth c s₁ B hml hv
  obtain ⟨rfl, hsz, hP, hK, hD0, hZ, hst⟩ := hv
  subst hsz
  have hD := hD0.self (sz := s.heap.size)
  generalize hAe : va_A [(a_ma, .inr (1, [.ref a_pr, .int mki, .long mme, .long mbu, .long mnm, .long mnb])), (a_pr, .inr (0, [.ref a_codes, .ref a_lens])), (a_codes, .inl (cI, 20, .inl pc)), (a_lens, .inl (cI, 4, .inl pl))] s.heap.size = A at hD hZ ⊢
  have hA : ∀ q : Nat, s.heap.size ≤ q → A q := fun q h => by rw [← hAe]; exact Or.inr h
  have C0 : jC p l s m ([.ref a_ma, .int b0, .int q0] : List Value).toArray meth c b_MA_drain (some .boolean) 9 R_MA (dC, dI) cI cJ cZ cQ A := ⟨B.exec, B.bytes, B.returns, hml, findClass_of_methodNamed B.named, fun w hw => atoms_spec (ws := (.code y_MA_drain b_MA_drain 9 (some .boolean) :: jW)) B.pre w (List.mem_cons_of_mem _ hw), B.notSynchronized, hK, hZ, hA, hst⟩
  obtain ⟨hx, hb, hr, hml, hown, hts, hlocks, hK, hZ, hA, hst⟩ := id C0
  have hS : va_S A s.heap s.heap [] := va_S.rf
  have hl := lv_entry ([.ref a_ma, .int b0, .int q0]) (n := 9) (Nat.le_of_ble_eq_true rfl)
  rw [lg_entry_eq]
  generalize (lg_sl ([.ref a_ma, .int b0, .int q0]) ++ List.replicate (9 - (lg_sl ([.ref a_ma, .int b0, .int q0])).length) Slot.unset).toArray = ls at hl ⊢
  have hl : lv_has ls 9 [(0, .ref a_ma), (1, .int b0), (2, .int q0)] := hl
  obtain ⟨H, hH⟩ : ∃ H : Heap, H = s.heap := ⟨_, rfl⟩
  obtain ⟨locs, hlc⟩ : ∃ L : List Loc, L = [] := ⟨_, rfl⟩
  have hP : va_P (dC, dI) vwCl [(a_ma, .inr (1, [.ref a_pr, .int mki, .long mme, .long mbu, .long mnm, .long mnb])), (a_pr, .inr (0, [.ref a_codes, .ref a_lens])), (a_codes, .inl (cI, 20, .inl pc)), (a_lens, .inl (cI, 4, .inl pl))] H := by rw [hH]; exact hP
  have hS : va_S A s.heap H locs := by rw [hH, hlc]; exact hS
  suffices hW9 : W p l e ({ frames := 11, cells := 0, slots := 0, locals := 173 } : Room) s m ([.ref a_ma, .int b0, .int q0] : List Value).toArray below meth c H locs 0 0 (MQ below (jQ_MA_drain dC dI cI cJ cZ cQ A a_ma a_pr a_codes a_lens Post) ([.ref a_ma, .int b0, .int q0] : List Value).toArray s 0 0 A) (F0 m 0 ls []) by rw [hH, hlc] at hW9; exact hW9
  clear hH hlc
  rw [wp_MA_drain] at h
  refine lv_aload_n hx hb d_MA_drain_0 rfl (lv_at hl 0 rfl) ?_
  refine lv_iload_n hx hb d_MA_drain_1 rfl (lv_at hl 1 rfl) ?_
  have hPc := hP.sub (ws' := [(a_ma, .inr (1, [.ref a_pr, .int mki, .long mme, .long mbu, .long mnm, .long mnb])), (a_pr, .inr (0, [.ref a_codes, .ref a_lens])), (a_codes, .inl (cI, 20, .inl pc)), (a_lens, .inl (cI, 4, .inl pl))]) [0, 1, 2, 3] rfl
  have hDc := hD.sub (ws' := [(a_ma, .inr (1, [.ref a_pr, .int mki, .long mme, .long mbu, .long mnm, .long mnb])), (a_pr, .inr (0, [.ref a_codes, .ref a_lens])), (a_codes, .inl (cI, 20, .inl pc)), (a_lens, .inl (cI, 4, .inl pl))]) [0, 1, 2, 3] (by decide) rfl
  have hFc := va_free (wc := [(a_ma, .inr (1, [.ref a_pr, .int mki, .long mme, .long mbu, .long mnm, .long mnb])), (a_pr, .inr (0, [.ref a_codes, .ref a_lens])), (a_codes, .inl (cI, 20, .inl pc)), (a_lens, .inl (cI, 4, .inl pl))]) hD hS hA [0, 1, 2, 3] rfl
  refine va_calli (va_runV (As := [.int b0]) (rest := []) ⟨hx, hb, hml, hown, hts⟩ (c_MA_entriesOf l dC dI cI cJ cZ cQ a_ma a_pr a_codes a_lens H.size mki mme mbu mnm mnb pc pl b0 _  h) (cwV 1 hts (goodIn_app (jGl (List.forall_mem_cons.mpr ⟨mw_691, List.forall_mem_cons.mpr ⟨mw_693, List.forall_mem_cons.mpr ⟨ms_MA_entriesOf, List.forall_mem_cons.mpr ⟨mw_5, fun _ h => absurd h List.not_mem_nil⟩⟩⟩⟩)) (jG mw_694)) rfl rfl rfl (by decide +kernel) ⟨Nat.le_of_ble_eq_true rfl, Nat.le_of_ble_eq_true rfl⟩) ⟨jPre_blind, va_recv hK hPc (ci := 1) (q0 := 0) rfl rfl, jPre_in hPc hK hDc hZ hS hFc hst⟩ rfl rfl hl.1 rfl (lv_room (Nat.le_of_ble_eq_true rfl)) d_MA_drain_2 ⟨(Nat.zero_le _), (Nat.zero_le _)⟩) hS (fun q _ h => hFc q h) hFc (fun r1 u t H1 locs ht hvm hw hB hz1 hk1 hS => ?_)
  obtain ⟨u2, u3, u4, u5, u6, u7, u8⟩ := u
  obtain ⟨hP1, hK1, hD1⟩ := hB
  rw [ht] at hP1
  have h := hw
  obtain ⟨hP, hD⟩ := va_join (wr := []) (w1 := [(a_ma, .inr (1, [.ref a_pr, .int u2, .long u3, .long u4, .long u5, .long u6])), (a_pr, .inr (0, [.ref a_codes, .ref a_lens])), (a_codes, .inl (cI, 20, .inl u7)), (a_lens, .inl (cI, 4, .inl u8))]) hP hD [0, 1, 2, 3] [] rfl rfl (by decide) (by decide) hk1 hFc hP1 hD1
  generalize H1 = H at hP hS ⊢
  have hP : va_P (dC, dI) vwCl [(a_ma, .inr (1, [.ref a_pr, .int u2, .long u3, .long u4, .long u5, .long u6])), (a_pr, .inr (0, [.ref a_codes, .ref a_lens])), (a_codes, .inl (cI, 20, .inl u7)), (a_lens, .inl (cI, 4, .inl u8))] H := hP
  have hD : va_D A [(a_ma, .inr (1, [.ref a_pr, .int u2, .long u3, .long u4, .long u5, .long u6])), (a_pr, .inr (0, [.ref a_codes, .ref a_lens])), (a_codes, .inl (cI, 20, .inl u7)), (a_lens, .inl (cI, 4, .inl u8))] := hD
  refine lv_istore_n (lv' := [(3, .int r1), (0, .ref a_ma), (1, .int b0), (2, .int q0)]) hx hb d_MA_drain_5 rfl hl (by decide) rfl (fun ls hl => ?_)
  refine lv_iconst (v := 0) hx hb d_MA_drain_6 (by decide) ?_
  refine lv_istore (lv' := [(4, .int 0), (3, .int r1), (0, .ref a_ma), (1, .int b0), (2, .int q0)]) hx hb d_MA_drain_7 hl (by decide) rfl (fun ls hl => ?_)
  obtain ⟨n_9, h⟩ := h
  exact l_MA_drain_9 C0  n_9 u2 u3 u4 u5 u6 u7 u8 b0 q0 r1 0  H locs ls h hP hD hS (lv_sub hl [2, 3, 4, 1, 0] rfl)

/-- what OrderMachines$Machine.act(I)Z leaves -/
abbrev jQ_MA_act (dC : Nat → ClassId) (dI : Nat → Nat → Nat) (cI cJ cZ cQ : ClassId) (A : Nat → Prop) (a_ma a_pr a_codes a_lens : Nat) (Post : Int32 → Int32 → Int64 → Int64 → Int64 → Int64 → (Nat → Int32) → (Nat → Int32) → Prop) : Array Value → State → Outcome → State → Prop := va_Qi (fun (r : Int32) (u : Int32 × Int64 × Int64 × Int64 × Int64 × (Nat → Int32) × (Nat → Int32)) => Post r u.1 u.2.1 u.2.2.1 u.2.2.2.1 u.2.2.2.2.1 u.2.2.2.2.2.1 u.2.2.2.2.2.2) (fun (u : Int32 × Int64 × Int64 × Int64 × Int64 × (Nat → Int32) × (Nat → Int32)) (t : State) => match u with
  | (mki, mme, mbu, mnm, mnb, pc, pl) => jPost (dC, dI) (jT cI cJ cZ cQ) A [(a_ma, .inr (1, [.ref a_pr, .int mki, .long mme, .long mbu, .long mnm, .long mnb])), (a_pr, .inr (0, [.ref a_codes, .ref a_lens])), (a_codes, .inl (cI, 20, .inl pc)), (a_lens, .inl (cI, 4, .inl pl))] t) A
def wp_MA_act_157 (Post : Int32 → Int32 → Int64 → Int64 → Int64 → Int64 → (Nat → Int32) → (Nat → Int32) → Prop)  (mki : Int32) (mme mbu mnm mnb : Int64) (pc pl : Nat → Int32) (L7 : Int32) : Prop :=
    ((¬ (L7 >>> (10 &&& 31)) = 0 → Post 0 mki mme mbu mnm mnb pc pl) ∧
  ((L7 >>> (10 &&& 31)) = 0 → Post 1 mki mme mbu mnm mnb pc pl))
def wp_MA_act_208 (Post : Int32 → Int32 → Int64 → Int64 → Int64 → Int64 → (Nat → Int32) → (Nat → Int32) → Prop)  (mki : Int32) (mme mbu mnm mnb : Int64) (pc pl : Nat → Int32) (S0 S1 : Int32) : Prop :=
    wp_MA_setDigit (fun (u67 : Int32) (u68 : Int64) (u69 : Int64) (u70 : Int64) (u71 : Int64) (u72 : Nat → Int32) (u73 : Nat → Int32) => Post 1 u67 u68 u69 u70 u71 u72 u73) mki mme mbu mnm mnb pc pl S1 S0
def wp_MA_act_62 (Post : Int32 → Int32 → Int64 → Int64 → Int64 → Int64 → (Nat → Int32) → (Nat → Int32) → Prop)  (mki : Int32) (mme mbu mnm mnb : Int64) (pc pl : Nat → Int32) (L1 L3 L4 L5 S0 : Int32) : Prop :=
    wp_MA_entriesOf (fun (r18 : Int32) (u19 : Int32) (u20 : Int64) (u21 : Int64) (u22 : Int64) (u23 : Int64) (u24 : Nat → Int32) (u25 : Nat → Int32) => wp_MA_doneShift (fun (r26 : Int32) => ∀ x27 : Int64, x27 = u20 + (1 <<< (r26.toInt64 &&& 63)) → (((L3 / 16) = 0 → ((¬ u19 = 0 → wp_MA_withNewest (fun (r28 : Int32) => wp_MA_setEntries (fun (u30 : Int32) (u31 : Int64) (u32 : Int64) (u33 : Int64) (u34 : Int64) (u35 : Nat → Int32) (u36 : Nat → Int32) => wp_MA_act_157 Post u30 u31 u32 u33 u34 u35 u36 r18) u19 u20 u21 x27 u23 u24 u25 S0 r28) r18 (((4 + L4) * 4) + L5)) ∧
    (u19 = 0 → wp_MA_placeShift (fun (r37 : Int32) => wp_MA_setDigit (fun (u39 : Int32) (u40 : Int64) (u41 : Int64) (u42 : Int64) (u43 : Int64) (u44 : Nat → Int32) (u45 : Nat → Int32) => wp_MA_act_157 Post u39 u40 u41 u42 u43 u44 u45 r18) u19 u20 u21 x27 u23 u24 u25 r37 L5) L4))) ∧
  (¬ (L3 / 16) = 0 → (((L3 / 16) = 1 → wp_MA_newestFor (fun (r46 : Int32) => wp_MA_registerShift (fun (r47 : Int32) => ((¬ r46 = (-1) → wp_MA_act_208 Post u19 u20 u21 x27 u23 u24 u25 r46 r47) ∧
      (r46 = (-1) → wp_MA_placeShift (fun (r48 : Int32) => wp_MA_bitsAt (fun (r49 : Int32) (u50 : Int32) (u51 : Int64) (u52 : Int64) (u53 : Int64) (u54 : Int64) (u55 : Nat → Int32) (u56 : Nat → Int32) => wp_MA_act_208 Post u50 u51 u52 u53 u54 u55 u56 r49 r47) u19 u20 u21 x27 u23 u24 u25 r48 3) L4))) L1 L5) r18 L4) ∧
    (¬ (L3 / 16) = 1 → (((L3 / 16) = 2 → ((¬ r18 = 0 → Post 0 u19 u20 u21 x27 u23 u24 u25) ∧
        (r18 = 0 → Post 1 u19 u20 u21 x27 u23 u24 u25))) ∧
      (¬ (L3 / 16) = 2 → wp_MA_placeShift (fun (r57 : Int32) => wp_MA_setDigit (fun (u59 : Int32) (u60 : Int64) (u61 : Int64) (u62 : Int64) (u63 : Int64) (u64 : Nat → Int32) (u65 : Nat → Int32) => ((¬ r18 = 0 → Post 0 u59 u60 u61 u62 u63 u64 u65) ∧
        (r18 = 0 → Post 1 u59 u60 u61 u62 u63 u64 u65))) u19 u20 u21 x27 u23 u24 u25 r57 L5) L4))))))) L1) mki mme mbu mnm mnb pc pl S0
/-- OrderMachines$Machine.act(I)Z -/
def wp_MA_act (Post : Int32 → Int32 → Int64 → Int64 → Int64 → Int64 → (Nat → Int32) → (Nat → Int32) → Prop) (mki : Int32) (mme mbu mnm mnb : Int64) (pc pl : Nat → Int32) (t0 : Int32) : Prop :=
  wp_MA_doneShift (fun (r1 : Int32) => wp_MA_bitsAt (fun (r2 : Int32) (u3 : Int32) (u4 : Int64) (u5 : Int64) (u6 : Int64) (u7 : Int64) (u8 : Nat → Int32) (u9 : Nat → Int32) => wp_PR_lengthOf (fun (r10 : Int32) (u11 : Nat → Int32) (u12 : Nat → Int32) => ((r2 < r10 → wp_PR_codeOf (fun (r13 : Int32) (u14 : Nat → Int32) (u15 : Nat → Int32) => ∀ x16 : Int32, x16 = (r13 / 4) - (r13 / 4) / 4 * 4 → ∀ x17 : Int32, x17 = r13 - r13 / 4 * 4 → ((¬ u3 = 3 → wp_MA_act_62 Post u3 u4 u5 u6 u7 u14 u15 t0 r13 x16 x17 t0) ∧
    (u3 = 3 → wp_MA_act_62 Post u3 u4 u5 u6 u7 u14 u15 t0 r13 x16 x17 (t0 / 2)))) u11 u12 t0 r2) ∧
  (¬ r2 < r10 → Post 0 u3 u4 u5 u6 u7 u11 u12))) u8 u9 t0) mki mme mbu mnm mnb pc pl r1 7) t0
set_option maxHeartbeats 4000000 in
set_option maxRecDepth 100000 in
theorem l_MA_act_157 {p : Program} {l : Launch} {e : Env} {s : State} {m : MethodId} {args : Array Value} {below : List Frame} {meth : Method} {c : Code} {dC : Nat → ClassId} {dI : Nat → Nat → Nat} {cI cJ cZ cQ : ClassId} {a_ma a_pr a_codes a_lens : Nat} {A : Nat → Prop} {Post : Int32 → Int32 → Int64 → Int64 → Int64 → Int64 → (Nat → Int32) → (Nat → Int32) → Prop} (C0 : jC p l s m args meth c b_MA_act (some .boolean) 9 R_MA (dC, dI) cI cJ cZ cQ A)  : ∀ (mki : Int32) (mme mbu mnm mnb : Int64) (pc pl : Nat → Int32) (L7 : Int32), ∀ (H : Heap) (locs : List Loc) (ls : Array Slot), wp_MA_act_157 Post  mki mme mbu mnm mnb pc pl L7 → va_P (dC, dI) vwCl [(a_ma, .inr (1, [.ref a_pr, .int mki, .long mme, .long mbu, .long mnm, .long mnb])), (a_pr, .inr (0, [.ref a_codes, .ref a_lens])), (a_codes, .inl (cI, 20, .inl pc)), (a_lens, .inl (cI, 4, .inl pl))] H → va_D A [(a_ma, .inr (1, [.ref a_pr, .int mki, .long mme, .long mbu, .long mnm, .long mnb])), (a_pr, .inr (0, [.ref a_codes, .ref a_lens])), (a_codes, .inl (cI, 20, .inl pc)), (a_lens, .inl (cI, 4, .inl pl))] → va_S A s.heap H locs → lv_has ls 9 [(7, .int L7)] → W p l e ({ frames := 11, cells := 0, slots := 0, locals := 173 } : Room) s m args below meth c H locs 0 0 (MQ below (jQ_MA_act dC dI cI cJ cZ cQ A a_ma a_pr a_codes a_lens Post) args s 0 0 A) (F0 m 157 ls []) := by
  obtain ⟨hx, hb, hr, hml, hown, hts, hlocks, hK, hZ, hA, hst⟩ := id C0
  intro mki mme mbu mnm mnb pc pl L7 H locs ls h hP hD hS hl
  rw [wp_MA_act_157] at h
  refine lv_iload hx hb d_MA_act_157 (lv_at hl 0 rfl) ?_
  refine lv_bipush (v := 10) hx hb d_MA_act_159 (by decide) ?_
  refine lv_ishr hx hb d_MA_act_161 ?_
  refine lv_if_ne (tgt := 169) hx hb d_MA_act_162 (by decide) (fun c162 => ?_) (fun c162 => ?_)
  · have h := h.1 c162
    refine lv_iconst (v := 0) hx hb d_MA_act_169 (by decide) ?_
    have hP9 := hP
    have hD9 := hD
    exact W.zret (v := 0) hx hb hr rfl (fun t ht hW => ⟨⟨0, (mki, mme, mbu, mnm, mnb, pc, pl), rfl, h, by rw [ht]; exact hP9, va_K.moved hW.alike hK, hD9⟩, hS.F ht⟩) hS.2.2 d_MA_act_170
  · have h := h.2 c162
    refine lv_iconst (v := 1) hx hb d_MA_act_165 (by decide) ?_
    refine lv_goto (tgt := 170) hx hb d_MA_act_166 (by decide) ?_
    have hP9 := hP
    have hD9 := hD
    exact W.zret (v := 1) hx hb hr rfl (fun t ht hW => ⟨⟨1, (mki, mme, mbu, mnm, mnb, pc, pl), rfl, h, by rw [ht]; exact hP9, va_K.moved hW.alike hK, hD9⟩, hS.F ht⟩) hS.2.2 d_MA_act_170
set_option maxHeartbeats 4000000 in
set_option maxRecDepth 100000 in
theorem l_MA_act_208 {p : Program} {l : Launch} {e : Env} {s : State} {m : MethodId} {args : Array Value} {below : List Frame} {meth : Method} {c : Code} {dC : Nat → ClassId} {dI : Nat → Nat → Nat} {cI cJ cZ cQ : ClassId} {a_ma a_pr a_codes a_lens : Nat} {A : Nat → Prop} {Post : Int32 → Int32 → Int64 → Int64 → Int64 → Int64 → (Nat → Int32) → (Nat → Int32) → Prop} (C0 : jC p l s m args meth c b_MA_act (some .boolean) 9 R_MA (dC, dI) cI cJ cZ cQ A)  : ∀ (mki : Int32) (mme mbu mnm mnb : Int64) (pc pl : Nat → Int32) (S0 S1 : Int32), ∀ (H : Heap) (locs : List Loc) (ls : Array Slot), wp_MA_act_208 Post  mki mme mbu mnm mnb pc pl S0 S1 → va_P (dC, dI) vwCl [(a_ma, .inr (1, [.ref a_pr, .int mki, .long mme, .long mbu, .long mnm, .long mnb])), (a_pr, .inr (0, [.ref a_codes, .ref a_lens])), (a_codes, .inl (cI, 20, .inl pc)), (a_lens, .inl (cI, 4, .inl pl))] H → va_D A [(a_ma, .inr (1, [.ref a_pr, .int mki, .long mme, .long mbu, .long mnm, .long mnb])), (a_pr, .inr (0, [.ref a_codes, .ref a_lens])), (a_codes, .inl (cI, 20, .inl pc)), (a_lens, .inl (cI, 4, .inl pl))] → va_S A s.heap H locs → lv_has ls 9 [] → W p l e ({ frames := 11, cells := 0, slots := 0, locals := 173 } : Room) s m args below meth c H locs 0 0 (MQ below (jQ_MA_act dC dI cI cJ cZ cQ A a_ma a_pr a_codes a_lens Post) args s 0 0 A) (F0 m 208 ls [.int S0, .int S1, .ref a_ma]) := by
  obtain ⟨hx, hb, hr, hml, hown, hts, hlocks, hK, hZ, hA, hst⟩ := id C0
  intro mki mme mbu mnm mnb pc pl S0 S1 H locs ls h hP hD hS hl
  rw [wp_MA_act_208] at h
  have hPc := hP.sub (ws' := [(a_ma, .inr (1, [.ref a_pr, .int mki, .long mme, .long mbu, .long mnm, .long mnb])), (a_pr, .inr (0, [.ref a_codes, .ref a_lens])), (a_codes, .inl (cI, 20, .inl pc)), (a_lens, .inl (cI, 4, .inl pl))]) [0, 1, 2, 3] rfl
  have hDc := hD.sub (ws' := [(a_ma, .inr (1, [.ref a_pr, .int mki, .long mme, .long mbu, .long mnm, .long mnb])), (a_pr, .inr (0, [.ref a_codes, .ref a_lens])), (a_codes, .inl (cI, 20, .inl pc)), (a_lens, .inl (cI, 4, .inl pl))]) [0, 1, 2, 3] (by decide) rfl
  have hFc := va_free (wc := [(a_ma, .inr (1, [.ref a_pr, .int mki, .long mme, .long mbu, .long mnm, .long mnb])), (a_pr, .inr (0, [.ref a_codes, .ref a_lens])), (a_codes, .inl (cI, 20, .inl pc)), (a_lens, .inl (cI, 4, .inl pl))]) hD hS hA [0, 1, 2, 3] rfl
  refine va_callv (va_runV (As := [.int S1, .int S0]) (rest := []) ⟨hx, hb, hml, hown, hts⟩ (c_MA_setDigit l dC dI cI cJ cZ cQ a_ma a_pr a_codes a_lens H.size mki mme mbu mnm mnb pc pl S1 S0 _  h) (cwV 2 hts (goodIn_app (jGl (List.forall_mem_cons.mpr ⟨mw_698, List.forall_mem_cons.mpr ⟨mw_700, List.forall_mem_cons.mpr ⟨ms_MA_setDigit, List.forall_mem_cons.mpr ⟨mw_5, fun _ h => absurd h List.not_mem_nil⟩⟩⟩⟩)) (jG mw_701)) rfl rfl rfl (by decide +kernel) ⟨Nat.le_of_ble_eq_true rfl, Nat.le_of_ble_eq_true rfl⟩) ⟨jPre_blind, va_recv hK hPc (ci := 1) (q0 := 0) rfl rfl, jPre_in hPc hK hDc hZ hS hFc hst⟩ rfl rfl hl.1 rfl (lv_room (Nat.le_of_ble_eq_true rfl)) d_MA_act_208 ⟨(Nat.zero_le _), (Nat.zero_le _)⟩) hS (fun q _ h => hFc q h) hFc (fun u t H1 locs ht hvm hw hB hz1 hk1 hS => ?_)
  obtain ⟨u67, u68, u69, u70, u71, u72, u73⟩ := u
  obtain ⟨hP1, hK1, hD1⟩ := hB
  rw [ht] at hP1
  have h := hw
  obtain ⟨hP, hD⟩ := va_join (wr := []) (w1 := [(a_ma, .inr (1, [.ref a_pr, .int u67, .long u68, .long u69, .long u70, .long u71])), (a_pr, .inr (0, [.ref a_codes, .ref a_lens])), (a_codes, .inl (cI, 20, .inl u72)), (a_lens, .inl (cI, 4, .inl u73))]) hP hD [0, 1, 2, 3] [] rfl rfl (by decide) (by decide) hk1 hFc hP1 hD1
  generalize H1 = H at hP hS ⊢
  have hP : va_P (dC, dI) vwCl [(a_ma, .inr (1, [.ref a_pr, .int u67, .long u68, .long u69, .long u70, .long u71])), (a_pr, .inr (0, [.ref a_codes, .ref a_lens])), (a_codes, .inl (cI, 20, .inl u72)), (a_lens, .inl (cI, 4, .inl u73))] H := hP
  have hD : va_D A [(a_ma, .inr (1, [.ref a_pr, .int u67, .long u68, .long u69, .long u70, .long u71])), (a_pr, .inr (0, [.ref a_codes, .ref a_lens])), (a_codes, .inl (cI, 20, .inl u72)), (a_lens, .inl (cI, 4, .inl u73))] := hD
  refine lv_iconst (v := 1) hx hb d_MA_act_211 (by decide) ?_
  have hP9 := hP
  have hD9 := hD
  exact W.zret (v := 1) hx hb hr rfl (fun t ht hW => ⟨⟨1, (u67, u68, u69, u70, u71, u72, u73), rfl, h, by rw [ht]; exact hP9, va_K.moved hW.alike hK, hD9⟩, hS.F ht⟩) hS.2.2 d_MA_act_212
set_option maxHeartbeats 4000000 in
set_option maxRecDepth 100000 in
theorem l_MA_act_62 {p : Program} {l : Launch} {e : Env} {s : State} {m : MethodId} {args : Array Value} {below : List Frame} {meth : Method} {c : Code} {dC : Nat → ClassId} {dI : Nat → Nat → Nat} {cI cJ cZ cQ : ClassId} {a_ma a_pr a_codes a_lens : Nat} {A : Nat → Prop} {Post : Int32 → Int32 → Int64 → Int64 → Int64 → Int64 → (Nat → Int32) → (Nat → Int32) → Prop} (C0 : jC p l s m args meth c b_MA_act (some .boolean) 9 R_MA (dC, dI) cI cJ cZ cQ A)  : ∀ (mki : Int32) (mme mbu mnm mnb : Int64) (pc pl : Nat → Int32) (L1 L3 L4 L5 S0 : Int32), ∀ (H : Heap) (locs : List Loc) (ls : Array Slot), wp_MA_act_62 Post  mki mme mbu mnm mnb pc pl L1 L3 L4 L5 S0 → va_P (dC, dI) vwCl [(a_ma, .inr (1, [.ref a_pr, .int mki, .long mme, .long mbu, .long mnm, .long mnb])), (a_pr, .inr (0, [.ref a_codes, .ref a_lens])), (a_codes, .inl (cI, 20, .inl pc)), (a_lens, .inl (cI, 4, .inl pl))] H → va_D A [(a_ma, .inr (1, [.ref a_pr, .int mki, .long mme, .long mbu, .long mnm, .long mnb])), (a_pr, .inr (0, [.ref a_codes, .ref a_lens])), (a_codes, .inl (cI, 20, .inl pc)), (a_lens, .inl (cI, 4, .inl pl))] → va_S A s.heap H locs → lv_has ls 9 [(0, .ref a_ma), (1, .int L1), (3, .int L3), (4, .int L4), (5, .int L5)] → W p l e ({ frames := 11, cells := 0, slots := 0, locals := 173 } : Room) s m args below meth c H locs 0 0 (MQ below (jQ_MA_act dC dI cI cJ cZ cQ A a_ma a_pr a_codes a_lens Post) args s 0 0 A) (F0 m 62 ls [.int S0]) := by
  obtain ⟨hx, hb, hr, hml, hown, hts, hlocks, hK, hZ, hA, hst⟩ := id C0
  intro mki mme mbu mnm mnb pc pl L1 L3 L4 L5 S0 H locs ls h hP hD hS hl
  rw [wp_MA_act_62] at h
  refine lv_istore (lv' := [(6, .int S0), (0, .ref a_ma), (1, .int L1), (3, .int L3), (4, .int L4), (5, .int L5)]) hx hb d_MA_act_62 hl (by decide) rfl (fun ls hl => ?_)
  refine lv_aload_n hx hb d_MA_act_64 rfl (lv_at hl 1 rfl) ?_
  refine lv_iload hx hb d_MA_act_65 (lv_at hl 0 rfl) ?_
  have hPc := hP.sub (ws' := [(a_ma, .inr (1, [.ref a_pr, .int mki, .long mme, .long mbu, .long mnm, .long mnb])), (a_pr, .inr (0, [.ref a_codes, .ref a_lens])), (a_codes, .inl (cI, 20, .inl pc)), (a_lens, .inl (cI, 4, .inl pl))]) [0, 1, 2, 3] rfl
  have hDc := hD.sub (ws' := [(a_ma, .inr (1, [.ref a_pr, .int mki, .long mme, .long mbu, .long mnm, .long mnb])), (a_pr, .inr (0, [.ref a_codes, .ref a_lens])), (a_codes, .inl (cI, 20, .inl pc)), (a_lens, .inl (cI, 4, .inl pl))]) [0, 1, 2, 3] (by decide) rfl
  have hFc := va_free (wc := [(a_ma, .inr (1, [.ref a_pr, .int mki, .long mme, .long mbu, .long mnm, .long mnb])), (a_pr, .inr (0, [.ref a_codes, .ref a_lens])), (a_codes, .inl (cI, 20, .inl pc)), (a_lens, .inl (cI, 4, .inl pl))]) hD hS hA [0, 1, 2, 3] rfl
  refine va_calli (va_runV (As := [.int S0]) (rest := []) ⟨hx, hb, hml, hown, hts⟩ (c_MA_entriesOf l dC dI cI cJ cZ cQ a_ma a_pr a_codes a_lens H.size mki mme mbu mnm mnb pc pl S0 _  h) (cwV 1 hts (goodIn_app (jGl (List.forall_mem_cons.mpr ⟨mw_691, List.forall_mem_cons.mpr ⟨mw_693, List.forall_mem_cons.mpr ⟨ms_MA_entriesOf, List.forall_mem_cons.mpr ⟨mw_5, fun _ h => absurd h List.not_mem_nil⟩⟩⟩⟩)) (jG mw_694)) rfl rfl rfl (by decide +kernel) ⟨Nat.le_of_ble_eq_true rfl, Nat.le_of_ble_eq_true rfl⟩) ⟨jPre_blind, va_recv hK hPc (ci := 1) (q0 := 0) rfl rfl, jPre_in hPc hK hDc hZ hS hFc hst⟩ rfl rfl hl.1 rfl (lv_room (Nat.le_of_ble_eq_true rfl)) d_MA_act_67 ⟨(Nat.zero_le _), (Nat.zero_le _)⟩) hS (fun q _ h => hFc q h) hFc (fun r18 u t H1 locs ht hvm hw hB hz1 hk1 hS => ?_)
  obtain ⟨u19, u20, u21, u22, u23, u24, u25⟩ := u
  obtain ⟨hP1, hK1, hD1⟩ := hB
  rw [ht] at hP1
  have h := hw
  obtain ⟨hP, hD⟩ := va_join (wr := []) (w1 := [(a_ma, .inr (1, [.ref a_pr, .int u19, .long u20, .long u21, .long u22, .long u23])), (a_pr, .inr (0, [.ref a_codes, .ref a_lens])), (a_codes, .inl (cI, 20, .inl u24)), (a_lens, .inl (cI, 4, .inl u25))]) hP hD [0, 1, 2, 3] [] rfl rfl (by decide) (by decide) hk1 hFc hP1 hD1
  generalize H1 = H at hP hS ⊢
  have hP : va_P (dC, dI) vwCl [(a_ma, .inr (1, [.ref a_pr, .int u19, .long u20, .long u21, .long u22, .long u23])), (a_pr, .inr (0, [.ref a_codes, .ref a_lens])), (a_codes, .inl (cI, 20, .inl u24)), (a_lens, .inl (cI, 4, .inl u25))] H := hP
  have hD : va_D A [(a_ma, .inr (1, [.ref a_pr, .int u19, .long u20, .long u21, .long u22, .long u23])), (a_pr, .inr (0, [.ref a_codes, .ref a_lens])), (a_codes, .inl (cI, 20, .inl u24)), (a_lens, .inl (cI, 4, .inl u25))] := hD
  refine lv_istore (lv' := [(7, .int r18), (6, .int S0), (0, .ref a_ma), (1, .int L1), (3, .int L3), (4, .int L4), (5, .int L5)]) hx hb d_MA_act_70 hl (by decide) rfl (fun ls hl => ?_)
  refine lv_aload_n hx hb d_MA_act_72 rfl (lv_at hl 2 rfl) ?_
  refine lv_aload_n hx hb d_MA_act_73 rfl (lv_at hl 2 rfl) ?_
  refine va_get (D := (dC, dI)) (ci := 1) (v := .long u20) (C := R_MA) (T := T_MA) (N := 6) hx hb hts in_MA hown hK hP 0 rfl rfl 2 (by decide) (hts _ mw_92) (fun _ h9 => h9) rfl d_MA_act_74 ?_
  refine lv_lconst (v := 1) hx hb d_MA_act_77 (by decide) ?_
  refine lv_iload_n hx hb d_MA_act_78 rfl (lv_at hl 3 rfl) ?_
  have hPc := hP.sub (ws' := []) [] rfl
  have hDc := hD.sub (ws' := []) [] (by decide) rfl
  have hFc := va_free (wc := []) hD hS hA [] rfl
  refine va_calli (va_runS (As := [.int L1]) (rest := [.long 1, .long u20, .ref a_ma]) ⟨hx, hb, hml, hown, hts⟩ (c_MA_doneShift l dC dI cI cJ cZ cQ  H.size L1 _  h) (va_cwS 1 hts (goodIn_app (jGl (List.forall_mem_cons.mpr ⟨mw_686, List.forall_mem_cons.mpr ⟨mw_687, List.forall_mem_cons.mpr ⟨mw_5, fun _ h => absurd h List.not_mem_nil⟩⟩⟩)) (jG mw_688)) rfl rfl rfl (by decide +kernel) ⟨Nat.le_of_ble_eq_true rfl, Nat.le_of_ble_eq_true rfl⟩) ⟨jPre_blind, jPre_in hPc hK hDc hZ hS hFc hst⟩ rfl rfl hl.1 rfl (lv_room (Nat.le_of_ble_eq_true rfl)) d_MA_act_79 ⟨(Nat.zero_le _), (Nat.zero_le _)⟩) hS (fun q _ h => hFc q h) hFc (fun r26 u t H1 locs ht hvm hw hB hz1 hk1 hS => ?_)
  obtain ⟨hP1, hK1, hD1⟩ := hB
  rw [ht] at hP1
  have h := hw
  obtain ⟨hP, hD⟩ := va_join (wr := [(a_ma, .inr (1, [.ref a_pr, .int u19, .long u20, .long u21, .long u22, .long u23])), (a_pr, .inr (0, [.ref a_codes, .ref a_lens])), (a_codes, .inl (cI, 20, .inl u24)), (a_lens, .inl (cI, 4, .inl u25))]) (w1 := []) hP hD [] [0, 1, 2, 3] rfl rfl (by decide) (by decide) hk1 hFc hP1 hD1
  generalize H1 = H at hP hS ⊢
  have hP : va_P (dC, dI) vwCl [(a_ma, .inr (1, [.ref a_pr, .int u19, .long u20, .long u21, .long u22, .long u23])), (a_pr, .inr (0, [.ref a_codes, .ref a_lens])), (a_codes, .inl (cI, 20, .inl u24)), (a_lens, .inl (cI, 4, .inl u25))] H := hP
  have hD : va_D A [(a_ma, .inr (1, [.ref a_pr, .int u19, .long u20, .long u21, .long u22, .long u23])), (a_pr, .inr (0, [.ref a_codes, .ref a_lens])), (a_codes, .inl (cI, 20, .inl u24)), (a_lens, .inl (cI, 4, .inl u25))] := hD
  refine lv_lshl hx hb d_MA_act_82 rfl ?_
  refine lv_ladd hx hb d_MA_act_83 ?_
  refine lv_topl (fun x27 ex27 => ?_)
  have h := h x27 ex27
  refine va_put (D := (dC, dI)) (ci := 1) (v := .long x27) (ty := .long) (C := R_MA) (T := T_MA) (N := 6) hx hb hts in_MA ty_MA tok_MA nm_MA hown hK hP hD hS 0 rfl rfl 4 (by decide) (hts _ mw_95) (fun _ h9 => h9) rfl (by decide +kernel) rfl rfl (Nat.le_of_ble_eq_true rfl) d_MA_act_84 (fun H locs hP hD hS => ?_)
  have hP : va_P (dC, dI) vwCl [(a_ma, .inr (1, [.ref a_pr, .int u19, .long u20, .long u21, .long x27, .long u23])), (a_pr, .inr (0, [.ref a_codes, .ref a_lens])), (a_codes, .inl (cI, 20, .inl u24)), (a_lens, .inl (cI, 4, .inl u25))] H := hP
  have hD : va_D A [(a_ma, .inr (1, [.ref a_pr, .int u19, .long u20, .long u21, .long x27, .long u23])), (a_pr, .inr (0, [.ref a_codes, .ref a_lens])), (a_codes, .inl (cI, 20, .inl u24)), (a_lens, .inl (cI, 4, .inl u25))] := hD
  refine lv_iload_n hx hb d_MA_act_87 rfl (lv_at hl 4 rfl) ?_
  refine lv_bipush (v := 16) hx hb d_MA_act_88 (by decide) ?_
  refine lv_idiv hx hb d_MA_act_90 (by decide) ?_
  by_cases c91_0 : (L3 / 16) = 0
  · have h := h.1 c91_0
    refine lv_tableIn (off := 25) (tgt := 116) hx hb d_MA_act_91 (by rw [c91_0]; decide) (by rw [c91_0]; decide) (by rw [c91_0]; decide) (by decide) ?_
    refine lv_aload_n hx hb d_MA_act_116 rfl (lv_at hl 2 rfl) ?_
    refine va_get (D := (dC, dI)) (ci := 1) (v := .int u19) (C := R_MA) (T := T_MA) (N := 6) hx hb hts in_MA hown hK hP 0 rfl rfl 1 (by decide) (hts _ mw_91) (fun _ h9 => h9) rfl d_MA_act_117 ?_
    refine lv_if_ne (tgt := 137) hx hb d_MA_act_120 (by decide) (fun c120 => ?_) (fun c120 => ?_)
    · have h := h.1 c120
      refine lv_aload_n hx hb d_MA_act_137 rfl (lv_at hl 2 rfl) ?_
      refine lv_iload hx hb d_MA_act_138 (lv_at hl 1 rfl) ?_
      refine lv_iload hx hb d_MA_act_140 (lv_at hl 0 rfl) ?_
      refine lv_iconst (v := 4) hx hb d_MA_act_142 (by decide) ?_
      refine lv_iload hx hb d_MA_act_143 (lv_at hl 5 rfl) ?_
      refine lv_iadd hx hb d_MA_act_145 ?_
      refine lv_iconst (v := 4) hx hb d_MA_act_146 (by decide) ?_
      refine lv_imul hx hb d_MA_act_147 ?_
      refine lv_iload hx hb d_MA_act_148 (lv_at hl 6 rfl) ?_
      refine lv_iadd hx hb d_MA_act_150 ?_
      have hPc := hP.sub (ws' := []) [] rfl
      have hDc := hD.sub (ws' := []) [] (by decide) rfl
      have hFc := va_free (wc := []) hD hS hA [] rfl
      refine va_calli (va_runS (As := [.int r18, .int (((4 + L4) * 4) + L5)]) (rest := [.int S0, .ref a_ma]) ⟨hx, hb, hml, hown, hts⟩ (c_MA_withNewest l dC dI cI cJ cZ cQ  H.size r18 (((4 + L4) * 4) + L5) _  h) (va_cwS 2 hts (goodIn_app (jGl (List.forall_mem_cons.mpr ⟨mw_704, List.forall_mem_cons.mpr ⟨mw_705, List.forall_mem_cons.mpr ⟨mw_5, fun _ h => absurd h List.not_mem_nil⟩⟩⟩)) (jG mw_706)) rfl rfl rfl (by decide +kernel) ⟨Nat.le_of_ble_eq_true rfl, Nat.le_of_ble_eq_true rfl⟩) ⟨jPre_blind, jPre_in hPc hK hDc hZ hS hFc hst⟩ rfl rfl hl.1 rfl (lv_room (Nat.le_of_ble_eq_true rfl)) d_MA_act_151 ⟨(Nat.zero_le _), (Nat.zero_le _)⟩) hS (fun q _ h => hFc q h) hFc (fun r28 u t H1 locs ht hvm hw hB hz1 hk1 hS => ?_)
      obtain ⟨hP1, hK1, hD1⟩ := hB
      rw [ht] at hP1
      have h := hw
      obtain ⟨hP, hD⟩ := va_join (wr := [(a_ma, .inr (1, [.ref a_pr, .int u19, .long u20, .long u21, .long x27, .long u23])), (a_pr, .inr (0, [.ref a_codes, .ref a_lens])), (a_codes, .inl (cI, 20, .inl u24)), (a_lens, .inl (cI, 4, .inl u25))]) (w1 := []) hP hD [] [0, 1, 2, 3] rfl rfl (by decide) (by decide) hk1 hFc hP1 hD1
      generalize H1 = H at hP hS ⊢
      have hP : va_P (dC, dI) vwCl [(a_ma, .inr (1, [.ref a_pr, .int u19, .long u20, .long u21, .long x27, .long u23])), (a_pr, .inr (0, [.ref a_codes, .ref a_lens])), (a_codes, .inl (cI, 20, .inl u24)), (a_lens, .inl (cI, 4, .inl u25))] H := hP
      have hD : va_D A [(a_ma, .inr (1, [.ref a_pr, .int u19, .long u20, .long u21, .long x27, .long u23])), (a_pr, .inr (0, [.ref a_codes, .ref a_lens])), (a_codes, .inl (cI, 20, .inl u24)), (a_lens, .inl (cI, 4, .inl u25))] := hD
      have hPc := hP.sub (ws' := [(a_ma, .inr (1, [.ref a_pr, .int u19, .long u20, .long u21, .long x27, .long u23])), (a_pr, .inr (0, [.ref a_codes, .ref a_lens])), (a_codes, .inl (cI, 20, .inl u24)), (a_lens, .inl (cI, 4, .inl u25))]) [0, 1, 2, 3] rfl
      have hDc := hD.sub (ws' := [(a_ma, .inr (1, [.ref a_pr, .int u19, .long u20, .long u21, .long x27, .long u23])), (a_pr, .inr (0, [.ref a_codes, .ref a_lens])), (a_codes, .inl (cI, 20, .inl u24)), (a_lens, .inl (cI, 4, .inl u25))]) [0, 1, 2, 3] (by decide) rfl
      have hFc := va_free (wc := [(a_ma, .inr (1, [.ref a_pr, .int u19, .long u20, .long u21, .long x27, .long u23])), (a_pr, .inr (0, [.ref a_codes, .ref a_lens])), (a_codes, .inl (cI, 20, .inl u24)), (a_lens, .inl (cI, 4, .inl u25))]) hD hS hA [0, 1, 2, 3] rfl
      refine va_callv (va_runV (As := [.int S0, .int r28]) (rest := []) ⟨hx, hb, hml, hown, hts⟩ (c_MA_setEntries l dC dI cI cJ cZ cQ a_ma a_pr a_codes a_lens H.size u19 u20 u21 x27 u23 u24 u25 S0 r28 _  h) (cwV 2 hts (goodIn_app (jGl (List.forall_mem_cons.mpr ⟨mw_707, List.forall_mem_cons.mpr ⟨mw_709, List.forall_mem_cons.mpr ⟨ms_MA_setEntries, List.forall_mem_cons.mpr ⟨mw_5, fun _ h => absurd h List.not_mem_nil⟩⟩⟩⟩)) (jG mw_710)) rfl rfl rfl (by decide +kernel) ⟨Nat.le_of_ble_eq_true rfl, Nat.le_of_ble_eq_true rfl⟩) ⟨jPre_blind, va_recv hK hPc (ci := 1) (q0 := 0) rfl rfl, jPre_in hPc hK hDc hZ hS hFc hst⟩ rfl rfl hl.1 rfl (lv_room (Nat.le_of_ble_eq_true rfl)) d_MA_act_154 ⟨(Nat.zero_le _), (Nat.zero_le _)⟩) hS (fun q _ h => hFc q h) hFc (fun u t H1 locs ht hvm hw hB hz1 hk1 hS => ?_)
      obtain ⟨u30, u31, u32, u33, u34, u35, u36⟩ := u
      obtain ⟨hP1, hK1, hD1⟩ := hB
      rw [ht] at hP1
      have h := hw
      obtain ⟨hP, hD⟩ := va_join (wr := []) (w1 := [(a_ma, .inr (1, [.ref a_pr, .int u30, .long u31, .long u32, .long u33, .long u34])), (a_pr, .inr (0, [.ref a_codes, .ref a_lens])), (a_codes, .inl (cI, 20, .inl u35)), (a_lens, .inl (cI, 4, .inl u36))]) hP hD [0, 1, 2, 3] [] rfl rfl (by decide) (by decide) hk1 hFc hP1 hD1
      generalize H1 = H at hP hS ⊢
      have hP : va_P (dC, dI) vwCl [(a_ma, .inr (1, [.ref a_pr, .int u30, .long u31, .long u32, .long u33, .long u34])), (a_pr, .inr (0, [.ref a_codes, .ref a_lens])), (a_codes, .inl (cI, 20, .inl u35)), (a_lens, .inl (cI, 4, .inl u36))] H := hP
      have hD : va_D A [(a_ma, .inr (1, [.ref a_pr, .int u30, .long u31, .long u32, .long u33, .long u34])), (a_pr, .inr (0, [.ref a_codes, .ref a_lens])), (a_codes, .inl (cI, 20, .inl u35)), (a_lens, .inl (cI, 4, .inl u36))] := hD
      exact l_MA_act_157 C0  u30 u31 u32 u33 u34 u35 u36 r18  H locs ls h hP hD hS (lv_sub hl [0] rfl)
    · have h := h.2 c120
      refine lv_aload_n hx hb d_MA_act_123 rfl (lv_at hl 2 rfl) ?_
      refine lv_iload hx hb d_MA_act_124 (lv_at hl 5 rfl) ?_
      have hPc := hP.sub (ws' := []) [] rfl
      have hDc := hD.sub (ws' := []) [] (by decide) rfl
      have hFc := va_free (wc := []) hD hS hA [] rfl
      refine va_calli (va_runS (As := [.int L4]) (rest := [.ref a_ma]) ⟨hx, hb, hml, hown, hts⟩ (c_MA_placeShift l dC dI cI cJ cZ cQ  H.size L4 _  h) (va_cwS 1 hts (goodIn_app (jGl (List.forall_mem_cons.mpr ⟨mw_695, List.forall_mem_cons.mpr ⟨mw_696, List.forall_mem_cons.mpr ⟨mw_5, fun _ h => absurd h List.not_mem_nil⟩⟩⟩)) (jG mw_697)) rfl rfl rfl (by decide +kernel) ⟨Nat.le_of_ble_eq_true rfl, Nat.le_of_ble_eq_true rfl⟩) ⟨jPre_blind, jPre_in hPc hK hDc hZ hS hFc hst⟩ rfl rfl hl.1 rfl (lv_room (Nat.le_of_ble_eq_true rfl)) d_MA_act_126 ⟨(Nat.zero_le _), (Nat.zero_le _)⟩) hS (fun q _ h => hFc q h) hFc (fun r37 u t H1 locs ht hvm hw hB hz1 hk1 hS => ?_)
      obtain ⟨hP1, hK1, hD1⟩ := hB
      rw [ht] at hP1
      have h := hw
      obtain ⟨hP, hD⟩ := va_join (wr := [(a_ma, .inr (1, [.ref a_pr, .int u19, .long u20, .long u21, .long x27, .long u23])), (a_pr, .inr (0, [.ref a_codes, .ref a_lens])), (a_codes, .inl (cI, 20, .inl u24)), (a_lens, .inl (cI, 4, .inl u25))]) (w1 := []) hP hD [] [0, 1, 2, 3] rfl rfl (by decide) (by decide) hk1 hFc hP1 hD1
      generalize H1 = H at hP hS ⊢
      have hP : va_P (dC, dI) vwCl [(a_ma, .inr (1, [.ref a_pr, .int u19, .long u20, .long u21, .long x27, .long u23])), (a_pr, .inr (0, [.ref a_codes, .ref a_lens])), (a_codes, .inl (cI, 20, .inl u24)), (a_lens, .inl (cI, 4, .inl u25))] H := hP
      have hD : va_D A [(a_ma, .inr (1, [.ref a_pr, .int u19, .long u20, .long u21, .long x27, .long u23])), (a_pr, .inr (0, [.ref a_codes, .ref a_lens])), (a_codes, .inl (cI, 20, .inl u24)), (a_lens, .inl (cI, 4, .inl u25))] := hD
      refine lv_iload hx hb d_MA_act_129 (lv_at hl 6 rfl) ?_
      have hPc := hP.sub (ws' := [(a_ma, .inr (1, [.ref a_pr, .int u19, .long u20, .long u21, .long x27, .long u23])), (a_pr, .inr (0, [.ref a_codes, .ref a_lens])), (a_codes, .inl (cI, 20, .inl u24)), (a_lens, .inl (cI, 4, .inl u25))]) [0, 1, 2, 3] rfl
      have hDc := hD.sub (ws' := [(a_ma, .inr (1, [.ref a_pr, .int u19, .long u20, .long u21, .long x27, .long u23])), (a_pr, .inr (0, [.ref a_codes, .ref a_lens])), (a_codes, .inl (cI, 20, .inl u24)), (a_lens, .inl (cI, 4, .inl u25))]) [0, 1, 2, 3] (by decide) rfl
      have hFc := va_free (wc := [(a_ma, .inr (1, [.ref a_pr, .int u19, .long u20, .long u21, .long x27, .long u23])), (a_pr, .inr (0, [.ref a_codes, .ref a_lens])), (a_codes, .inl (cI, 20, .inl u24)), (a_lens, .inl (cI, 4, .inl u25))]) hD hS hA [0, 1, 2, 3] rfl
      refine va_callv (va_runV (As := [.int r37, .int L5]) (rest := []) ⟨hx, hb, hml, hown, hts⟩ (c_MA_setDigit l dC dI cI cJ cZ cQ a_ma a_pr a_codes a_lens H.size u19 u20 u21 x27 u23 u24 u25 r37 L5 _  h) (cwV 2 hts (goodIn_app (jGl (List.forall_mem_cons.mpr ⟨mw_698, List.forall_mem_cons.mpr ⟨mw_700, List.forall_mem_cons.mpr ⟨ms_MA_setDigit, List.forall_mem_cons.mpr ⟨mw_5, fun _ h => absurd h List.not_mem_nil⟩⟩⟩⟩)) (jG mw_701)) rfl rfl rfl (by decide +kernel) ⟨Nat.le_of_ble_eq_true rfl, Nat.le_of_ble_eq_true rfl⟩) ⟨jPre_blind, va_recv hK hPc (ci := 1) (q0 := 0) rfl rfl, jPre_in hPc hK hDc hZ hS hFc hst⟩ rfl rfl hl.1 rfl (lv_room (Nat.le_of_ble_eq_true rfl)) d_MA_act_131 ⟨(Nat.zero_le _), (Nat.zero_le _)⟩) hS (fun q _ h => hFc q h) hFc (fun u t H1 locs ht hvm hw hB hz1 hk1 hS => ?_)
      obtain ⟨u39, u40, u41, u42, u43, u44, u45⟩ := u
      obtain ⟨hP1, hK1, hD1⟩ := hB
      rw [ht] at hP1
      have h := hw
      obtain ⟨hP, hD⟩ := va_join (wr := []) (w1 := [(a_ma, .inr (1, [.ref a_pr, .int u39, .long u40, .long u41, .long u42, .long u43])), (a_pr, .inr (0, [.ref a_codes, .ref a_lens])), (a_codes, .inl (cI, 20, .inl u44)), (a_lens, .inl (cI, 4, .inl u45))]) hP hD [0, 1, 2, 3] [] rfl rfl (by decide) (by decide) hk1 hFc hP1 hD1
      generalize H1 = H at hP hS ⊢
      have hP : va_P (dC, dI) vwCl [(a_ma, .inr (1, [.ref a_pr, .int u39, .long u40, .long u41, .long u42, .long u43])), (a_pr, .inr (0, [.ref a_codes, .ref a_lens])), (a_codes, .inl (cI, 20, .inl u44)), (a_lens, .inl (cI, 4, .inl u45))] H := hP
      have hD : va_D A [(a_ma, .inr (1, [.ref a_pr, .int u39, .long u40, .long u41, .long u42, .long u43])), (a_pr, .inr (0, [.ref a_codes, .ref a_lens])), (a_codes, .inl (cI, 20, .inl u44)), (a_lens, .inl (cI, 4, .inl u45))] := hD
      refine lv_goto (tgt := 157) hx hb d_MA_act_134 (by decide) ?_
      exact l_MA_act_157 C0  u39 u40 u41 u42 u43 u44 u45 r18  H locs ls h hP hD hS (lv_sub hl [0] rfl)
  · have h := h.2 c91_0
    by_cases c91_1 : (L3 / 16) = 1
    · have h := h.1 c91_1
      refine lv_tableIn (off := 80) (tgt := 171) hx hb d_MA_act_91 (by rw [c91_1]; decide) (by rw [c91_1]; decide) (by rw [c91_1]; decide) (by decide) ?_
      refine lv_iload hx hb d_MA_act_171 (lv_at hl 0 rfl) ?_
      refine lv_iload hx hb d_MA_act_173 (lv_at hl 5 rfl) ?_
      have hPc := hP.sub (ws' := []) [] rfl
      have hDc := hD.sub (ws' := []) [] (by decide) rfl
      have hFc := va_free (wc := []) hD hS hA [] rfl
      refine va_calli (va_runS (As := [.int r18, .int L4]) (rest := []) ⟨hx, hb, hml, hown, hts⟩ (c_MA_newestFor l dC dI cI cJ cZ cQ  H.size r18 L4 _  h) (va_cwS 2 hts (goodIn_app (jGl (List.forall_mem_cons.mpr ⟨mw_712, List.forall_mem_cons.mpr ⟨mw_713, List.forall_mem_cons.mpr ⟨mw_5, fun _ h => absurd h List.not_mem_nil⟩⟩⟩)) (jG mw_714)) rfl rfl rfl (by decide +kernel) ⟨Nat.le_of_ble_eq_true rfl, Nat.le_of_ble_eq_true rfl⟩) ⟨jPre_blind, jPre_in hPc hK hDc hZ hS hFc hst⟩ rfl rfl hl.1 rfl (lv_room (Nat.le_of_ble_eq_true rfl)) d_MA_act_175 ⟨(Nat.zero_le _), (Nat.zero_le _)⟩) hS (fun q _ h => hFc q h) hFc (fun r46 u t H1 locs ht hvm hw hB hz1 hk1 hS => ?_)
      obtain ⟨hP1, hK1, hD1⟩ := hB
      rw [ht] at hP1
      have h := hw
      obtain ⟨hP, hD⟩ := va_join (wr := [(a_ma, .inr (1, [.ref a_pr, .int u19, .long u20, .long u21, .long x27, .long u23])), (a_pr, .inr (0, [.ref a_codes, .ref a_lens])), (a_codes, .inl (cI, 20, .inl u24)), (a_lens, .inl (cI, 4, .inl u25))]) (w1 := []) hP hD [] [0, 1, 2, 3] rfl rfl (by decide) (by decide) hk1 hFc hP1 hD1
      generalize H1 = H at hP hS ⊢
      have hP : va_P (dC, dI) vwCl [(a_ma, .inr (1, [.ref a_pr, .int u19, .long u20, .long u21, .long x27, .long u23])), (a_pr, .inr (0, [.ref a_codes, .ref a_lens])), (a_codes, .inl (cI, 20, .inl u24)), (a_lens, .inl (cI, 4, .inl u25))] H := hP
      have hD : va_D A [(a_ma, .inr (1, [.ref a_pr, .int u19, .long u20, .long u21, .long x27, .long u23])), (a_pr, .inr (0, [.ref a_codes, .ref a_lens])), (a_codes, .inl (cI, 20, .inl u24)), (a_lens, .inl (cI, 4, .inl u25))] := hD
      refine lv_istore (lv' := [(8, .int r46), (7, .int r18), (6, .int S0), (0, .ref a_ma), (1, .int L1), (3, .int L3), (4, .int L4), (5, .int L5)]) hx hb d_MA_act_178 hl (by decide) rfl (fun ls hl => ?_)
      refine lv_aload_n hx hb d_MA_act_180 rfl (lv_at hl 3 rfl) ?_
      refine lv_iload_n hx hb d_MA_act_181 rfl (lv_at hl 4 rfl) ?_
      refine lv_iload hx hb d_MA_act_182 (lv_at hl 7 rfl) ?_
      have hPc := hP.sub (ws' := []) [] rfl
      have hDc := hD.sub (ws' := []) [] (by decide) rfl
      have hFc := va_free (wc := []) hD hS hA [] rfl
      refine va_calli (va_runS (As := [.int L1, .int L5]) (rest := [.ref a_ma]) ⟨hx, hb, hml, hown, hts⟩ (c_MA_registerShift l dC dI cI cJ cZ cQ  H.size L1 L5 _  h) (va_cwS 2 hts (goodIn_app (jGl (List.forall_mem_cons.mpr ⟨mw_715, List.forall_mem_cons.mpr ⟨mw_716, List.forall_mem_cons.mpr ⟨mw_5, fun _ h => absurd h List.not_mem_nil⟩⟩⟩)) (jG mw_717)) rfl rfl rfl (by decide +kernel) ⟨Nat.le_of_ble_eq_true rfl, Nat.le_of_ble_eq_true rfl⟩) ⟨jPre_blind, jPre_in hPc hK hDc hZ hS hFc hst⟩ rfl rfl hl.1 rfl (lv_room (Nat.le_of_ble_eq_true rfl)) d_MA_act_184 ⟨(Nat.zero_le _), (Nat.zero_le _)⟩) hS (fun q _ h => hFc q h) hFc (fun r47 u t H1 locs ht hvm hw hB hz1 hk1 hS => ?_)
      obtain ⟨hP1, hK1, hD1⟩ := hB
      rw [ht] at hP1
      have h := hw
      obtain ⟨hP, hD⟩ := va_join (wr := [(a_ma, .inr (1, [.ref a_pr, .int u19, .long u20, .long u21, .long x27, .long u23])), (a_pr, .inr (0, [.ref a_codes, .ref a_lens])), (a_codes, .inl (cI, 20, .inl u24)), (a_lens, .inl (cI, 4, .inl u25))]) (w1 := []) hP hD [] [0, 1, 2, 3] rfl rfl (by decide) (by decide) hk1 hFc hP1 hD1
      generalize H1 = H at hP hS ⊢
      have hP : va_P (dC, dI) vwCl [(a_ma, .inr (1, [.ref a_pr, .int u19, .long u20, .long u21, .long x27, .long u23])), (a_pr, .inr (0, [.ref a_codes, .ref a_lens])), (a_codes, .inl (cI, 20, .inl u24)), (a_lens, .inl (cI, 4, .inl u25))] H := hP
      have hD : va_D A [(a_ma, .inr (1, [.ref a_pr, .int u19, .long u20, .long u21, .long x27, .long u23])), (a_pr, .inr (0, [.ref a_codes, .ref a_lens])), (a_codes, .inl (cI, 20, .inl u24)), (a_lens, .inl (cI, 4, .inl u25))] := hD
      refine lv_iload hx hb d_MA_act_187 (lv_at hl 0 rfl) ?_
      refine lv_iconst (v := (-1)) hx hb d_MA_act_189 (by decide) ?_
      refine lv_icmp_ne (tgt := 206) hx hb d_MA_act_190 (by decide) (fun c190 => ?_) (fun c190 => ?_)
      · have h := h.1 c190
        refine lv_iload hx hb d_MA_act_206 (lv_at hl 0 rfl) ?_
        exact l_MA_act_208 C0  u19 u20 u21 x27 u23 u24 u25 r46 r47  H locs ls h hP hD hS (lv_sub hl [] rfl)
      · have h := h.2 c190
        refine lv_aload_n hx hb d_MA_act_193 rfl (lv_at hl 3 rfl) ?_
        refine lv_iload hx hb d_MA_act_194 (lv_at hl 6 rfl) ?_
        have hPc := hP.sub (ws' := []) [] rfl
        have hDc := hD.sub (ws' := []) [] (by decide) rfl
        have hFc := va_free (wc := []) hD hS hA [] rfl
        refine va_calli (va_runS (As := [.int L4]) (rest := [.ref a_ma, .int r47, .ref a_ma]) ⟨hx, hb, hml, hown, hts⟩ (c_MA_placeShift l dC dI cI cJ cZ cQ  H.size L4 _  h) (va_cwS 1 hts (goodIn_app (jGl (List.forall_mem_cons.mpr ⟨mw_695, List.forall_mem_cons.mpr ⟨mw_696, List.forall_mem_cons.mpr ⟨mw_5, fun _ h => absurd h List.not_mem_nil⟩⟩⟩)) (jG mw_697)) rfl rfl rfl (by decide +kernel) ⟨Nat.le_of_ble_eq_true rfl, Nat.le_of_ble_eq_true rfl⟩) ⟨jPre_blind, jPre_in hPc hK hDc hZ hS hFc hst⟩ rfl rfl hl.1 rfl (lv_room (Nat.le_of_ble_eq_true rfl)) d_MA_act_196 ⟨(Nat.zero_le _), (Nat.zero_le _)⟩) hS (fun q _ h => hFc q h) hFc (fun r48 u t H1 locs ht hvm hw hB hz1 hk1 hS => ?_)
        obtain ⟨hP1, hK1, hD1⟩ := hB
        rw [ht] at hP1
        have h := hw
        obtain ⟨hP, hD⟩ := va_join (wr := [(a_ma, .inr (1, [.ref a_pr, .int u19, .long u20, .long u21, .long x27, .long u23])), (a_pr, .inr (0, [.ref a_codes, .ref a_lens])), (a_codes, .inl (cI, 20, .inl u24)), (a_lens, .inl (cI, 4, .inl u25))]) (w1 := []) hP hD [] [0, 1, 2, 3] rfl rfl (by decide) (by decide) hk1 hFc hP1 hD1
        generalize H1 = H at hP hS ⊢
        have hP : va_P (dC, dI) vwCl [(a_ma, .inr (1, [.ref a_pr, .int u19, .long u20, .long u21, .long x27, .long u23])), (a_pr, .inr (0, [.ref a_codes, .ref a_lens])), (a_codes, .inl (cI, 20, .inl u24)), (a_lens, .inl (cI, 4, .inl u25))] H := hP
        have hD : va_D A [(a_ma, .inr (1, [.ref a_pr, .int u19, .long u20, .long u21, .long x27, .long u23])), (a_pr, .inr (0, [.ref a_codes, .ref a_lens])), (a_codes, .inl (cI, 20, .inl u24)), (a_lens, .inl (cI, 4, .inl u25))] := hD
        refine lv_iconst (v := 3) hx hb d_MA_act_199 (by decide) ?_
        have hPc := hP.sub (ws' := [(a_ma, .inr (1, [.ref a_pr, .int u19, .long u20, .long u21, .long x27, .long u23])), (a_pr, .inr (0, [.ref a_codes, .ref a_lens])), (a_codes, .inl (cI, 20, .inl u24)), (a_lens, .inl (cI, 4, .inl u25))]) [0, 1, 2, 3] rfl
        have hDc := hD.sub (ws' := [(a_ma, .inr (1, [.ref a_pr, .int u19, .long u20, .long u21, .long x27, .long u23])), (a_pr, .inr (0, [.ref a_codes, .ref a_lens])), (a_codes, .inl (cI, 20, .inl u24)), (a_lens, .inl (cI, 4, .inl u25))]) [0, 1, 2, 3] (by decide) rfl
        have hFc := va_free (wc := [(a_ma, .inr (1, [.ref a_pr, .int u19, .long u20, .long u21, .long x27, .long u23])), (a_pr, .inr (0, [.ref a_codes, .ref a_lens])), (a_codes, .inl (cI, 20, .inl u24)), (a_lens, .inl (cI, 4, .inl u25))]) hD hS hA [0, 1, 2, 3] rfl
        refine va_calli (va_runV (As := [.int r48, .int 3]) (rest := [.int r47, .ref a_ma]) ⟨hx, hb, hml, hown, hts⟩ (c_MA_bitsAt l dC dI cI cJ cZ cQ a_ma a_pr a_codes a_lens H.size u19 u20 u21 x27 u23 u24 u25 r48 3 _  h) (cwV 2 hts (goodIn_app (jGl (List.forall_mem_cons.mpr ⟨mw_660, List.forall_mem_cons.mpr ⟨mw_662, List.forall_mem_cons.mpr ⟨ms_MA_bitsAt, List.forall_mem_cons.mpr ⟨mw_5, fun _ h => absurd h List.not_mem_nil⟩⟩⟩⟩)) (jG mw_663)) rfl rfl rfl (by decide +kernel) ⟨Nat.le_of_ble_eq_true rfl, Nat.le_of_ble_eq_true rfl⟩) ⟨jPre_blind, va_recv hK hPc (ci := 1) (q0 := 0) rfl rfl, jPre_in hPc hK hDc hZ hS hFc hst⟩ rfl rfl hl.1 rfl (lv_room (Nat.le_of_ble_eq_true rfl)) d_MA_act_200 ⟨(Nat.zero_le _), (Nat.zero_le _)⟩) hS (fun q _ h => hFc q h) hFc (fun r49 u t H1 locs ht hvm hw hB hz1 hk1 hS => ?_)
        obtain ⟨u50, u51, u52, u53, u54, u55, u56⟩ := u
        obtain ⟨hP1, hK1, hD1⟩ := hB
        rw [ht] at hP1
        have h := hw
        obtain ⟨hP, hD⟩ := va_join (wr := []) (w1 := [(a_ma, .inr (1, [.ref a_pr, .int u50, .long u51, .long u52, .long u53, .long u54])), (a_pr, .inr (0, [.ref a_codes, .ref a_lens])), (a_codes, .inl (cI, 20, .inl u55)), (a_lens, .inl (cI, 4, .inl u56))]) hP hD [0, 1, 2, 3] [] rfl rfl (by decide) (by decide) hk1 hFc hP1 hD1
        generalize H1 = H at hP hS ⊢
        have hP : va_P (dC, dI) vwCl [(a_ma, .inr (1, [.ref a_pr, .int u50, .long u51, .long u52, .long u53, .long u54])), (a_pr, .inr (0, [.ref a_codes, .ref a_lens])), (a_codes, .inl (cI, 20, .inl u55)), (a_lens, .inl (cI, 4, .inl u56))] H := hP
        have hD : va_D A [(a_ma, .inr (1, [.ref a_pr, .int u50, .long u51, .long u52, .long u53, .long u54])), (a_pr, .inr (0, [.ref a_codes, .ref a_lens])), (a_codes, .inl (cI, 20, .inl u55)), (a_lens, .inl (cI, 4, .inl u56))] := hD
        refine lv_goto (tgt := 208) hx hb d_MA_act_203 (by decide) ?_
        exact l_MA_act_208 C0  u50 u51 u52 u53 u54 u55 u56 r49 r47  H locs ls h hP hD hS (lv_sub hl [] rfl)
    · have h := h.2 c91_1
      by_cases c91_2 : (L3 / 16) = 2
      · have h := h.1 c91_2
        refine lv_tableIn (off := 122) (tgt := 213) hx hb d_MA_act_91 (by rw [c91_2]; decide) (by rw [c91_2]; decide) (by rw [c91_2]; decide) (by decide) ?_
        refine lv_iload hx hb d_MA_act_213 (lv_at hl 0 rfl) ?_
        refine lv_if_ne (tgt := 222) hx hb d_MA_act_215 (by decide) (fun c215 => ?_) (fun c215 => ?_)
        · have h := h.1 c215
          refine lv_iconst (v := 0) hx hb d_MA_act_222 (by decide) ?_
          have hP9 := hP
          have hD9 := hD
          exact W.zret (v := 0) hx hb hr rfl (fun t ht hW => ⟨⟨0, (u19, u20, u21, x27, u23, u24, u25), rfl, h, by rw [ht]; exact hP9, va_K.moved hW.alike hK, hD9⟩, hS.F ht⟩) hS.2.2 d_MA_act_223
        · have h := h.2 c215
          refine lv_iconst (v := 1) hx hb d_MA_act_218 (by decide) ?_
          refine lv_goto (tgt := 223) hx hb d_MA_act_219 (by decide) ?_
          have hP9 := hP
          have hD9 := hD
          exact W.zret (v := 1) hx hb hr rfl (fun t ht hW => ⟨⟨1, (u19, u20, u21, x27, u23, u24, u25), rfl, h, by rw [ht]; exact hP9, va_K.moved hW.alike hK, hD9⟩, hS.F ht⟩) hS.2.2 d_MA_act_223
      · have h := h.2 c91_2
        refine lv_tableOut (tgt := 224) hx hb d_MA_act_91 (by have e0 : (L3 / 16).toInt ≠ 0 := fun q => c91_0 (Int32.toInt_inj.mp (q.trans (by decide))); have e1 : (L3 / 16).toInt ≠ 1 := fun q => c91_1 (Int32.toInt_inj.mp (q.trans (by decide))); have e2 : (L3 / 16).toInt ≠ 2 := fun q => c91_2 (Int32.toInt_inj.mp (q.trans (by decide))); omega) (by decide) ?_
        refine lv_aload_n hx hb d_MA_act_224 rfl (lv_at hl 2 rfl) ?_
        refine lv_iload hx hb d_MA_act_225 (lv_at hl 5 rfl) ?_
        have hPc := hP.sub (ws' := []) [] rfl
        have hDc := hD.sub (ws' := []) [] (by decide) rfl
        have hFc := va_free (wc := []) hD hS hA [] rfl
        refine va_calli (va_runS (As := [.int L4]) (rest := [.ref a_ma]) ⟨hx, hb, hml, hown, hts⟩ (c_MA_placeShift l dC dI cI cJ cZ cQ  H.size L4 _  h) (va_cwS 1 hts (goodIn_app (jGl (List.forall_mem_cons.mpr ⟨mw_695, List.forall_mem_cons.mpr ⟨mw_696, List.forall_mem_cons.mpr ⟨mw_5, fun _ h => absurd h List.not_mem_nil⟩⟩⟩)) (jG mw_697)) rfl rfl rfl (by decide +kernel) ⟨Nat.le_of_ble_eq_true rfl, Nat.le_of_ble_eq_true rfl⟩) ⟨jPre_blind, jPre_in hPc hK hDc hZ hS hFc hst⟩ rfl rfl hl.1 rfl (lv_room (Nat.le_of_ble_eq_true rfl)) d_MA_act_227 ⟨(Nat.zero_le _), (Nat.zero_le _)⟩) hS (fun q _ h => hFc q h) hFc (fun r57 u t H1 locs ht hvm hw hB hz1 hk1 hS => ?_)
        obtain ⟨hP1, hK1, hD1⟩ := hB
        rw [ht] at hP1
        have h := hw
        obtain ⟨hP, hD⟩ := va_join (wr := [(a_ma, .inr (1, [.ref a_pr, .int u19, .long u20, .long u21, .long x27, .long u23])), (a_pr, .inr (0, [.ref a_codes, .ref a_lens])), (a_codes, .inl (cI, 20, .inl u24)), (a_lens, .inl (cI, 4, .inl u25))]) (w1 := []) hP hD [] [0, 1, 2, 3] rfl rfl (by decide) (by decide) hk1 hFc hP1 hD1
        generalize H1 = H at hP hS ⊢
        have hP : va_P (dC, dI) vwCl [(a_ma, .inr (1, [.ref a_pr, .int u19, .long u20, .long u21, .long x27, .long u23])), (a_pr, .inr (0, [.ref a_codes, .ref a_lens])), (a_codes, .inl (cI, 20, .inl u24)), (a_lens, .inl (cI, 4, .inl u25))] H := hP
        have hD : va_D A [(a_ma, .inr (1, [.ref a_pr, .int u19, .long u20, .long u21, .long x27, .long u23])), (a_pr, .inr (0, [.ref a_codes, .ref a_lens])), (a_codes, .inl (cI, 20, .inl u24)), (a_lens, .inl (cI, 4, .inl u25))] := hD
        refine lv_iload hx hb d_MA_act_230 (lv_at hl 6 rfl) ?_
        have hPc := hP.sub (ws' := [(a_ma, .inr (1, [.ref a_pr, .int u19, .long u20, .long u21, .long x27, .long u23])), (a_pr, .inr (0, [.ref a_codes, .ref a_lens])), (a_codes, .inl (cI, 20, .inl u24)), (a_lens, .inl (cI, 4, .inl u25))]) [0, 1, 2, 3] rfl
        have hDc := hD.sub (ws' := [(a_ma, .inr (1, [.ref a_pr, .int u19, .long u20, .long u21, .long x27, .long u23])), (a_pr, .inr (0, [.ref a_codes, .ref a_lens])), (a_codes, .inl (cI, 20, .inl u24)), (a_lens, .inl (cI, 4, .inl u25))]) [0, 1, 2, 3] (by decide) rfl
        have hFc := va_free (wc := [(a_ma, .inr (1, [.ref a_pr, .int u19, .long u20, .long u21, .long x27, .long u23])), (a_pr, .inr (0, [.ref a_codes, .ref a_lens])), (a_codes, .inl (cI, 20, .inl u24)), (a_lens, .inl (cI, 4, .inl u25))]) hD hS hA [0, 1, 2, 3] rfl
        refine va_callv (va_runV (As := [.int r57, .int L5]) (rest := []) ⟨hx, hb, hml, hown, hts⟩ (c_MA_setDigit l dC dI cI cJ cZ cQ a_ma a_pr a_codes a_lens H.size u19 u20 u21 x27 u23 u24 u25 r57 L5 _  h) (cwV 2 hts (goodIn_app (jGl (List.forall_mem_cons.mpr ⟨mw_698, List.forall_mem_cons.mpr ⟨mw_700, List.forall_mem_cons.mpr ⟨ms_MA_setDigit, List.forall_mem_cons.mpr ⟨mw_5, fun _ h => absurd h List.not_mem_nil⟩⟩⟩⟩)) (jG mw_701)) rfl rfl rfl (by decide +kernel) ⟨Nat.le_of_ble_eq_true rfl, Nat.le_of_ble_eq_true rfl⟩) ⟨jPre_blind, va_recv hK hPc (ci := 1) (q0 := 0) rfl rfl, jPre_in hPc hK hDc hZ hS hFc hst⟩ rfl rfl hl.1 rfl (lv_room (Nat.le_of_ble_eq_true rfl)) d_MA_act_232 ⟨(Nat.zero_le _), (Nat.zero_le _)⟩) hS (fun q _ h => hFc q h) hFc (fun u t H1 locs ht hvm hw hB hz1 hk1 hS => ?_)
        obtain ⟨u59, u60, u61, u62, u63, u64, u65⟩ := u
        obtain ⟨hP1, hK1, hD1⟩ := hB
        rw [ht] at hP1
        have h := hw
        obtain ⟨hP, hD⟩ := va_join (wr := []) (w1 := [(a_ma, .inr (1, [.ref a_pr, .int u59, .long u60, .long u61, .long u62, .long u63])), (a_pr, .inr (0, [.ref a_codes, .ref a_lens])), (a_codes, .inl (cI, 20, .inl u64)), (a_lens, .inl (cI, 4, .inl u65))]) hP hD [0, 1, 2, 3] [] rfl rfl (by decide) (by decide) hk1 hFc hP1 hD1
        generalize H1 = H at hP hS ⊢
        have hP : va_P (dC, dI) vwCl [(a_ma, .inr (1, [.ref a_pr, .int u59, .long u60, .long u61, .long u62, .long u63])), (a_pr, .inr (0, [.ref a_codes, .ref a_lens])), (a_codes, .inl (cI, 20, .inl u64)), (a_lens, .inl (cI, 4, .inl u65))] H := hP
        have hD : va_D A [(a_ma, .inr (1, [.ref a_pr, .int u59, .long u60, .long u61, .long u62, .long u63])), (a_pr, .inr (0, [.ref a_codes, .ref a_lens])), (a_codes, .inl (cI, 20, .inl u64)), (a_lens, .inl (cI, 4, .inl u65))] := hD
        refine lv_iload hx hb d_MA_act_235 (lv_at hl 0 rfl) ?_
        refine lv_if_ne (tgt := 244) hx hb d_MA_act_237 (by decide) (fun c237 => ?_) (fun c237 => ?_)
        · have h := h.1 c237
          refine lv_iconst (v := 0) hx hb d_MA_act_244 (by decide) ?_
          have hP9 := hP
          have hD9 := hD
          exact W.zret (v := 0) hx hb hr rfl (fun t ht hW => ⟨⟨0, (u59, u60, u61, u62, u63, u64, u65), rfl, h, by rw [ht]; exact hP9, va_K.moved hW.alike hK, hD9⟩, hS.F ht⟩) hS.2.2 d_MA_act_245
        · have h := h.2 c237
          refine lv_iconst (v := 1) hx hb d_MA_act_240 (by decide) ?_
          refine lv_goto (tgt := 245) hx hb d_MA_act_241 (by decide) ?_
          have hP9 := hP
          have hD9 := hD
          exact W.zret (v := 1) hx hb hr rfl (fun t ht hW => ⟨⟨1, (u59, u60, u61, u62, u63, u64, u65), rfl, h, by rw [ht]; exact hP9, va_K.moved hW.alike hK, hD9⟩, hS.F ht⟩) hS.2.2 d_MA_act_245
set_option maxHeartbeats 4000000 in
set_option maxRecDepth 100000 in
theorem c_MA_act (l : Launch) (dC : Nat → ClassId) (dI : Nat → Nat → Nat) (cI cJ cZ cQ : ClassId) (a_ma a_pr a_codes a_lens : Nat) (sz : Nat) (mki : Int32) (mme mbu mnm mnb : Int64) (pc pl : Nat → Int32) (t0 : Int32) (Post : Int32 → Int32 → Int64 → Int64 → Int64 → Int64 → (Nat → Int32) → (Nat → Int32) → Prop) (h : wp_MA_act Post mki mme mbu mnm mnb pc pl t0) : Met l y_MA_act (.code y_MA_act b_MA_act 9 (some .boolean) :: jW) ({ frames := 11, cells := 0, slots := 0, locals := 173 } : Room) (jPre l (dC, dI) cI cJ cZ cQ [(a_ma, .inr (1, [.ref a_pr, .int mki, .long mme, .long mbu, .long mnm, .long mnb])), (a_pr, .inr (0, [.ref a_codes, .ref a_lens])), (a_codes, .inl (cI, 20, .inl pc)), (a_lens, .inl (cI, 4, .inl pl))] sz [.ref a_ma, .int t0]) (jQ_MA_act dC dI cI cJ cZ cQ (va_A [(a_ma, .inr (1, [.ref a_pr, .int mki, .long mme, .long mbu, .long mnm, .long mnb])), (a_pr, .inr (0, [.ref a_codes, .ref a_lens])), (a_codes, .inl (cI, 20, .inl pc)), (a_lens, .inl (cI, 4, .inl pl))] sz) a_ma a_pr a_codes a_lens Post) 0 0 (va_A [(a_ma, .inr (1, [.ref a_pr, .int mki, .long mme, .long mbu, .long mnm, .long mnb])), (a_pr, .inr (0, [.ref a_codes, .ref a_lens])), (a_codes, .inl (cI, 20, .inl pc)), (a_lens, .inl (cI, 4, .inl pl))] sz) := by
  refine Met.ofW (cc := b_MA_act) (maxL := 9) (ret := (some .boolean)) (by decide) rfl ?_
  intro p e s m args below meth c s₁ B hml hv
  obtain ⟨rfl, hsz, hP, hK, hD0, hZ, hst⟩ := hv
  subst hsz
  have hD := hD0.self (sz := s.heap.size)
  generalize hAe : va_A [(a_ma, .inr (1, [.ref a_pr, .int mki, .long mme, .long mbu, .long mnm, .long mnb])), (a_pr, .inr (0, [.ref a_codes, .ref a_lens])), (a_codes, .inl (cI, 20, .inl pc)), (a_lens, .inl (cI, 4, .inl pl))] s.heap.size = A at hD hZ ⊢
  have hA : ∀ q : Nat, s.heap.size ≤ q → A q := fun q h => by rw [← hAe]; exact Or.inr h
  have C0 : jC p l s m ([.ref a_ma, .int t0] : List Value).toArray meth c b_MA_act (some .boolean) 9 R_MA (dC, dI) cI cJ cZ cQ A := ⟨B.exec, B.bytes, B.returns, hml, findClass_of_methodNamed B.named, fun w hw => atoms_spec (ws := (.code y_MA_act b_MA_act 9 (some .boolean) :: jW)) B.pre w (List.mem_cons_of_mem _ hw), B.notSynchronized, hK, hZ, hA, hst⟩
  obtain ⟨hx, hb, hr, hml, hown, hts, hlocks, hK, hZ, hA, hst⟩ := id C0
  have hS : va_S A s.heap s.heap [] := va_S.rf
  have hl := lv_entry ([.ref a_ma, .int t0]) (n := 9) (Nat.le_of_ble_eq_true rfl)
  rw [lg_entry_eq]
  generalize (lg_sl ([.ref a_ma, .int t0]) ++ List.replicate (9 - (lg_sl ([.ref a_ma, .int t0])).length) Slot.unset).toArray = ls at hl ⊢
  have hl : lv_has ls 9 [(0, .ref a_ma), (1, .int t0)] := hl
  obtain ⟨H, hH⟩ : ∃ H : Heap, H = s.heap := ⟨_, rfl⟩
  obtain ⟨locs, hlc⟩ : ∃ L : List Loc, L = [] := ⟨_, rfl⟩
  have hP : va_P (dC, dI) vwCl [(a_ma, .inr (1, [.ref a_pr, .int mki, .long mme, .long mbu, .long mnm, .long mnb])), (a_pr, .inr (0, [.ref a_codes, .ref a_lens])), (a_codes, .inl (cI, 20, .inl pc)), (a_lens, .inl (cI, 4, .inl pl))] H := by rw [hH]; exact hP
  have hS : va_S A s.heap H locs := by rw [hH, hlc]; exact hS
  suffices hW9 : W p l e ({ frames := 11, cells := 0, slots := 0, locals := 173 } : Room) s m ([.ref a_ma, .int t0] : List Value).toArray below meth c H locs 0 0 (MQ below (jQ_MA_act dC dI cI cJ cZ cQ A a_ma a_pr a_codes a_lens Post) ([.ref a_ma, .int t0] : List Value).toArray s 0 0 A) (F0 m 0 ls []) by rw [hH, hlc] at hW9; exact hW9
  clear hH hlc
  rw [wp_MA_act] at h
  refine lv_aload_n hx hb d_MA_act_0 rfl (lv_at hl 0 rfl) ?_
  refine lv_iload_n hx hb d_MA_act_1 rfl (lv_at hl 1 rfl) ?_
  have hPc := hP.sub (ws' := []) [] rfl
  have hDc := hD.sub (ws' := []) [] (by decide) rfl
  have hFc := va_free (wc := []) hD hS hA [] rfl
  refine va_calli (va_runS (As := [.int t0]) (rest := [.ref a_ma]) ⟨hx, hb, hml, hown, hts⟩ (c_MA_doneShift l dC dI cI cJ cZ cQ  H.size t0 _  h) (va_cwS 1 hts (goodIn_app (jGl (List.forall_mem_cons.mpr ⟨mw_686, List.forall_mem_cons.mpr ⟨mw_687, List.forall_mem_cons.mpr ⟨mw_5, fun _ h => absurd h List.not_mem_nil⟩⟩⟩)) (jG mw_688)) rfl rfl rfl (by decide +kernel) ⟨Nat.le_of_ble_eq_true rfl, Nat.le_of_ble_eq_true rfl⟩) ⟨jPre_blind, jPre_in hPc hK hDc hZ hS hFc hst⟩ rfl rfl hl.1 rfl (lv_room (Nat.le_of_ble_eq_true rfl)) d_MA_act_2 ⟨(Nat.zero_le _), (Nat.zero_le _)⟩) hS (fun q _ h => hFc q h) hFc (fun r1 u t H1 locs ht hvm hw hB hz1 hk1 hS => ?_)
  obtain ⟨hP1, hK1, hD1⟩ := hB
  rw [ht] at hP1
  have h := hw
  obtain ⟨hP, hD⟩ := va_join (wr := [(a_ma, .inr (1, [.ref a_pr, .int mki, .long mme, .long mbu, .long mnm, .long mnb])), (a_pr, .inr (0, [.ref a_codes, .ref a_lens])), (a_codes, .inl (cI, 20, .inl pc)), (a_lens, .inl (cI, 4, .inl pl))]) (w1 := []) hP hD [] [0, 1, 2, 3] rfl rfl (by decide) (by decide) hk1 hFc hP1 hD1
  generalize H1 = H at hP hS ⊢
  have hP : va_P (dC, dI) vwCl [(a_ma, .inr (1, [.ref a_pr, .int mki, .long mme, .long mbu, .long mnm, .long mnb])), (a_pr, .inr (0, [.ref a_codes, .ref a_lens])), (a_codes, .inl (cI, 20, .inl pc)), (a_lens, .inl (cI, 4, .inl pl))] H := hP
  have hD : va_D A [(a_ma, .inr (1, [.ref a_pr, .int mki, .long mme, .long mbu, .long mnm, .long mnb])), (a_pr, .inr (0, [.ref a_codes, .ref a_lens])), (a_codes, .inl (cI, 20, .inl pc)), (a_lens, .inl (cI, 4, .inl pl))] := hD
  refine lv_bipush (v := 7) hx hb d_MA_act_5 (by decide) ?_
  have hPc := hP.sub (ws' := [(a_ma, .inr (1, [.ref a_pr, .int mki, .long mme, .long mbu, .long mnm, .long mnb])), (a_pr, .inr (0, [.ref a_codes, .ref a_lens])), (a_codes, .inl (cI, 20, .inl pc)), (a_lens, .inl (cI, 4, .inl pl))]) [0, 1, 2, 3] rfl
  have hDc := hD.sub (ws' := [(a_ma, .inr (1, [.ref a_pr, .int mki, .long mme, .long mbu, .long mnm, .long mnb])), (a_pr, .inr (0, [.ref a_codes, .ref a_lens])), (a_codes, .inl (cI, 20, .inl pc)), (a_lens, .inl (cI, 4, .inl pl))]) [0, 1, 2, 3] (by decide) rfl
  have hFc := va_free (wc := [(a_ma, .inr (1, [.ref a_pr, .int mki, .long mme, .long mbu, .long mnm, .long mnb])), (a_pr, .inr (0, [.ref a_codes, .ref a_lens])), (a_codes, .inl (cI, 20, .inl pc)), (a_lens, .inl (cI, 4, .inl pl))]) hD hS hA [0, 1, 2, 3] rfl
  refine va_calli (va_runV (As := [.int r1, .int 7]) (rest := []) ⟨hx, hb, hml, hown, hts⟩ (c_MA_bitsAt l dC dI cI cJ cZ cQ a_ma a_pr a_codes a_lens H.size mki mme mbu mnm mnb pc pl r1 7 _  h) (cwV 2 hts (goodIn_app (jGl (List.forall_mem_cons.mpr ⟨mw_660, List.forall_mem_cons.mpr ⟨mw_662, List.forall_mem_cons.mpr ⟨ms_MA_bitsAt, List.forall_mem_cons.mpr ⟨mw_5, fun _ h => absurd h List.not_mem_nil⟩⟩⟩⟩)) (jG mw_663)) rfl rfl rfl (by decide +kernel) ⟨Nat.le_of_ble_eq_true rfl, Nat.le_of_ble_eq_true rfl⟩) ⟨jPre_blind, va_recv hK hPc (ci := 1) (q0 := 0) rfl rfl, jPre_in hPc hK hDc hZ hS hFc hst⟩ rfl rfl hl.1 rfl (lv_room (Nat.le_of_ble_eq_true rfl)) d_MA_act_7 ⟨(Nat.zero_le _), (Nat.zero_le _)⟩) hS (fun q _ h => hFc q h) hFc (fun r2 u t H1 locs ht hvm hw hB hz1 hk1 hS => ?_)
  obtain ⟨u3, u4, u5, u6, u7, u8, u9⟩ := u
  obtain ⟨hP1, hK1, hD1⟩ := hB
  rw [ht] at hP1
  have h := hw
  obtain ⟨hP, hD⟩ := va_join (wr := []) (w1 := [(a_ma, .inr (1, [.ref a_pr, .int u3, .long u4, .long u5, .long u6, .long u7])), (a_pr, .inr (0, [.ref a_codes, .ref a_lens])), (a_codes, .inl (cI, 20, .inl u8)), (a_lens, .inl (cI, 4, .inl u9))]) hP hD [0, 1, 2, 3] [] rfl rfl (by decide) (by decide) hk1 hFc hP1 hD1
  generalize H1 = H at hP hS ⊢
  have hP : va_P (dC, dI) vwCl [(a_ma, .inr (1, [.ref a_pr, .int u3, .long u4, .long u5, .long u6, .long u7])), (a_pr, .inr (0, [.ref a_codes, .ref a_lens])), (a_codes, .inl (cI, 20, .inl u8)), (a_lens, .inl (cI, 4, .inl u9))] H := hP
  have hD : va_D A [(a_ma, .inr (1, [.ref a_pr, .int u3, .long u4, .long u5, .long u6, .long u7])), (a_pr, .inr (0, [.ref a_codes, .ref a_lens])), (a_codes, .inl (cI, 20, .inl u8)), (a_lens, .inl (cI, 4, .inl u9))] := hD
  refine lv_istore_n (lv' := [(2, .int r2), (0, .ref a_ma), (1, .int t0)]) hx hb d_MA_act_10 rfl hl (by decide) rfl (fun ls hl => ?_)
  refine lv_iload_n hx hb d_MA_act_11 rfl (lv_at hl 0 rfl) ?_
  refine lv_aload_n hx hb d_MA_act_12 rfl (lv_at hl 1 rfl) ?_
  refine va_get (D := (dC, dI)) (ci := 1) (v := .ref a_pr) (C := R_MA) (T := T_MA) (N := 6) hx hb hts in_MA hown hK hP 0 rfl rfl 0 (by decide) (hts _ mw_90) (fun _ h9 => h9) rfl d_MA_act_13 ?_
  refine lv_iload_n hx hb d_MA_act_16 rfl (lv_at hl 2 rfl) ?_
  have hPc := hP.sub (ws' := [(a_pr, .inr (0, [.ref a_codes, .ref a_lens])), (a_codes, .inl (cI, 20, .inl u8)), (a_lens, .inl (cI, 4, .inl u9))]) [1, 2, 3] rfl
  have hDc := hD.sub (ws' := [(a_pr, .inr (0, [.ref a_codes, .ref a_lens])), (a_codes, .inl (cI, 20, .inl u8)), (a_lens, .inl (cI, 4, .inl u9))]) [1, 2, 3] (by decide) rfl
  have hFc := va_free (wc := [(a_pr, .inr (0, [.ref a_codes, .ref a_lens])), (a_codes, .inl (cI, 20, .inl u8)), (a_lens, .inl (cI, 4, .inl u9))]) hD hS hA [1, 2, 3] rfl
  refine va_calli (va_runV (As := [.int t0]) (rest := [.int r2]) ⟨hx, hb, hml, hown, hts⟩ (c_PR_lengthOf l dC dI cI cJ cZ cQ a_pr a_codes a_lens H.size u8 u9 t0 _  h) (cwV 1 hts (goodIn_app (jGl (List.forall_mem_cons.mpr ⟨mw_689, List.forall_mem_cons.mpr ⟨mw_291, List.forall_mem_cons.mpr ⟨mw_292, List.forall_mem_cons.mpr ⟨mw_2, fun _ h => absurd h List.not_mem_nil⟩⟩⟩⟩)) (jG mw_293)) rfl rfl rfl (by decide +kernel) ⟨Nat.le_of_ble_eq_true rfl, Nat.le_of_ble_eq_true rfl⟩) ⟨jPre_blind, va_recv hK hPc (ci := 0) (q0 := 0) rfl rfl, jPre_in hPc hK hDc hZ hS hFc hst⟩ rfl rfl hl.1 rfl (lv_room (Nat.le_of_ble_eq_true rfl)) d_MA_act_17 ⟨(Nat.zero_le _), (Nat.zero_le _)⟩) hS (fun q _ h => hFc q h) hFc (fun r10 u t H1 locs ht hvm hw hB hz1 hk1 hS => ?_)
  obtain ⟨u11, u12⟩ := u
  obtain ⟨hP1, hK1, hD1⟩ := hB
  rw [ht] at hP1
  have h := hw
  obtain ⟨hP, hD⟩ := va_join (wr := [(a_ma, .inr (1, [.ref a_pr, .int u3, .long u4, .long u5, .long u6, .long u7]))]) (w1 := [(a_pr, .inr (0, [.ref a_codes, .ref a_lens])), (a_codes, .inl (cI, 20, .inl u11)), (a_lens, .inl (cI, 4, .inl u12))]) hP hD [1, 2, 3] [0] rfl rfl (by decide) (by decide) hk1 hFc hP1 hD1
  generalize H1 = H at hP hS ⊢
  have hP : va_P (dC, dI) vwCl [(a_ma, .inr (1, [.ref a_pr, .int u3, .long u4, .long u5, .long u6, .long u7])), (a_pr, .inr (0, [.ref a_codes, .ref a_lens])), (a_codes, .inl (cI, 20, .inl u11)), (a_lens, .inl (cI, 4, .inl u12))] H := hP
  have hD : va_D A [(a_ma, .inr (1, [.ref a_pr, .int u3, .long u4, .long u5, .long u6, .long u7])), (a_pr, .inr (0, [.ref a_codes, .ref a_lens])), (a_codes, .inl (cI, 20, .inl u11)), (a_lens, .inl (cI, 4, .inl u12))] := hD
  refine lv_icmp_lt (tgt := 25) hx hb d_MA_act_20 (by decide) (fun c20 => ?_) (fun c20 => ?_)
  · have h := h.1 c20
    refine lv_aload_n hx hb d_MA_act_25 rfl (lv_at hl 1 rfl) ?_
    refine va_get (D := (dC, dI)) (ci := 1) (v := .ref a_pr) (C := R_MA) (T := T_MA) (N := 6) hx hb hts in_MA hown hK hP 0 rfl rfl 0 (by decide) (hts _ mw_90) (fun _ h9 => h9) rfl d_MA_act_26 ?_
    refine lv_iload_n hx hb d_MA_act_29 rfl (lv_at hl 2 rfl) ?_
    refine lv_iload_n hx hb d_MA_act_30 rfl (lv_at hl 0 rfl) ?_
    have hPc := hP.sub (ws' := [(a_pr, .inr (0, [.ref a_codes, .ref a_lens])), (a_codes, .inl (cI, 20, .inl u11)), (a_lens, .inl (cI, 4, .inl u12))]) [1, 2, 3] rfl
    have hDc := hD.sub (ws' := [(a_pr, .inr (0, [.ref a_codes, .ref a_lens])), (a_codes, .inl (cI, 20, .inl u11)), (a_lens, .inl (cI, 4, .inl u12))]) [1, 2, 3] (by decide) rfl
    have hFc := va_free (wc := [(a_pr, .inr (0, [.ref a_codes, .ref a_lens])), (a_codes, .inl (cI, 20, .inl u11)), (a_lens, .inl (cI, 4, .inl u12))]) hD hS hA [1, 2, 3] rfl
    refine va_calli (va_runV (As := [.int t0, .int r2]) (rest := []) ⟨hx, hb, hml, hown, hts⟩ (c_PR_codeOf l dC dI cI cJ cZ cQ a_pr a_codes a_lens H.size u11 u12 t0 r2 _  h) (cwV 2 hts (goodIn_app (jGl (List.forall_mem_cons.mpr ⟨mw_690, List.forall_mem_cons.mpr ⟨mw_203, List.forall_mem_cons.mpr ⟨mw_204, List.forall_mem_cons.mpr ⟨mw_2, fun _ h => absurd h List.not_mem_nil⟩⟩⟩⟩)) (jG mw_205)) rfl rfl rfl (by decide +kernel) ⟨Nat.le_of_ble_eq_true rfl, Nat.le_of_ble_eq_true rfl⟩) ⟨jPre_blind, va_recv hK hPc (ci := 0) (q0 := 0) rfl rfl, jPre_in hPc hK hDc hZ hS hFc hst⟩ rfl rfl hl.1 rfl (lv_room (Nat.le_of_ble_eq_true rfl)) d_MA_act_31 ⟨(Nat.zero_le _), (Nat.zero_le _)⟩) hS (fun q _ h => hFc q h) hFc (fun r13 u t H1 locs ht hvm hw hB hz1 hk1 hS => ?_)
    obtain ⟨u14, u15⟩ := u
    obtain ⟨hP1, hK1, hD1⟩ := hB
    rw [ht] at hP1
    have h := hw
    obtain ⟨hP, hD⟩ := va_join (wr := [(a_ma, .inr (1, [.ref a_pr, .int u3, .long u4, .long u5, .long u6, .long u7]))]) (w1 := [(a_pr, .inr (0, [.ref a_codes, .ref a_lens])), (a_codes, .inl (cI, 20, .inl u14)), (a_lens, .inl (cI, 4, .inl u15))]) hP hD [1, 2, 3] [0] rfl rfl (by decide) (by decide) hk1 hFc hP1 hD1
    generalize H1 = H at hP hS ⊢
    have hP : va_P (dC, dI) vwCl [(a_ma, .inr (1, [.ref a_pr, .int u3, .long u4, .long u5, .long u6, .long u7])), (a_pr, .inr (0, [.ref a_codes, .ref a_lens])), (a_codes, .inl (cI, 20, .inl u14)), (a_lens, .inl (cI, 4, .inl u15))] H := hP
    have hD : va_D A [(a_ma, .inr (1, [.ref a_pr, .int u3, .long u4, .long u5, .long u6, .long u7])), (a_pr, .inr (0, [.ref a_codes, .ref a_lens])), (a_codes, .inl (cI, 20, .inl u14)), (a_lens, .inl (cI, 4, .inl u15))] := hD
    refine lv_istore_n (lv' := [(3, .int r13), (2, .int r2), (0, .ref a_ma), (1, .int t0)]) hx hb d_MA_act_34 rfl hl (by decide) rfl (fun ls hl => ?_)
    refine lv_iload_n hx hb d_MA_act_35 rfl (lv_at hl 0 rfl) ?_
    refine lv_iconst (v := 4) hx hb d_MA_act_36 (by decide) ?_
    refine lv_idiv hx hb d_MA_act_37 (by decide) ?_
    refine lv_iconst (v := 4) hx hb d_MA_act_38 (by decide) ?_
    refine lv_irem hx hb d_MA_act_39 (by decide) ?_
    refine lv_topi (fun x16 ex16 => ?_)
    have h := h x16 ex16
    refine lv_istore (lv' := [(4, .int x16), (3, .int r13), (2, .int r2), (0, .ref a_ma), (1, .int t0)]) hx hb d_MA_act_40 hl (by decide) rfl (fun ls hl => ?_)
    refine lv_iload_n hx hb d_MA_act_42 rfl (lv_at hl 1 rfl) ?_
    refine lv_iconst (v := 4) hx hb d_MA_act_43 (by decide) ?_
    refine lv_irem hx hb d_MA_act_44 (by decide) ?_
    refine lv_topi (fun x17 ex17 => ?_)
    have h := h x17 ex17
    refine lv_istore (lv' := [(5, .int x17), (4, .int x16), (3, .int r13), (2, .int r2), (0, .ref a_ma), (1, .int t0)]) hx hb d_MA_act_45 hl (by decide) rfl (fun ls hl => ?_)
    refine lv_aload_n hx hb d_MA_act_47 rfl (lv_at hl 4 rfl) ?_
    refine va_get (D := (dC, dI)) (ci := 1) (v := .int u3) (C := R_MA) (T := T_MA) (N := 6) hx hb hts in_MA hown hK hP 0 rfl rfl 1 (by decide) (hts _ mw_91) (fun _ h9 => h9) rfl d_MA_act_48 ?_
    refine lv_iconst (v := 3) hx hb d_MA_act_51 (by decide) ?_
    refine lv_icmp_ne (tgt := 61) hx hb d_MA_act_52 (by decide) (fun c52 => ?_) (fun c52 => ?_)
    · have h := h.1 c52
      refine lv_iload_n hx hb d_MA_act_61 rfl (lv_at hl 5 rfl) ?_
      exact l_MA_act_62 C0  u3 u4 u5 u6 u7 u14 u15 t0 r13 x16 x17 t0  H locs ls h hP hD hS (lv_sub hl [4, 5, 2, 1, 0] rfl)
    · have h := h.2 c52
      refine lv_iload_n hx hb d_MA_act_55 rfl (lv_at hl 5 rfl) ?_
      refine lv_iconst (v := 2) hx hb d_MA_act_56 (by decide) ?_
      refine lv_idiv hx hb d_MA_act_57 (by decide) ?_
      refine lv_goto (tgt := 62) hx hb d_MA_act_58 (by decide) ?_
      exact l_MA_act_62 C0  u3 u4 u5 u6 u7 u14 u15 t0 r13 x16 x17 (t0 / 2)  H locs ls h hP hD hS (lv_sub hl [4, 5, 2, 1, 0] rfl)
  · have h := h.2 c20
    refine lv_iconst (v := 0) hx hb d_MA_act_23 (by decide) ?_
    have hP9 := hP
    have hD9 := hD
    exact W.zret (v := 0) hx hb hr rfl (fun t ht hW => ⟨⟨0, (u3, u4, u5, u6, u7, u11, u12), rfl, h, by rw [ht]; exact hP9, va_K.moved hW.alike hK, hD9⟩, hS.F ht⟩) hS.2.2 d_MA_act_24

/-- what OrderMachines$Machine.go(I)Z leaves -/
abbrev jQ_MA_go (dC : Nat → ClassId) (dI : Nat → Nat → Nat) (cI cJ cZ cQ : ClassId) (A : Nat → Prop) (a_ma a_pr a_codes a_lens : Nat) (Post : Int32 → Int32 → Int64 → Int64 → Int64 → Int64 → (Nat → Int32) → (Nat → Int32) → Prop) : Array Value → State → Outcome → State → Prop := va_Qi (fun (r : Int32) (u : Int32 × Int64 × Int64 × Int64 × Int64 × (Nat → Int32) × (Nat → Int32)) => Post r u.1 u.2.1 u.2.2.1 u.2.2.2.1 u.2.2.2.2.1 u.2.2.2.2.2.1 u.2.2.2.2.2.2) (fun (u : Int32 × Int64 × Int64 × Int64 × Int64 × (Nat → Int32) × (Nat → Int32)) (t : State) => match u with
  | (mki, mme, mbu, mnm, mnb, pc, pl) => jPost (dC, dI) (jT cI cJ cZ cQ) A [(a_ma, .inr (1, [.ref a_pr, .int mki, .long mme, .long mbu, .long mnm, .long mnb])), (a_pr, .inr (0, [.ref a_codes, .ref a_lens])), (a_codes, .inl (cI, 20, .inl pc)), (a_lens, .inl (cI, 4, .inl pl))] t) A
/-- OrderMachines$Machine.go(I)Z -/
def wp_MA_go (Post : Int32 → Int32 → Int64 → Int64 → Int64 → Int64 → (Nat → Int32) → (Nat → Int32) → Prop) (mki : Int32) (mme mbu mnm mnb : Int64) (pc pl : Nat → Int32) (t0 : Int32) : Prop :=
  ((4 ≤ t0 → ((mki = 2 → ∀ x1 : Int32, x1 = t0 - 8 → ((x1 < 0 → Post 0 mki mme mbu mme mbu pc pl) ∧
      (¬ x1 < 0 → wp_MA_drain (fun (r2 : Int32) (u3 : Int32) (u4 : Int64) (u5 : Int64) (u6 : Int64) (u7 : Int64) (u8 : Nat → Int32) (u9 : Nat → Int32) => ((r2 = 0 → Post 0 u3 u4 u5 u6 u7 u8 u9) ∧
        (¬ r2 = 0 → Post 1 u3 u4 u5 u6 u7 u8 u9))) mki mme mbu mme mbu pc pl (x1 / 4) (x1 - x1 / 4 * 4)))) ∧
    (¬ mki = 2 → wp_MA_drain (fun (r10 : Int32) (u11 : Int32) (u12 : Int64) (u13 : Int64) (u14 : Int64) (u15 : Int64) (u16 : Nat → Int32) (u17 : Nat → Int32) => jZ r10 ∧ Post r10 u11 u12 u13 u14 u15 u16 u17) mki mme mbu mme mbu pc pl (t0 - 4) (-1)))) ∧
  (¬ 4 ≤ t0 → wp_MA_act (fun (r18 : Int32) (u19 : Int32) (u20 : Int64) (u21 : Int64) (u22 : Int64) (u23 : Int64) (u24 : Nat → Int32) (u25 : Nat → Int32) => jZ r18 ∧ Post r18 u19 u20 u21 u22 u23 u24 u25) mki mme mbu mme mbu pc pl t0))
set_option maxHeartbeats 4000000 in
set_option maxRecDepth 100000 in
theorem c_MA_go (l : Launch) (dC : Nat → ClassId) (dI : Nat → Nat → Nat) (cI cJ cZ cQ : ClassId) (a_ma a_pr a_codes a_lens : Nat) (sz : Nat) (mki : Int32) (mme mbu mnm mnb : Int64) (pc pl : Nat → Int32) (t0 : Int32) (Post : Int32 → Int32 → Int64 → Int64 → Int64 → Int64 → (Nat → Int32) → (Nat → Int32) → Prop) (h : wp_MA_go Post mki mme mbu mnm mnb pc pl t0) : Met l y_MA_go (.code y_MA_go b_MA_go 3 (some .boolean) :: jW) ({ frames := 12, cells := 0, slots := 0, locals := 201 } : Room) (jPre l (dC, dI) cI cJ cZ cQ [(a_ma, .inr (1, [.ref a_pr, .int mki, .long mme, .long mbu, .long mnm, .long mnb])), (a_pr, .inr (0, [.ref a_codes, .ref a_lens])), (a_codes, .inl (cI, 20, .inl pc)), (a_lens, .inl (cI, 4, .inl pl))] sz [.ref a_ma, .int t0]) (jQ_MA_go dC dI cI cJ cZ cQ (va_A [(a_ma, .inr (1, [.ref a_pr, .int mki, .long mme, .long mbu, .long mnm, .long mnb])), (a_pr, .inr (0, [.ref a_codes, .ref a_lens])), (a_codes, .inl (cI, 20, .inl pc)), (a_lens, .inl (cI, 4, .inl pl))] sz) a_ma a_pr a_codes a_lens Post) 0 0 (va_A [(a_ma, .inr (1, [.ref a_pr, .int mki, .long mme, .long mbu, .long mnm, .long mnb])), (a_pr, .inr (0, [.ref a_codes, .ref a_lens])), (a_codes, .inl (cI, 20, .inl pc)), (a_lens, .inl (cI, 4, .inl pl))] sz) := by
  refine Met.ofW (cc := b_MA_go) (maxL := 3) (ret := (some .boolean)) (by decide) rfl ?_
  intro p e s m args below meth c s₁ B hml hv
  obtain ⟨rfl, hsz, hP, hK, hD0, hZ, hst⟩ := hv
  subst hsz
  have hD := hD0.self (sz := s.heap.size)
  generalize hAe : va_A [(a_ma, .inr (1, [.ref a_pr, .int mki, .long mme, .long mbu, .long mnm, .long mnb])), (a_pr, .inr (0, [.ref a_codes, .ref a_lens])), (a_codes, .inl (cI, 20, .inl pc)), (a_lens, .inl (cI, 4, .inl pl))] s.heap.size = A at hD hZ ⊢
  have hA : ∀ q : Nat, s.heap.size ≤ q → A q := fun q h => by rw [← hAe]; exact Or.inr h
  have C0 : jC p l s m ([.ref a_ma, .int t0] : List Value).toArray meth c b_MA_go (some .boolean) 3 R_MA (dC, dI) cI cJ cZ cQ A := ⟨B.exec, B.bytes, B.returns, hml, findClass_of_methodNamed B.named, fun w hw => atoms_spec (ws := (.code y_MA_go b_MA_go 3 (some .boolean) :: jW)) B.pre w (List.mem_cons_of_mem _ hw), B.notSynchronized, hK, hZ, hA, hst⟩
  obtain ⟨hx, hb, hr, hml, hown, hts, hlocks, hK, hZ, hA, hst⟩ := id C0
  have hS : va_S A s.heap s.heap [] := va_S.rf
  have hl := lv_entry ([.ref a_ma, .int t0]) (n := 3) (Nat.le_of_ble_eq_true rfl)
  rw [lg_entry_eq]
  generalize (lg_sl ([.ref a_ma, .int t0]) ++ List.replicate (3 - (lg_sl ([.ref a_ma, .int t0])).length) Slot.unset).toArray = ls at hl ⊢
  have hl : lv_has ls 3 [(0, .ref a_ma), (1, .int t0)] := hl
  obtain ⟨H, hH⟩ : ∃ H : Heap, H = s.heap := ⟨_, rfl⟩
  obtain ⟨locs, hlc⟩ : ∃ L : List Loc, L = [] := ⟨_, rfl⟩
  have hP : va_P (dC, dI) vwCl [(a_ma, .inr (1, [.ref a_pr, .int mki, .long mme, .long mbu, .long mnm, .long mnb])), (a_pr, .inr (0, [.ref a_codes, .ref a_lens])), (a_codes, .inl (cI, 20, .inl pc)), (a_lens, .inl (cI, 4, .inl pl))] H := by rw [hH]; exact hP
  have hS : va_S A s.heap H locs := by rw [hH, hlc]; exact hS
  suffices hW9 : W p l e ({ frames := 12, cells := 0, slots := 0, locals := 201 } : Room) s m ([.ref a_ma, .int t0] : List Value).toArray below meth c H locs 0 0 (MQ below (jQ_MA_go dC dI cI cJ cZ cQ A a_ma a_pr a_codes a_lens Post) ([.ref a_ma, .int t0] : List Value).toArray s 0 0 A) (F0 m 0 ls []) by rw [hH, hlc] at hW9; exact hW9
  clear hH hlc
  rw [wp_MA_go] at h
  refine lv_aload_n hx hb d_MA_go_0 rfl (lv_at hl 0 rfl) ?_
  refine lv_aload_n hx hb d_MA_go_1 rfl (lv_at hl 0 rfl) ?_
  refine va_get (D := (dC, dI)) (ci := 1) (v := .long mme) (C := R_MA) (T := T_MA) (N := 6) hx hb hts in_MA hown hK hP 0 rfl rfl 2 (by decide) (hts _ mw_92) (fun _ h9 => h9) rfl d_MA_go_2 ?_
  refine va_put (D := (dC, dI)) (ci := 1) (v := .long mme) (ty := .long) (C := R_MA) (T := T_MA) (N := 6) hx hb hts in_MA ty_MA tok_MA nm_MA hown hK hP hD hS 0 rfl rfl 4 (by decide) (hts _ mw_95) (fun _ h9 => h9) rfl (by decide +kernel) rfl rfl (Nat.le_of_ble_eq_true rfl) d_MA_go_5 (fun H locs hP hD hS => ?_)
  have hP : va_P (dC, dI) vwCl [(a_ma, .inr (1, [.ref a_pr, .int mki, .long mme, .long mbu, .long mme, .long mnb])), (a_pr, .inr (0, [.ref a_codes, .ref a_lens])), (a_codes, .inl (cI, 20, .inl pc)), (a_lens, .inl (cI, 4, .inl pl))] H := hP
  have hD : va_D A [(a_ma, .inr (1, [.ref a_pr, .int mki, .long mme, .long mbu, .long mme, .long mnb])), (a_pr, .inr (0, [.ref a_codes, .ref a_lens])), (a_codes, .inl (cI, 20, .inl pc)), (a_lens, .inl (cI, 4, .inl pl))] := hD
  refine lv_aload_n hx hb d_MA_go_8 rfl (lv_at hl 0 rfl) ?_
  refine lv_aload_n hx hb d_MA_go_9 rfl (lv_at hl 0 rfl) ?_
  refine va_get (D := (dC, dI)) (ci := 1) (v := .long mbu) (C := R_MA) (T := T_MA) (N := 6) hx hb hts in_MA hown hK hP 0 rfl rfl 3 (by decide) (hts _ mw_93) (fun _ h9 => h9) rfl d_MA_go_10 ?_
  refine va_put (D := (dC, dI)) (ci := 1) (v := .long mbu) (ty := .long) (C := R_MA) (T := T_MA) (N := 6) hx hb hts in_MA ty_MA tok_MA nm_MA hown hK hP hD hS 0 rfl rfl 5 (by decide) (hts _ mw_97) (fun _ h9 => h9) rfl (by decide +kernel) rfl rfl (Nat.le_of_ble_eq_true rfl) d_MA_go_13 (fun H locs hP hD hS => ?_)
  have hP : va_P (dC, dI) vwCl [(a_ma, .inr (1, [.ref a_pr, .int mki, .long mme, .long mbu, .long mme, .long mbu])), (a_pr, .inr (0, [.ref a_codes, .ref a_lens])), (a_codes, .inl (cI, 20, .inl pc)), (a_lens, .inl (cI, 4, .inl pl))] H := hP
  have hD : va_D A [(a_ma, .inr (1, [.ref a_pr, .int mki, .long mme, .long mbu, .long mme, .long mbu])), (a_pr, .inr (0, [.ref a_codes, .ref a_lens])), (a_codes, .inl (cI, 20, .inl pc)), (a_lens, .inl (cI, 4, .inl pl))] := hD
  refine lv_iload_n hx hb d_MA_go_16 rfl (lv_at hl 1 rfl) ?_
  refine lv_iconst (v := 4) hx hb d_MA_go_17 (by decide) ?_
  refine lv_icmp_ge (tgt := 27) hx hb d_MA_go_18 (by decide) (fun c18 => ?_) (fun c18 => ?_)
  · have h := h.1 c18
    refine lv_aload_n hx hb d_MA_go_27 rfl (lv_at hl 0 rfl) ?_
    refine va_get (D := (dC, dI)) (ci := 1) (v := .int mki) (C := R_MA) (T := T_MA) (N := 6) hx hb hts in_MA hown hK hP 0 rfl rfl 1 (by decide) (hts _ mw_91) (fun _ h9 => h9) rfl d_MA_go_28 ?_
    refine lv_iconst (v := 2) hx hb d_MA_go_31 (by decide) ?_
    refine lv_icmp_eq (tgt := 44) hx hb d_MA_go_32 (by decide) (fun c32 => ?_) (fun c32 => ?_)
    · have h := h.1 c32
      refine lv_iload_n hx hb d_MA_go_44 rfl (lv_at hl 1 rfl) ?_
      refine lv_bipush (v := 8) hx hb d_MA_go_45 (by decide) ?_
      refine lv_isub hx hb d_MA_go_47 ?_
      refine lv_topi (fun x1 ex1 => ?_)
      have h := h x1 ex1
      refine lv_istore_n (lv' := [(2, .int x1), (0, .ref a_ma), (1, .int t0)]) hx hb d_MA_go_48 rfl hl (by decide) rfl (fun ls hl => ?_)
      refine lv_iload_n hx hb d_MA_go_49 rfl (lv_at hl 0 rfl) ?_
      refine lv_if_lt (tgt := 70) hx hb d_MA_go_50 (by decide) (fun c50 => ?_) (fun c50 => ?_)
      · have h := h.1 c50
        refine lv_iconst (v := 0) hx hb d_MA_go_70 (by decide) ?_
        have hP9 := hP
        have hD9 := hD
        exact W.zret (v := 0) hx hb hr rfl (fun t ht hW => ⟨⟨0, (mki, mme, mbu, mme, mbu, pc, pl), rfl, h, by rw [ht]; exact hP9, va_K.moved hW.alike hK, hD9⟩, hS.F ht⟩) hS.2.2 d_MA_go_71
      · have h := h.2 c50
        refine lv_aload_n hx hb d_MA_go_53 rfl (lv_at hl 1 rfl) ?_
        refine lv_iload_n hx hb d_MA_go_54 rfl (lv_at hl 0 rfl) ?_
        refine lv_iconst (v := 4) hx hb d_MA_go_55 (by decide) ?_
        refine lv_idiv hx hb d_MA_go_56 (by decide) ?_
        refine lv_iload_n hx hb d_MA_go_57 rfl (lv_at hl 0 rfl) ?_
        refine lv_iconst (v := 4) hx hb d_MA_go_58 (by decide) ?_
        refine lv_irem hx hb d_MA_go_59 (by decide) ?_
        have hPc := hP.sub (ws' := [(a_ma, .inr (1, [.ref a_pr, .int mki, .long mme, .long mbu, .long mme, .long mbu])), (a_pr, .inr (0, [.ref a_codes, .ref a_lens])), (a_codes, .inl (cI, 20, .inl pc)), (a_lens, .inl (cI, 4, .inl pl))]) [0, 1, 2, 3] rfl
        have hDc := hD.sub (ws' := [(a_ma, .inr (1, [.ref a_pr, .int mki, .long mme, .long mbu, .long mme, .long mbu])), (a_pr, .inr (0, [.ref a_codes, .ref a_lens])), (a_codes, .inl (cI, 20, .inl pc)), (a_lens, .inl (cI, 4, .inl pl))]) [0, 1, 2, 3] (by decide) rfl
        have hFc := va_free (wc := [(a_ma, .inr (1, [.ref a_pr, .int mki, .long mme, .long mbu, .long mme, .long mbu])), (a_pr, .inr (0, [.ref a_codes, .ref a_lens])), (a_codes, .inl (cI, 20, .inl pc)), (a_lens, .inl (cI, 4, .inl pl))]) hD hS hA [0, 1, 2, 3] rfl
        refine va_calli (va_runV (As := [.int (x1 / 4), .int (x1 - x1 / 4 * 4)]) (rest := []) ⟨hx, hb, hml, hown, hts⟩ (c_MA_drain l dC dI cI cJ cZ cQ a_ma a_pr a_codes a_lens H.size mki mme mbu mme mbu pc pl (x1 / 4) (x1 - x1 / 4 * 4) _  h) (cwV 2 hts (goodIn_app (jGl (List.forall_mem_cons.mpr ⟨mw_718, List.forall_mem_cons.mpr ⟨mw_720, List.forall_mem_cons.mpr ⟨ms_MA_drain, List.forall_mem_cons.mpr ⟨mw_5, fun _ h => absurd h List.not_mem_nil⟩⟩⟩⟩)) (jG mw_721)) rfl rfl rfl (by decide +kernel) ⟨Nat.le_of_ble_eq_true rfl, Nat.le_of_ble_eq_true rfl⟩) ⟨jPre_blind, va_recv hK hPc (ci := 1) (q0 := 0) rfl rfl, jPre_in hPc hK hDc hZ hS hFc hst⟩ rfl rfl hl.1 rfl (lv_room (Nat.le_of_ble_eq_true rfl)) d_MA_go_60 ⟨(Nat.zero_le _), (Nat.zero_le _)⟩) hS (fun q _ h => hFc q h) hFc (fun r2 u t H1 locs ht hvm hw hB hz1 hk1 hS => ?_)
        obtain ⟨u3, u4, u5, u6, u7, u8, u9⟩ := u
        obtain ⟨hP1, hK1, hD1⟩ := hB
        rw [ht] at hP1
        have h := hw
        obtain ⟨hP, hD⟩ := va_join (wr := []) (w1 := [(a_ma, .inr (1, [.ref a_pr, .int u3, .long u4, .long u5, .long u6, .long u7])), (a_pr, .inr (0, [.ref a_codes, .ref a_lens])), (a_codes, .inl (cI, 20, .inl u8)), (a_lens, .inl (cI, 4, .inl u9))]) hP hD [0, 1, 2, 3] [] rfl rfl (by decide) (by decide) hk1 hFc hP1 hD1
        generalize H1 = H at hP hS ⊢
        have hP : va_P (dC, dI) vwCl [(a_ma, .inr (1, [.ref a_pr, .int u3, .long u4, .long u5, .long u6, .long u7])), (a_pr, .inr (0, [.ref a_codes, .ref a_lens])), (a_codes, .inl (cI, 20, .inl u8)), (a_lens, .inl (cI, 4, .inl u9))] H := hP
        have hD : va_D A [(a_ma, .inr (1, [.ref a_pr, .int u3, .long u4, .long u5, .long u6, .long u7])), (a_pr, .inr (0, [.ref a_codes, .ref a_lens])), (a_codes, .inl (cI, 20, .inl u8)), (a_lens, .inl (cI, 4, .inl u9))] := hD
        refine lv_if_eq (tgt := 70) hx hb d_MA_go_63 (by decide) (fun c63 => ?_) (fun c63 => ?_)
        · have h := h.1 c63
          refine lv_iconst (v := 0) hx hb d_MA_go_70 (by decide) ?_
          have hP9 := hP
          have hD9 := hD
          exact W.zret (v := 0) hx hb hr rfl (fun t ht hW => ⟨⟨0, (u3, u4, u5, u6, u7, u8, u9), rfl, h, by rw [ht]; exact hP9, va_K.moved hW.alike hK, hD9⟩, hS.F ht⟩) hS.2.2 d_MA_go_71
        · have h := h.2 c63
          refine lv_iconst (v := 1) hx hb d_MA_go_66 (by decide) ?_
          refine lv_goto (tgt := 71) hx hb d_MA_go_67 (by decide) ?_
          have hP9 := hP
          have hD9 := hD
          exact W.zret (v := 1) hx hb hr rfl (fun t ht hW => ⟨⟨1, (u3, u4, u5, u6, u7, u8, u9), rfl, h, by rw [ht]; exact hP9, va_K.moved hW.alike hK, hD9⟩, hS.F ht⟩) hS.2.2 d_MA_go_71
    · have h := h.2 c32
      refine lv_aload_n hx hb d_MA_go_35 rfl (lv_at hl 0 rfl) ?_
      refine lv_iload_n hx hb d_MA_go_36 rfl (lv_at hl 1 rfl) ?_
      refine lv_iconst (v := 4) hx hb d_MA_go_37 (by decide) ?_
      refine lv_isub hx hb d_MA_go_38 ?_
      refine lv_iconst (v := (-1)) hx hb d_MA_go_39 (by decide) ?_
      have hPc := hP.sub (ws' := [(a_ma, .inr (1, [.ref a_pr, .int mki, .long mme, .long mbu, .long mme, .long mbu])), (a_pr, .inr (0, [.ref a_codes, .ref a_lens])), (a_codes, .inl (cI, 20, .inl pc)), (a_lens, .inl (cI, 4, .inl pl))]) [0, 1, 2, 3] rfl
      have hDc := hD.sub (ws' := [(a_ma, .inr (1, [.ref a_pr, .int mki, .long mme, .long mbu, .long mme, .long mbu])), (a_pr, .inr (0, [.ref a_codes, .ref a_lens])), (a_codes, .inl (cI, 20, .inl pc)), (a_lens, .inl (cI, 4, .inl pl))]) [0, 1, 2, 3] (by decide) rfl
      have hFc := va_free (wc := [(a_ma, .inr (1, [.ref a_pr, .int mki, .long mme, .long mbu, .long mme, .long mbu])), (a_pr, .inr (0, [.ref a_codes, .ref a_lens])), (a_codes, .inl (cI, 20, .inl pc)), (a_lens, .inl (cI, 4, .inl pl))]) hD hS hA [0, 1, 2, 3] rfl
      refine va_calli (va_runV (As := [.int (t0 - 4), .int (-1)]) (rest := []) ⟨hx, hb, hml, hown, hts⟩ (c_MA_drain l dC dI cI cJ cZ cQ a_ma a_pr a_codes a_lens H.size mki mme mbu mme mbu pc pl (t0 - 4) (-1) _  h) (cwV 2 hts (goodIn_app (jGl (List.forall_mem_cons.mpr ⟨mw_718, List.forall_mem_cons.mpr ⟨mw_720, List.forall_mem_cons.mpr ⟨ms_MA_drain, List.forall_mem_cons.mpr ⟨mw_5, fun _ h => absurd h List.not_mem_nil⟩⟩⟩⟩)) (jG mw_721)) rfl rfl rfl (by decide +kernel) ⟨Nat.le_of_ble_eq_true rfl, Nat.le_of_ble_eq_true rfl⟩) ⟨jPre_blind, va_recv hK hPc (ci := 1) (q0 := 0) rfl rfl, jPre_in hPc hK hDc hZ hS hFc hst⟩ rfl rfl hl.1 rfl (lv_room (Nat.le_of_ble_eq_true rfl)) d_MA_go_40 ⟨(Nat.zero_le _), (Nat.zero_le _)⟩) hS (fun q _ h => hFc q h) hFc (fun r10 u t H1 locs ht hvm hw hB hz1 hk1 hS => ?_)
      obtain ⟨u11, u12, u13, u14, u15, u16, u17⟩ := u
      obtain ⟨hP1, hK1, hD1⟩ := hB
      rw [ht] at hP1
      have h := hw
      obtain ⟨hP, hD⟩ := va_join (wr := []) (w1 := [(a_ma, .inr (1, [.ref a_pr, .int u11, .long u12, .long u13, .long u14, .long u15])), (a_pr, .inr (0, [.ref a_codes, .ref a_lens])), (a_codes, .inl (cI, 20, .inl u16)), (a_lens, .inl (cI, 4, .inl u17))]) hP hD [0, 1, 2, 3] [] rfl rfl (by decide) (by decide) hk1 hFc hP1 hD1
      generalize H1 = H at hP hS ⊢
      have hP : va_P (dC, dI) vwCl [(a_ma, .inr (1, [.ref a_pr, .int u11, .long u12, .long u13, .long u14, .long u15])), (a_pr, .inr (0, [.ref a_codes, .ref a_lens])), (a_codes, .inl (cI, 20, .inl u16)), (a_lens, .inl (cI, 4, .inl u17))] H := hP
      have hD : va_D A [(a_ma, .inr (1, [.ref a_pr, .int u11, .long u12, .long u13, .long u14, .long u15])), (a_pr, .inr (0, [.ref a_codes, .ref a_lens])), (a_codes, .inl (cI, 20, .inl u16)), (a_lens, .inl (cI, 4, .inl u17))] := hD
      have hz9 := h.1
      have h := h.2
      have hP9 := hP
      have hD9 := hD
      exact W.zret (v := r10) hx hb hr (jZ_n hz9) (fun t ht hW => ⟨⟨r10, (u11, u12, u13, u14, u15, u16, u17), rfl, h, by rw [ht]; exact hP9, va_K.moved hW.alike hK, hD9⟩, hS.F ht⟩) hS.2.2 d_MA_go_43
  · have h := h.2 c18
    refine lv_aload_n hx hb d_MA_go_21 rfl (lv_at hl 0 rfl) ?_
    refine lv_iload_n hx hb d_MA_go_22 rfl (lv_at hl 1 rfl) ?_
    have hPc := hP.sub (ws' := [(a_ma, .inr (1, [.ref a_pr, .int mki, .long mme, .long mbu, .long mme, .long mbu])), (a_pr, .inr (0, [.ref a_codes, .ref a_lens])), (a_codes, .inl (cI, 20, .inl pc)), (a_lens, .inl (cI, 4, .inl pl))]) [0, 1, 2, 3] rfl
    have hDc := hD.sub (ws' := [(a_ma, .inr (1, [.ref a_pr, .int mki, .long mme, .long mbu, .long mme, .long mbu])), (a_pr, .inr (0, [.ref a_codes, .ref a_lens])), (a_codes, .inl (cI, 20, .inl pc)), (a_lens, .inl (cI, 4, .inl pl))]) [0, 1, 2, 3] (by decide) rfl
    have hFc := va_free (wc := [(a_ma, .inr (1, [.ref a_pr, .int mki, .long mme, .long mbu, .long mme, .long mbu])), (a_pr, .inr (0, [.ref a_codes, .ref a_lens])), (a_codes, .inl (cI, 20, .inl pc)), (a_lens, .inl (cI, 4, .inl pl))]) hD hS hA [0, 1, 2, 3] rfl
    refine va_calli (va_runV (As := [.int t0]) (rest := []) ⟨hx, hb, hml, hown, hts⟩ (c_MA_act l dC dI cI cJ cZ cQ a_ma a_pr a_codes a_lens H.size mki mme mbu mme mbu pc pl t0 _  h) (cwV 1 hts (goodIn_app (jGl (List.forall_mem_cons.mpr ⟨mw_682, List.forall_mem_cons.mpr ⟨mw_684, List.forall_mem_cons.mpr ⟨ms_MA_act, List.forall_mem_cons.mpr ⟨mw_5, fun _ h => absurd h List.not_mem_nil⟩⟩⟩⟩)) (jG mw_685)) rfl rfl rfl (by decide +kernel) ⟨Nat.le_of_ble_eq_true rfl, Nat.le_of_ble_eq_true rfl⟩) ⟨jPre_blind, va_recv hK hPc (ci := 1) (q0 := 0) rfl rfl, jPre_in hPc hK hDc hZ hS hFc hst⟩ rfl rfl hl.1 rfl (lv_room (Nat.le_of_ble_eq_true rfl)) d_MA_go_23 ⟨(Nat.zero_le _), (Nat.zero_le _)⟩) hS (fun q _ h => hFc q h) hFc (fun r18 u t H1 locs ht hvm hw hB hz1 hk1 hS => ?_)
    obtain ⟨u19, u20, u21, u22, u23, u24, u25⟩ := u
    obtain ⟨hP1, hK1, hD1⟩ := hB
    rw [ht] at hP1
    have h := hw
    obtain ⟨hP, hD⟩ := va_join (wr := []) (w1 := [(a_ma, .inr (1, [.ref a_pr, .int u19, .long u20, .long u21, .long u22, .long u23])), (a_pr, .inr (0, [.ref a_codes, .ref a_lens])), (a_codes, .inl (cI, 20, .inl u24)), (a_lens, .inl (cI, 4, .inl u25))]) hP hD [0, 1, 2, 3] [] rfl rfl (by decide) (by decide) hk1 hFc hP1 hD1
    generalize H1 = H at hP hS ⊢
    have hP : va_P (dC, dI) vwCl [(a_ma, .inr (1, [.ref a_pr, .int u19, .long u20, .long u21, .long u22, .long u23])), (a_pr, .inr (0, [.ref a_codes, .ref a_lens])), (a_codes, .inl (cI, 20, .inl u24)), (a_lens, .inl (cI, 4, .inl u25))] H := hP
    have hD : va_D A [(a_ma, .inr (1, [.ref a_pr, .int u19, .long u20, .long u21, .long u22, .long u23])), (a_pr, .inr (0, [.ref a_codes, .ref a_lens])), (a_codes, .inl (cI, 20, .inl u24)), (a_lens, .inl (cI, 4, .inl u25))] := hD
    have hz9 := h.1
    have h := h.2
    have hP9 := hP
    have hD9 := hD
    exact W.zret (v := r18) hx hb hr (jZ_n hz9) (fun t ht hW => ⟨⟨r18, (u19, u20, u21, u22, u23, u24, u25), rfl, h, by rw [ht]; exact hP9, va_K.moved hW.alike hK, hD9⟩, hS.F ht⟩) hS.2.2 d_MA_go_26
