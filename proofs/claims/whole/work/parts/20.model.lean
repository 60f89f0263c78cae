/-- what OrderMachinesModel.thrown()I leaves -/
abbrev jQ_MO_thrown (dC : Nat → ClassId) (dI : Nat → Nat → Nat) (cI cJ cZ cQ : ClassId) (A : Nat → Prop) (a_mo b_actions b_what b_where b_number b_done b_register b_memory b_size b_place b_value b_known b_tooMany b_states b_stuck b_outcomes b_front b_behind b_from b_step b_depth b_ends b_endOutcome b_cuts b_soonest b_chain b_next b_row : Nat) (Post : Int32 → Int32 → Prop) : Array Value → State → Outcome → State → Prop := va_Qi (fun (r : Int32) (u : Int32) => Post r u) (fun (u : Int32) (t : State) => match u with
  | th => jPost (dC, dI) (jT cI cJ cZ cQ) A [(a_mo, .inr (6, [.int th, .ref b_actions, .ref b_what, .ref b_where, .ref b_number, .ref b_done, .ref b_register, .ref b_memory, .ref b_size, .ref b_place, .ref b_value, .ref b_known, .ref b_tooMany, .ref b_states, .ref b_stuck, .ref b_outcomes, .ref b_front, .ref b_behind, .ref b_from, .ref b_step, .ref b_depth, .ref b_ends, .ref b_endOutcome, .ref b_cuts, .ref b_soonest, .ref b_chain, .ref b_next, .ref b_row]))] t) A
/-- OrderMachinesModel.thrown()I -/
def wp_MO_thrown (Post : Int32 → Int32 → Prop) (th : Int32) : Prop :=
  Post th th
set_option maxHeartbeats 4000000 in
set_option maxRecDepth 100000 in
theorem c_MO_thrown (l : Launch) (dC : Nat → ClassId) (dI : Nat → Nat → Nat) (cI cJ cZ cQ : ClassId) (a_mo b_actions b_what b_where b_number b_done b_register b_memory b_size b_place b_value b_known b_tooMany b_states b_stuck b_outcomes b_front b_behind b_from b_step b_depth b_ends b_endOutcome b_cuts b_soonest b_chain b_next b_row : Nat) (sz : Nat) (th : Int32) (Post : Int32 → Int32 → Prop) (h : wp_MO_thrown Post th) : Met l y_MO_thrown (.code y_MO_thrown b_MO_thrown 1 (some .int) :: jW) ({ frames := 10, cells := 0, slots := 0, locals := 150 } : Room) (jPre l (dC, dI) cI cJ cZ cQ [(a_mo, .inr (6, [.int th, .ref b_actions, .ref b_what, .ref b_where, .ref b_number, .ref b_done, .ref b_register, .ref b_memory, .ref b_size, .ref b_place, .ref b_value, .ref b_known, .ref b_tooMany, .ref b_states, .ref b_stuck, .ref b_outcomes, .ref b_front, .ref b_behind, .ref b_from, .ref b_step, .ref b_depth, .ref b_ends, .ref b_endOutcome, .ref b_cuts, .ref b_soonest, .ref b_chain, .ref b_next, .ref b_row]))] sz [.ref a_mo]) (jQ_MO_thrown dC dI cI cJ cZ cQ (va_A [(a_mo, .inr (6, [.int th, .ref b_actions, .ref b_what, .ref b_where, .ref b_number, .ref b_done, .ref b_register, .ref b_memory, .ref b_size, .ref b_place, .ref b_value, .ref b_known, .ref b_tooMany, .ref b_states, .ref b_stuck, .ref b_outcomes, .ref b_front, .ref b_behind, .ref b_from, .ref b_step, .ref b_depth, .ref b_ends, .ref b_endOutcome, .ref b_cuts, .ref b_soonest, .ref b_chain, .ref b_next, .ref b_row]))] sz) a_mo b_actions b_what b_where b_number b_done b_register b_memory b_size b_place b_value b_known b_tooMany b_states b_stuck b_outcomes b_front b_behind b_from b_step b_depth b_ends b_endOutcome b_cuts b_soonest b_chain b_next b_row Post) 0 0 (va_A [(a_mo, .inr (6, [.int th, .ref b_actions, .ref b_what, .ref b_where, .ref b_number, .ref b_done, .ref b_register, .ref b_memory, .ref b_size, .ref b_place, .ref b_value, .ref b_known, .ref b_tooMany, .ref b_states, .ref b_stuck, .ref b_outcomes, .ref b_front, .ref b_behind, .ref b_from, .ref b_step, .ref b_depth, .ref b_ends, .ref b_endOutcome, .ref b_cuts, .ref b_soonest, .ref b_chain, .ref b_next, .ref b_row]))] sz) := by
  refine Met.ofW (cc := b_MO_thrown) (maxL := 1) (ret := (some .int)) (by decide) rfl ?_
  intro p e s m args below meth c s₁ B hml hv
  obtain ⟨rfl, hsz, hP, hK, hD0, hZ, hst⟩ := hv
  subst hsz
  have hD := hD0.self (sz := s.heap.size)
  generalize hAe : va_A [(a_mo, .inr (6, [.int th, .ref b_actions, .ref b_what, .ref b_where, .ref b_number, .ref b_done, .ref b_register, .ref b_memory, .ref b_size, .ref b_place, .ref b_value, .ref b_known, .ref b_tooMany, .ref b_states, .ref b_stuck, .ref b_outcomes, .ref b_front, .ref b_behind, .ref b_from, .ref b_step, .ref b_depth, .ref b_ends, .ref b_endOutcome, .ref b_cuts, .ref b_soonest, .ref b_chain, .ref b_next, .ref b_row]))] s.heap.size = A at hD hZ ⊢
  have hA : ∀ q : Nat, s.heap.size ≤ q → A q := fun q h => by rw [← hAe]; exact Or.inr h
  have C0 : jC p l s m ([.ref a_mo] : List Value).toArray meth c b_MO_thrown (some .int) 1 R_MO (dC, dI) cI cJ cZ cQ A := ⟨B.exec, B.bytes, B.returns, hml, findClass_of_methodNamed B.named, fun w hw => atoms_spec (ws := (.code y_MO_thrown b_MO_thrown 1 (some .int) :: jW)) B.pre w (List.mem_cons_of_mem _ hw), B.notSynchronized, hK, hZ, hA, hst⟩
  obtain ⟨hx, hb, hr, hml, hown, hts, hlocks, hK, hZ, hA, hst⟩ := id C0
  have hS : va_S A s.heap s.heap [] := va_S.rf
  have hl := lv_entry ([.ref a_mo]) (n := 1) (Nat.le_of_ble_eq_true rfl)
  rw [lg_entry_eq]
  generalize (lg_sl ([.ref a_mo]) ++ List.replicate (1 - (lg_sl ([.ref a_mo])).length) Slot.unset).toArray = ls at hl ⊢
  have hl : lv_has ls 1 [(0, .ref a_mo)] := hl
  obtain ⟨H, hH⟩ : ∃ H : Heap, H = s.heap := ⟨_, rfl⟩
  obtain ⟨locs, hlc⟩ : ∃ L : List Loc, L = [] := ⟨_, rfl⟩
  have hP : va_P (dC, dI) vwCl [(a_mo, .inr (6, [.int th, .ref b_actions, .ref b_what, .ref b_where, .ref b_number, .ref b_done, .ref b_register, .ref b_memory, .ref b_size, .ref b_place, .ref b_value, .ref b_known, .ref b_tooMany, .ref b_states, .ref b_stuck, .ref b_outcomes, .ref b_front, .ref b_behind, .ref b_from, .ref b_step, .ref b_depth, .ref b_ends, .ref b_endOutcome, .ref b_cuts, .ref b_soonest, .ref b_chain, .ref b_next, .ref b_row]))] H := by rw [hH]; exact hP
  have hS : va_S A s.heap H locs := by rw [hH, hlc]; exact hS
  suffices hW9 : W p l e ({ frames := 10, cells := 0, slots := 0, locals := 150 } : Room) s m ([.ref a_mo] : List Value).toArray below meth c H locs 0 0 (MQ below (jQ_MO_thrown dC dI cI cJ cZ cQ A a_mo b_actions b_what b_where b_number b_done b_register b_memory b_size b_place b_value b_known b_tooMany b_states b_stuck b_outcomes b_front b_behind b_from b_step b_depth b_ends b_endOutcome b_cuts b_soonest b_chain b_next b_row Post) ([.ref a_mo] : List Value).toArray s 0 0 A) (F0 m 0 ls []) by rw [hH, hlc] at hW9; exact hW9
  clear hH hlc
  rw [wp_MO_thrown] at h
  refine lv_aload_n hx hb d_MO_thrown_0 rfl (lv_at hl 0 rfl) ?_
  refine va_get (D := (dC, dI)) (ci := 6) (v := .int th) (C := R_MO) (T := T_MO) (N := 28) hx hb hts in_MO hown hK hP 0 rfl rfl 0 (by decide) (hts _ mw_863) (fun _ h9 => h9) rfl d_MO_thrown_1 ?_
  have hP9 := hP
  have hD9 := hD
  exact W.iret (v := th) hx hb hr (fun t ht hW => ⟨⟨th, th, rfl, h, by rw [ht]; exact hP9, va_K.moved hW.alike hK, hD9⟩, hS.F ht⟩) hS.2.2 d_MO_thrown_4

/-- what OrderMachinesModel.fail(I)I leaves -/
abbrev jQ_MO_fail (dC : Nat → ClassId) (dI : Nat → Nat → Nat) (cI cJ cZ cQ : ClassId) (A : Nat → Prop) (a_mo b_actions b_what b_where b_number b_done b_register b_memory b_size b_place b_value b_known b_tooMany b_states b_stuck b_outcomes b_front b_behind b_from b_step b_depth b_ends b_endOutcome b_cuts b_soonest b_chain b_next b_row : Nat) (Post : Int32 → Int32 → Prop) : Array Value → State → Outcome → State → Prop := va_Qi (fun (r : Int32) (u : Int32) => Post r u) (fun (u : Int32) (t : State) => match u with
  | th => jPost (dC, dI) (jT cI cJ cZ cQ) A [(a_mo, .inr (6, [.int th, .ref b_actions, .ref b_what, .ref b_where, .ref b_number, .ref b_done, .ref b_register, .ref b_memory, .ref b_size, .ref b_place, .ref b_value, .ref b_known, .ref b_tooMany, .ref b_states, .ref b_stuck, .ref b_outcomes, .ref b_front, .ref b_behind, .ref b_from, .ref b_step, .ref b_depth, .ref b_ends, .ref b_endOutcome, .ref b_cuts, .ref b_soonest, .ref b_chain, .ref b_next, .ref b_row]))] t) A
/-- OrderMachinesModel.fail(I)I -/
def wp_MO_fail (Post : Int32 → Int32 → Prop) (th a1 : Int32) : Prop :=
  Post 0 a1
set_option maxHeartbeats 4000000 in
set_option maxRecDepth 100000 in
theorem c_MO_fail (l : Launch) (dC : Nat → ClassId) (dI : Nat → Nat → Nat) (cI cJ cZ cQ : ClassId) (a_mo b_actions b_what b_where b_number b_done b_register b_memory b_size b_place b_value b_known b_tooMany b_states b_stuck b_outcomes b_front b_behind b_from b_step b_depth b_ends b_endOutcome b_cuts b_soonest b_chain b_next b_row : Nat) (sz : Nat) (th a1 : Int32) (Post : Int32 → Int32 → Prop) (h : wp_MO_fail Post th a1) : Met l y_MO_fail (.code y_MO_fail b_MO_fail 2 (some .int) :: jW) ({ frames := 10, cells := 0, slots := 0, locals := 150 } : Room) (jPre l (dC, dI) cI cJ cZ cQ [(a_mo, .inr (6, [.int th, .ref b_actions, .ref b_what, .ref b_where, .ref b_number, .ref b_done, .ref b_register, .ref b_memory, .ref b_size, .ref b_place, .ref b_value, .ref b_known, .ref b_tooMany, .ref b_states, .ref b_stuck, .ref b_outcomes, .ref b_front, .ref b_behind, .ref b_from, .ref b_step, .ref b_depth, .ref b_ends, .ref b_endOutcome, .ref b_cuts, .ref b_soonest, .ref b_chain, .ref b_next, .ref b_row]))] sz [.ref a_mo, .int a1]) (jQ_MO_fail dC dI cI cJ cZ cQ (va_A [(a_mo, .inr (6, [.int th, .ref b_actions, .ref b_what, .ref b_where, .ref b_number, .ref b_done, .ref b_register, .ref b_memory, .ref b_size, .ref b_place, .ref b_value, .ref b_known, .ref b_tooMany, .ref b_states, .ref b_stuck, .ref b_outcomes, .ref b_front, .ref b_behind, .ref b_from, .ref b_step, .ref b_depth, .ref b_ends, .ref b_endOutcome, .ref b_cuts, .ref b_soonest, .ref b_chain, .ref b_next, .ref b_row]))] sz) a_mo b_actions b_what b_where b_number b_done b_register b_memory b_size b_place b_value b_known b_tooMany b_states b_stuck b_outcomes b_front b_behind b_from b_step b_depth b_ends b_endOutcome b_cuts b_soonest b_chain b_next b_row Post) 0 0 (va_A [(a_mo, .inr (6, [.int th, .ref b_actions, .ref b_what, .ref b_where, .ref b_number, .ref b_done, .ref b_register, .ref b_memory, .ref b_size, .ref b_place, .ref b_value, .ref b_known, .ref b_tooMany, .ref b_states, .ref b_stuck, .ref b_outcomes, .ref b_front, .ref b_behind, .ref b_from, .ref b_step, .ref b_depth, .ref b_ends, .ref b_endOutcome, .ref b_cuts, .ref b_soonest, .ref b_chain, .ref b_next, .ref b_row]))] sz) := by
  refine Met.ofW (cc := b_MO_fail) (maxL := 2) (ret := (some .int)) (by decide) rfl ?_
  intro p e s m args below meth c s₁ B hml hv
  obtain ⟨rfl, hsz, hP, hK, hD0, hZ, hst⟩ := hv
  subst hsz
  have hD := hD0.self (sz := s.heap.size)
  generalize hAe : va_A [(a_mo, .inr (6, [.int th, .ref b_actions, .ref b_what, .ref b_where, .ref b_number, .ref b_done, .ref b_register, .ref b_memory, .ref b_size, .ref b_place, .ref b_value, .ref b_known, .ref b_tooMany, .ref b_states, .ref b_stuck, .ref b_outcomes, .ref b_front, .ref b_behind, .ref b_from, .ref b_step, .ref b_depth, .ref b_ends, .ref b_endOutcome, .ref b_cuts, .ref b_soonest, .ref b_chain, .ref b_next, .ref b_row]))] s.heap.size = A at hD hZ ⊢
  have hA : ∀ q : Nat, s.heap.size ≤ q → A q := fun q h => by rw [← hAe]; exact Or.inr h
  have C0 : jC p l s m ([.ref a_mo, .int a1] : List Value).toArray meth c b_MO_fail (some .int) 2 R_MO (dC, dI) cI cJ cZ cQ A := ⟨B.exec, B.bytes, B.returns, hml, findClass_of_methodNamed B.named, fun w hw => atoms_spec (ws := (.code y_MO_fail b_MO_fail 2 (some .int) :: jW)) B.pre w (List.mem_cons_of_mem _ hw), B.notSynchronized, hK, hZ, hA, hst⟩
  obtain ⟨hx, hb, hr, hml, hown, hts, hlocks, hK, hZ, hA, hst⟩ := id C0
  have hS : va_S A s.heap s.heap [] := va_S.rf
  have hl := lv_entry ([.ref a_mo, .int a1]) (n := 2) (Nat.le_of_ble_eq_true rfl)
  rw [lg_entry_eq]
  generalize (lg_sl ([.ref a_mo, .int a1]) ++ List.replicate (2 - (lg_sl ([.ref a_mo, .int a1])).length) Slot.unset).toArray = ls at hl ⊢
  have hl : lv_has ls 2 [(0, .ref a_mo), (1, .int a1)] := hl
  obtain ⟨H, hH⟩ : ∃ H : Heap, H = s.heap := ⟨_, rfl⟩
  obtain ⟨locs, hlc⟩ : ∃ L : List Loc, L = [] := ⟨_, rfl⟩
  have hP : va_P (dC, dI) vwCl [(a_mo, .inr (6, [.int th, .ref b_actions, .ref b_what, .ref b_where, .ref b_number, .ref b_done, .ref b_register, .ref b_memory, .ref b_size, .ref b_place, .ref b_value, .ref b_known, .ref b_tooMany, .ref b_states, .ref b_stuck, .ref b_outcomes, .ref b_front, .ref b_behind, .ref b_from, .ref b_step, .ref b_depth, .ref b_ends, .ref b_endOutcome, .ref b_cuts, .ref b_soonest, .ref b_chain, .ref b_next, .ref b_row]))] H := by rw [hH]; exact hP
  have hS : va_S A s.heap H locs := by rw [hH, hlc]; exact hS
  suffices hW9 : W p l e ({ frames := 10, cells := 0, slots := 0, locals := 150 } : Room) s m ([.ref a_mo, .int a1] : List Value).toArray below meth c H locs 0 0 (MQ below (jQ_MO_fail dC dI cI cJ cZ cQ A a_mo b_actions b_what b_where b_number b_done b_register b_memory b_size b_place b_value b_known b_tooMany b_states b_stuck b_outcomes b_front b_behind b_from b_step b_depth b_ends b_endOutcome b_cuts b_soonest b_chain b_next b_row Post) ([.ref a_mo, .int a1] : List Value).toArray s 0 0 A) (F0 m 0 ls []) by rw [hH, hlc] at hW9; exact hW9
  clear hH hlc
  rw [wp_MO_fail] at h
  refine lv_aload_n hx hb d_MO_fail_0 rfl (lv_at hl 0 rfl) ?_
  refine lv_iload_n hx hb d_MO_fail_1 rfl (lv_at hl 1 rfl) ?_
  refine va_put (D := (dC, dI)) (ci := 6) (v := .int a1) (ty := .int) (C := R_MO) (T := T_MO) (N := 28) hx hb hts in_MO ty_MO tok_MO nm_MO hown hK hP hD hS 0 rfl rfl 0 (by decide) (hts _ mw_863) (fun _ h9 => h9) rfl (by decide +kernel) rfl rfl (Nat.le_of_ble_eq_true rfl) d_MO_fail_2 (fun H locs hP hD hS => ?_)
  have hP : va_P (dC, dI) vwCl [(a_mo, .inr (6, [.int a1, .ref b_actions, .ref b_what, .ref b_where, .ref b_number, .ref b_done, .ref b_register, .ref b_memory, .ref b_size, .ref b_place, .ref b_value, .ref b_known, .ref b_tooMany, .ref b_states, .ref b_stuck, .ref b_outcomes, .ref b_front, .ref b_behind, .ref b_from, .ref b_step, .ref b_depth, .ref b_ends, .ref b_endOutcome, .ref b_cuts, .ref b_soonest, .ref b_chain, .ref b_next, .ref b_row]))] H := hP
  have hD : va_D A [(a_mo, .inr (6, [.int a1, .ref b_actions, .ref b_what, .ref b_where, .ref b_number, .ref b_done, .ref b_register, .ref b_memory, .ref b_size, .ref b_place, .ref b_value, .ref b_known, .ref b_tooMany, .ref b_states, .ref b_stuck, .ref b_outcomes, .ref b_front, .ref b_behind, .ref b_from, .ref b_step, .ref b_depth, .ref b_ends, .ref b_endOutcome, .ref b_cuts, .ref b_soonest, .ref b_chain, .ref b_next, .ref b_row]))] := hD
  refine lv_iconst (v := 0) hx hb d_MO_fail_5 (by decide) ?_
  have hP9 := hP
  have hD9 := hD
  exact W.iret (v := 0) hx hb hr (fun t ht hW => ⟨⟨0, a1, rfl, h, by rw [ht]; exact hP9, va_K.moved hW.alike hK, hD9⟩, hS.F ht⟩) hS.2.2 d_MO_fail_6

/-- what OrderMachinesModel.within(III)Z leaves -/
abbrev jQ_MO_within (dC : Nat → ClassId) (dI : Nat → Nat → Nat) (cI cJ cZ cQ : ClassId) (A : Nat → Prop) (Post : Int32 → Prop) : Array Value → State → Outcome → State → Prop := va_Qi (fun (r : Int32) (u : Unit) => Post r) (fun (u : Unit) (t : State) => match u with
  | _ => jPost (dC, dI) (jT cI cJ cZ cQ) A [] t) A
/-- OrderMachinesModel.within(III)Z -/
def wp_MO_within (Post : Int32 → Prop) (a1 a2 a3 : Int32) : Prop :=
  ((a1 < a2 → Post 0) ∧
  (¬ a1 < a2 → ((a3 < a1 → Post 0) ∧
    (¬ a3 < a1 → Post 1))))
set_option maxHeartbeats 4000000 in
set_option maxRecDepth 100000 in
theorem c_MO_within (l : Launch) (dC : Nat → ClassId) (dI : Nat → Nat → Nat) (cI cJ cZ cQ : ClassId)  (sz : Nat) (a1 a2 a3 : Int32) (Post : Int32 → Prop) (h : wp_MO_within Post a1 a2 a3) : Met l y_MO_within (.code y_MO_within b_MO_within 3 (some .boolean) :: jW) ({ frames := 10, cells := 0, slots := 0, locals := 150 } : Room) (jPre l (dC, dI) cI cJ cZ cQ [] sz [.int a1, .int a2, .int a3]) (jQ_MO_within dC dI cI cJ cZ cQ (va_A [] sz)  Post) 0 0 (va_A [] sz) := by
  refine Met.ofW (cc := b_MO_within) (maxL := 3) (ret := (some .boolean)) (by decide) rfl ?_
  intro p e s m args below meth c s₁ B hml hv
  obtain ⟨rfl, hsz, hP, hK, hD0, hZ, hst⟩ := hv
  subst hsz
  have hD := hD0.self (sz := s.heap.size)
  generalize hAe : va_A [] s.heap.size = A at hD hZ ⊢
  have hA : ∀ q : Nat, s.heap.size ≤ q → A q := fun q h => by rw [← hAe]; exact Or.inr h
  have C0 : jC p l s m ([.int a1, .int a2, .int a3] : List Value).toArray meth c b_MO_within (some .boolean) 3 R_MO (dC, dI) cI cJ cZ cQ A := ⟨B.exec, B.bytes, B.returns, hml, findClass_of_methodNamed B.named, fun w hw => atoms_spec (ws := (.code y_MO_within b_MO_within 3 (some .boolean) :: jW)) B.pre w (List.mem_cons_of_mem _ hw), B.notSynchronized, hK, hZ, hA, hst⟩
  obtain ⟨hx, hb, hr, hml, hown, hts, hlocks, hK, hZ, hA, hst⟩ := id C0
  have hS : va_S A s.heap s.heap [] := va_S.rf
  have hl := lv_entry ([.int a1, .int a2, .int a3]) (n := 3) (Nat.le_of_ble_eq_true rfl)
  rw [lg_entry_eq]
  generalize (lg_sl ([.int a1, .int a2, .int a3]) ++ List.replicate (3 - (lg_sl ([.int a1, .int a2, .int a3])).length) Slot.unset).toArray = ls at hl ⊢
  have hl : lv_has ls 3 [(0, .int a1), (1, .int a2), (2, .int a3)] := hl
  obtain ⟨H, hH⟩ : ∃ H : Heap, H = s.heap := ⟨_, rfl⟩
  obtain ⟨locs, hlc⟩ : ∃ L : List Loc, L = [] := ⟨_, rfl⟩
  have hP : va_P (dC, dI) vwCl [] H := by rw [hH]; exact hP
  have hS : va_S A s.heap H locs := by rw [hH, hlc]; exact hS
  suffices hW9 : W p l e ({ frames := 10, cells := 0, slots := 0, locals := 150 } : Room) s m ([.int a1, .int a2, .int a3] : List Value).toArray below meth c H locs 0 0 (MQ below (jQ_MO_within dC dI cI cJ cZ cQ A  Post) ([.int a1, .int a2, .int a3] : List Value).toArray s 0 0 A) (F0 m 0 ls []) by rw [hH, hlc] at hW9; exact hW9
  clear hH hlc
  rw [wp_MO_within] at h
  refine lv_iload_n hx hb d_MO_within_0 rfl (lv_at hl 0 rfl) ?_
  refine lv_iload_n hx hb d_MO_within_1 rfl (lv_at hl 1 rfl) ?_
  refine lv_icmp_lt (tgt := 14) hx hb d_MO_within_2 (by decide) (fun c2 => ?_) (fun c2 => ?_)
  · have h := h.1 c2
    refine lv_iconst (v := 0) hx hb d_MO_within_14 (by decide) ?_
    have hP9 := hP
    have hD9 := hD
    exact W.zret (v := 0) hx hb hr rfl (fun t ht hW => ⟨⟨0, (), rfl, h, by rw [ht]; exact hP9, va_K.moved hW.alike hK, hD9⟩, hS.F ht⟩) hS.2.2 d_MO_within_15
  · have h := h.2 c2
    refine lv_iload_n hx hb d_MO_within_5 rfl (lv_at hl 0 rfl) ?_
    refine lv_iload_n hx hb d_MO_within_6 rfl (lv_at hl 2 rfl) ?_
    refine lv_icmp_gt (tgt := 14) hx hb d_MO_within_7 (by decide) (fun c7 => ?_) (fun c7 => ?_)
    · have h := h.1 c7
      refine lv_iconst (v := 0) hx hb d_MO_within_14 (by decide) ?_
      have hP9 := hP
      have hD9 := hD
      exact W.zret (v := 0) hx hb hr rfl (fun t ht hW => ⟨⟨0, (), rfl, h, by rw [ht]; exact hP9, va_K.moved hW.alike hK, hD9⟩, hS.F ht⟩) hS.2.2 d_MO_within_15
    · have h := h.2 c7
      refine lv_iconst (v := 1) hx hb d_MO_within_10 (by decide) ?_
      refine lv_goto (tgt := 15) hx hb d_MO_within_11 (by decide) ?_
      have hP9 := hP
      have hD9 := hD
      exact W.zret (v := 1) hx hb hr rfl (fun t ht hW => ⟨⟨1, (), rfl, h, by rw [ht]; exact hP9, va_K.moved hW.alike hK, hD9⟩, hS.F ht⟩) hS.2.2 d_MO_within_15

/-- what OrderMachinesModel.forget()V leaves -/
abbrev jQ_MO_forget (dC : Nat → ClassId) (dI : Nat → Nat → Nat) (cI cJ cZ cQ : ClassId) (A : Nat → Prop) (a_mo a_gknown b_actions b_what b_where b_number b_done b_register b_memory b_size b_place b_value b_tooMany b_states b_stuck b_outcomes b_front b_behind b_from b_step b_depth b_ends b_endOutcome b_cuts b_soonest b_chain b_next b_row : Nat) (Post : Int32 → (Nat → Int32) → Prop) : Array Value → State → Outcome → State → Prop := va_Qv (fun (u : Int32 × (Nat → Int32)) => Post u.1 u.2) (fun (u : Int32 × (Nat → Int32)) (t : State) => match u with
  | (th, hknown) => jPost (dC, dI) (jT cI cJ cZ cQ) A [(a_mo, .inr (6, [.int th, .ref b_actions, .ref b_what, .ref b_where, .ref b_number, .ref b_done, .ref b_register, .ref b_memory, .ref b_size, .ref b_place, .ref b_value, .ref a_gknown, .ref b_tooMany, .ref b_states, .ref b_stuck, .ref b_outcomes, .ref b_front, .ref b_behind, .ref b_from, .ref b_step, .ref b_depth, .ref b_ends, .ref b_endOutcome, .ref b_cuts, .ref b_soonest, .ref b_chain, .ref b_next, .ref b_row])), (a_gknown, .inl (cZ, 4, .inl hknown))] t) A
def wp_MO_forget_2 (Post : Int32 → (Nat → Int32) → Prop)  : Nat → Int32 → (Nat → Int32) → Int32 → Prop
  | 0, _, _, _ => False
  | n_2 + 1, th, hknown, L1 =>
    ((4 ≤ L1 → Post th hknown) ∧
    (¬ 4 ≤ L1 → vp_in L1 4 ∧ ∀ f1 : Nat → Int32, f1 = upd hknown L1.toNatClampNeg (vp_nar .boolean 0) → ∀ x2 : Int32, x2 = L1 + 1 → (wp_MO_forget_2 Post n_2) th f1 x2))
/-- OrderMachinesModel.forget()V -/
def wp_MO_forget (Post : Int32 → (Nat → Int32) → Prop) (th : Int32) (hknown : Nat → Int32) : Prop :=
  (∃ n_2 : Nat, wp_MO_forget_2 Post n_2 th hknown 0)
set_option maxHeartbeats 4000000 in
set_option maxRecDepth 100000 in
theorem l_MO_forget_2 {p : Program} {l : Launch} {e : Env} {s : State} {m : MethodId} {args : Array Value} {below : List Frame} {meth : Method} {c : Code} {dC : Nat → ClassId} {dI : Nat → Nat → Nat} {cI cJ cZ cQ : ClassId} {a_mo a_gknown b_actions b_what b_where b_number b_done b_register b_memory b_size b_place b_value b_tooMany b_states b_stuck b_outcomes b_front b_behind b_from b_step b_depth b_ends b_endOutcome b_cuts b_soonest b_chain b_next b_row : Nat} {A : Nat → Prop} {Post : Int32 → (Nat → Int32) → Prop} (C0 : jC p l s m args meth c b_MO_forget none 2 R_MO (dC, dI) cI cJ cZ cQ A)  : ∀ n9 : Nat, ∀ (th : Int32) (hknown : Nat → Int32) (L1 : Int32), ∀ (H : Heap) (locs : List Loc) (ls : Array Slot), wp_MO_forget_2 Post  n9 th hknown L1 → va_P (dC, dI) vwCl [(a_mo, .inr (6, [.int th, .ref b_actions, .ref b_what, .ref b_where, .ref b_number, .ref b_done, .ref b_register, .ref b_memory, .ref b_size, .ref b_place, .ref b_value, .ref a_gknown, .ref b_tooMany, .ref b_states, .ref b_stuck, .ref b_outcomes, .ref b_front, .ref b_behind, .ref b_from, .ref b_step, .ref b_depth, .ref b_ends, .ref b_endOutcome, .ref b_cuts, .ref b_soonest, .ref b_chain, .ref b_next, .ref b_row])), (a_gknown, .inl (cZ, 4, .inl hknown))] H → va_D A [(a_mo, .inr (6, [.int th, .ref b_actions, .ref b_what, .ref b_where, .ref b_number, .ref b_done, .ref b_register, .ref b_memory, .ref b_size, .ref b_place, .ref b_value, .ref a_gknown, .ref b_tooMany, .ref b_states, .ref b_stuck, .ref b_outcomes, .ref b_front, .ref b_behind, .ref b_from, .ref b_step, .ref b_depth, .ref b_ends, .ref b_endOutcome, .ref b_cuts, .ref b_soonest, .ref b_chain, .ref b_next, .ref b_row])), (a_gknown, .inl (cZ, 4, .inl hknown))] → va_S A s.heap H locs → lv_has ls 2 [(0, .ref a_mo), (1, .int L1)] → W p l e ({ frames := 10, cells := 0, slots := 0, locals := 150 } : Room) s m args below meth c H locs 0 0 (MQ below (jQ_MO_forget dC dI cI cJ cZ cQ A a_mo a_gknown b_actions b_what b_where b_number b_done b_register b_memory b_size b_place b_value b_tooMany b_states b_stuck b_outcomes b_front b_behind b_from b_step b_depth b_ends b_endOutcome b_cuts b_soonest b_chain b_next b_row Post) args s 0 0 A) (F0 m 2 ls []) := by
  obtain ⟨hx, hb, hr, hml, hown, hts, hlocks, hK, hZ, hA, hst⟩ := id C0
  intro n9
  induction n9 with
  | zero =>
    intro th hknown L1 H locs ls h hP hD hS hl
    exact False.elim h
  | succ n_2 ih =>
    intro th hknown L1 H locs ls h hP hD hS hl
    rw [wp_MO_forget_2] at h
    refine lv_iload_n hx hb d_MO_forget_2 rfl (lv_at hl 1 rfl) ?_
    refine lv_iconst (v := 4) hx hb d_MO_forget_3 (by decide) ?_
    refine lv_icmp_ge (tgt := 20) hx hb d_MO_forget_4 (by decide) (fun c4 => ?_) (fun c4 => ?_)
    · have h := h.1 c4
      have hP9 := hP
      have hD9 := hD
      exact W.vret hx hb hr (fun t ht hW => ⟨⟨(th, hknown), rfl, h, by rw [ht]; exact hP9, va_K.moved hW.alike hK, hD9⟩, hS.F ht⟩) hS.2.2 d_MO_forget_20
    · have h := h.2 c4
      refine lv_aload_n hx hb d_MO_forget_7 rfl (lv_at hl 0 rfl) ?_
      refine va_get (D := (dC, dI)) (ci := 6) (v := .ref a_gknown) (C := R_MO) (T := T_MO) (N := 28) hx hb hts in_MO hown hK hP 0 rfl rfl 11 (by decide) (hts _ mw_874) (fun _ h9 => h9) rfl d_MO_forget_8 ?_
      refine lv_iload_n hx hb d_MO_forget_11 rfl (lv_at hl 1 rfl) ?_
      refine lv_iconst (v := 0) hx hb d_MO_forget_12 (by decide) ?_
      refine va_zast hx hb hK hP hD hS 1 2 rfl rfl h.1 d_MO_forget_13 (fun H locs hP hD hS => ?_)
      have h := h.2
      obtain ⟨f1, ef1⟩ : ∃ y : Nat → Int32, y = upd hknown L1.toNatClampNeg (vp_nar .boolean 0) := ⟨_, rfl⟩
      rw [← ef1] at hP hD
      have h := h f1 ef1
      have hP : va_P (dC, dI) vwCl [(a_mo, .inr (6, [.int th, .ref b_actions, .ref b_what, .ref b_where, .ref b_number, .ref b_done, .ref b_register, .ref b_memory, .ref b_size, .ref b_place, .ref b_value, .ref a_gknown, .ref b_tooMany, .ref b_states, .ref b_stuck, .ref b_outcomes, .ref b_front, .ref b_behind, .ref b_from, .ref b_step, .ref b_depth, .ref b_ends, .ref b_endOutcome, .ref b_cuts, .ref b_soonest, .ref b_chain, .ref b_next, .ref b_row])), (a_gknown, .inl (cZ, 4, .inl f1))] H := hP
      have hD : va_D A [(a_mo, .inr (6, [.int th, .ref b_actions, .ref b_what, .ref b_where, .ref b_number, .ref b_done, .ref b_register, .ref b_memory, .ref b_size, .ref b_place, .ref b_value, .ref a_gknown, .ref b_tooMany, .ref b_states, .ref b_stuck, .ref b_outcomes, .ref b_front, .ref b_behind, .ref b_from, .ref b_step, .ref b_depth, .ref b_ends, .ref b_endOutcome, .ref b_cuts, .ref b_soonest, .ref b_chain, .ref b_next, .ref b_row])), (a_gknown, .inl (cZ, 4, .inl f1))] := hD
      obtain ⟨x2, ex2⟩ : ∃ y : Int32, y = L1 + 1 := ⟨_, rfl⟩
      have h := h x2 ex2
      refine lv_iinc (v := x2) (lv' := [(1, .int x2), (0, .ref a_mo)]) hx hb d_MO_forget_14 hl (k := 1) rfl (by rw [ex2]; rfl) (by decide) rfl (fun ls hl => ?_)
      refine lv_goto (tgt := 2) hx hb d_MO_forget_17 (by decide) ?_
      exact ih th f1 x2  H locs ls h hP hD hS (lv_sub hl [1, 0] rfl)
set_option maxHeartbeats 4000000 in
set_option maxRecDepth 100000 in
theorem c_MO_forget (l : Launch) (dC : Nat → ClassId) (dI : Nat → Nat → Nat) (cI cJ cZ cQ : ClassId) (a_mo a_gknown b_actions b_what b_where b_number b_done b_register b_memory b_size b_place b_value b_tooMany b_states b_stuck b_outcomes b_front b_behind b_from b_step b_depth b_ends b_endOutcome b_cuts b_soonest b_chain b_next b_row : Nat) (sz : Nat) (th : Int32) (hknown : Nat → Int32) (Post : Int32 → (Nat → Int32) → Prop) (h : wp_MO_forget Post th hknown) : Met l y_MO_forget (.code y_MO_forget b_MO_forget 2 none :: jW) ({ frames := 10, cells := 0, slots := 0, locals := 150 } : Room) (jPre l (dC, dI) cI cJ cZ cQ [(a_mo, .inr (6, [.int th, .ref b_actions, .ref b_what, .ref b_where, .ref b_number, .ref b_done, .ref b_register, .ref b_memory, .ref b_size, .ref b_place, .ref b_value, .ref a_gknown, .ref b_tooMany, .ref b_states, .ref b_stuck, .ref b_outcomes, .ref b_front, .ref b_behind, .ref b_from, .ref b_step, .ref b_depth, .ref b_ends, .ref b_endOutcome, .ref b_cuts, .ref b_soonest, .ref b_chain, .ref b_next, .ref b_row])), (a_gknown, .inl (cZ, 4, .inl hknown))] sz [.ref a_mo]) (jQ_MO_forget dC dI cI cJ cZ cQ (va_A [(a_mo, .inr (6, [.int th, .ref b_actions, .ref b_what, .ref b_where, .ref b_number, .ref b_done, .ref b_register, .ref b_memory, .ref b_size, .ref b_place, .ref b_value, .ref a_gknown, .ref b_tooMany, .ref b_states, .ref b_stuck, .ref b_outcomes, .ref b_front, .ref b_behind, .ref b_from, .ref b_step, .ref b_depth, .ref b_ends, .ref b_endOutcome, .ref b_cuts, .ref b_soonest, .ref b_chain, .ref b_next, .ref b_row])), (a_gknown, .inl (cZ, 4, .inl hknown))] sz) a_mo a_gknown b_actions b_what b_where b_number b_done b_register b_memory b_size b_place b_value b_tooMany b_states b_stuck b_outcomes b_front b_behind b_from b_step b_depth b_ends b_endOutcome b_cuts b_soonest b_chain b_next b_row Post) 0 0 (va_A [(a_mo, .inr (6, [.int th, .ref b_actions, .ref b_what, .ref b_where, .ref b_number, .ref b_done, .ref b_register, .ref b_memory, .ref b_size, .ref b_place, .ref b_value, .ref a_gknown, .ref b_tooMany, .ref b_states, .ref b_stuck, .ref b_outcomes, .ref b_front, .ref b_behind, .ref b_from, .ref b_step, .ref b_depth, .ref b_ends, .ref b_endOutcome, .ref b_cuts, .ref b_soonest, .ref b_chain, .ref b_next, .ref b_row])), (a_gknown, .inl (cZ, 4, .inl hknown))] sz) := by
  refine Met.ofW (cc := b_MO_forget) (maxL := 2) (ret := none) (by decide) rfl ?_
  intro p e s m args below meth c s₁ B hml hv
  obtain ⟨rfl, hsz, hP, hK, hD0, hZ, hst⟩ := hv
  subst hsz
  have hD := hD0.self (sz := s.heap.size)
  generalize hAe : va_A [(a_mo, .inr (6, [.int th, .ref b_actions, .ref b_what, .ref b_where, .ref b_number, .ref b_done, .ref b_register, .ref b_memory, .ref b_size, .ref b_place, .ref b_value, .ref a_gknown, .ref b_tooMany, .ref b_states, .ref b_stuck, .ref b_outcomes, .ref b_front, .ref b_behind, .ref b_from, .ref b_step, .ref b_depth, .ref b_ends, .ref b_endOutcome, .ref b_cuts, .ref b_soonest, .ref b_chain, .ref b_next, .ref b_row])), (a_gknown, .inl (cZ, 4, .inl hknown))] s.heap.size = A at hD hZ ⊢
  have hA : ∀ q : Nat, s.heap.size ≤ q → A q := fun q h => by rw [← hAe]; exact Or.inr h
  have C0 : jC p l s m ([.ref a_mo] : List Value).toArray meth c b_MO_forget none 2 R_MO (dC, dI) cI cJ cZ cQ A := ⟨B.exec, B.bytes, B.returns, hml, findClass_of_methodNamed B.named, fun w hw => atoms_spec (ws := (.code y_MO_forget b_MO_forget 2 none :: jW)) B.pre w (List.mem_cons_of_mem _ hw), B.notSynchronized, hK, hZ, hA, hst⟩
  obtain ⟨hx, hb, hr, hml, hown, hts, hlocks, hK, hZ, hA, hst⟩ := id C0
  have hS : va_S A s.heap s.heap [] := va_S.rf
  have hl := lv_entry ([.ref a_mo]) (n := 2) (Nat.le_of_ble_eq_true rfl)
  rw [lg_entry_eq]
  generalize (lg_sl ([.ref a_mo]) ++ List.replicate (2 - (lg_sl ([.ref a_mo])).length) Slot.unset).toArray = ls at hl ⊢
  have hl : lv_has ls 2 [(0, .ref a_mo)] := hl
  obtain ⟨H, hH⟩ : ∃ H : Heap, H = s.heap := ⟨_, rfl⟩
  obtain ⟨locs, hlc⟩ : ∃ L : List Loc, L = [] := ⟨_, rfl⟩
  have hP : va_P (dC, dI) vwCl [(a_mo, .inr (6, [.int th, .ref b_actions, .ref b_what, .ref b_where, .ref b_number, .ref b_done, .ref b_register, .ref b_memory, .ref b_size, .ref b_place, .ref b_value, .ref a_gknown, .ref b_tooMany, .ref b_states, .ref b_stuck, .ref b_outcomes, .ref b_front, .ref b_behind, .ref b_from, .ref b_step, .ref b_depth, .ref b_ends, .ref b_endOutcome, .ref b_cuts, .ref b_soonest, .ref b_chain, .ref b_next, .ref b_row])), (a_gknown, .inl (cZ, 4, .inl hknown))] H := by rw [hH]; exact hP
  have hS : va_S A s.heap H locs := by rw [hH, hlc]; exact hS
  suffices hW9 : W p l e ({ frames := 10, cells := 0, slots := 0, locals := 150 } : Room) s m ([.ref a_mo] : List Value).toArray below meth c H locs 0 0 (MQ below (jQ_MO_forget dC dI cI cJ cZ cQ A a_mo a_gknown b_actions b_what b_where b_number b_done b_register b_memory b_size b_place b_value b_tooMany b_states b_stuck b_outcomes b_front b_behind b_from b_step b_depth b_ends b_endOutcome b_cuts b_soonest b_chain b_next b_row Post) ([.ref a_mo] : List Value).toArray s 0 0 A) (F0 m 0 ls []) by rw [hH, hlc] at hW9; exact hW9
  clear hH hlc
  rw [wp_MO_forget] at h
  refine lv_iconst (v := 0) hx hb d_MO_forget_0 (by decide) ?_
  refine lv_istore_n (lv' := [(1, .int 0), (0, .ref a_mo)]) hx hb d_MO_forget_1 rfl hl (by decide) rfl (fun ls hl => ?_)
  obtain ⟨n_2, h⟩ := h
  exact l_MO_forget_2 C0  n_2 th hknown 0  H locs ls h hP hD hS (lv_sub hl [1, 0] rfl)

/-- what OrderMachinesModel.action(IIII)I leaves -/
abbrev jQ_MO_action (dC : Nat → ClassId) (dI : Nat → Nat → Nat) (cI cJ cZ cQ : ClassId) (A : Nat → Prop) (a_mo a_gactions a_gwhat a_gwhere a_gnumber a_gknown b_done b_register b_memory b_size b_place b_value b_tooMany b_states b_stuck b_outcomes b_front b_behind b_from b_step b_depth b_ends b_endOutcome b_cuts b_soonest b_chain b_next b_row : Nat) (Post : Int32 → Int32 → (Nat → Int32) → (Nat → Int32) → (Nat → Int32) → (Nat → Int32) → (Nat → Int32) → Prop) : Array Value → State → Outcome → State → Prop := va_Qi (fun (r : Int32) (u : Int32 × (Nat → Int32) × (Nat → Int32) × (Nat → Int32) × (Nat → Int32) × (Nat → Int32)) => Post r u.1 u.2.1 u.2.2.1 u.2.2.2.1 u.2.2.2.2.1 u.2.2.2.2.2) (fun (u : Int32 × (Nat → Int32) × (Nat → Int32) × (Nat → Int32) × (Nat → Int32) × (Nat → Int32)) (t : State) => match u with
  | (th, hactions, hwhat, hwhere, hnumber, hknown) => jPost (dC, dI) (jT cI cJ cZ cQ) A [(a_mo, .inr (6, [.int th, .ref a_gactions, .ref a_gwhat, .ref a_gwhere, .ref a_gnumber, .ref b_done, .ref b_register, .ref b_memory, .ref b_size, .ref b_place, .ref b_value, .ref a_gknown, .ref b_tooMany, .ref b_states, .ref b_stuck, .ref b_outcomes, .ref b_front, .ref b_behind, .ref b_from, .ref b_step, .ref b_depth, .ref b_ends, .ref b_endOutcome, .ref b_cuts, .ref b_soonest, .ref b_chain, .ref b_next, .ref b_row])), (a_gactions, .inl (cI, 4, .inl hactions)), (a_gwhat, .inl (cI, 20, .inl hwhat)), (a_gwhere, .inl (cI, 20, .inl hwhere)), (a_gnumber, .inl (cI, 20, .inl hnumber)), (a_gknown, .inl (cZ, 4, .inl hknown))] t) A
def wp_MO_action_54 (Post : Int32 → Int32 → (Nat → Int32) → (Nat → Int32) → (Nat → Int32) → (Nat → Int32) → (Nat → Int32) → Prop)  (th : Int32) (hactions hwhat hwhere hnumber hknown : Nat → Int32) : Prop :=
    wp_MO_fail (fun (r5 : Int32) (u6 : Int32) => Post r5 u6 hactions hwhat hwhere hnumber hknown) th 1
def wp_MO_action_60 (Post : Int32 → Int32 → (Nat → Int32) → (Nat → Int32) → (Nat → Int32) → (Nat → Int32) → (Nat → Int32) → Prop)  (th : Int32) (hactions hwhat hwhere hnumber hknown : Nat → Int32) (L1 L2 L3 L4 : Int32) : Prop :=
    vp_in L1 4 ∧ ((¬ (hactions L1.toNatClampNeg) = 5 → vp_in L1 4 ∧ vp_in ((5 * L1) + (hactions L1.toNatClampNeg)) 20 ∧ ∀ f7 : Nat → Int32, f7 = upd hwhat ((5 * L1) + (hactions L1.toNatClampNeg)).toNatClampNeg L2 → vp_in L1 4 ∧ vp_in ((5 * L1) + (hactions L1.toNatClampNeg)) 20 ∧ ∀ f8 : Nat → Int32, f8 = upd hwhere ((5 * L1) + (hactions L1.toNatClampNeg)).toNatClampNeg L3 → vp_in L1 4 ∧ vp_in ((5 * L1) + (hactions L1.toNatClampNeg)) 20 ∧ ∀ f9 : Nat → Int32, f9 = upd hnumber ((5 * L1) + (hactions L1.toNatClampNeg)).toNatClampNeg L4 → vp_in L1 4 ∧ vp_in L1 4 ∧ ∀ f10 : Nat → Int32, f10 = upd hactions L1.toNatClampNeg ((hactions L1.toNatClampNeg) + 1) → wp_MO_forget (fun (u12 : Int32) (u13 : Nat → Int32) => vp_in L1 4 ∧ Post (f10 L1.toNatClampNeg) u12 f10 f7 f8 f9 u13) th hknown) ∧
  ((hactions L1.toNatClampNeg) = 5 → wp_MO_fail (fun (r14 : Int32) (u15 : Int32) => Post r14 u15 hactions hwhat hwhere hnumber hknown) th 2))
/-- OrderMachinesModel.action(IIII)I -/
def wp_MO_action (Post : Int32 → Int32 → (Nat → Int32) → (Nat → Int32) → (Nat → Int32) → (Nat → Int32) → (Nat → Int32) → Prop) (th : Int32) (hactions hwhat hwhere hnumber hknown : Nat → Int32) (a1 a2 a3 a4 : Int32) : Prop :=
  wp_MO_within (fun (r1 : Int32) => ((r1 = 0 → wp_MO_action_54 Post 0 hactions hwhat hwhere hnumber hknown) ∧
  (¬ r1 = 0 → wp_MO_within (fun (r2 : Int32) => ((r2 = 0 → wp_MO_action_54 Post 0 hactions hwhat hwhere hnumber hknown) ∧
    (¬ r2 = 0 → wp_MO_within (fun (r3 : Int32) => ((r3 = 0 → wp_MO_action_54 Post 0 hactions hwhat hwhere hnumber hknown) ∧
      (¬ r3 = 0 → wp_MO_within (fun (r4 : Int32) => ((r4 = 0 → wp_MO_action_54 Post 0 hactions hwhat hwhere hnumber hknown) ∧
        (¬ r4 = 0 → ((¬ a2 = 2 → wp_MO_action_60 Post 0 hactions hwhat hwhere hnumber hknown a1 a2 a3 a4) ∧
          (a2 = 2 → (((a3 + a4) ≤ 0 → wp_MO_action_60 Post 0 hactions hwhat hwhere hnumber hknown a1 a2 a3 a4) ∧
            (¬ (a3 + a4) ≤ 0 → wp_MO_action_54 Post 0 hactions hwhat hwhere hnumber hknown))))))) a4 0 3))) a3 0 3))) a2 0 3))) a1 0 3
set_option maxHeartbeats 4000000 in
set_option maxRecDepth 100000 in
theorem l_MO_action_54 {p : Program} {l : Launch} {e : Env} {s : State} {m : MethodId} {args : Array Value} {below : List Frame} {meth : Method} {c : Code} {dC : Nat → ClassId} {dI : Nat → Nat → Nat} {cI cJ cZ cQ : ClassId} {a_mo a_gactions a_gwhat a_gwhere a_gnumber a_gknown b_done b_register b_memory b_size b_place b_value b_tooMany b_states b_stuck b_outcomes b_front b_behind b_from b_step b_depth b_ends b_endOutcome b_cuts b_soonest b_chain b_next b_row : Nat} {A : Nat → Prop} {Post : Int32 → Int32 → (Nat → Int32) → (Nat → Int32) → (Nat → Int32) → (Nat → Int32) → (Nat → Int32) → Prop} (C0 : jC p l s m args meth c b_MO_action (some .int) 5 R_MO (dC, dI) cI cJ cZ cQ A)  : ∀ (th : Int32) (hactions hwhat hwhere hnumber hknown : Nat → Int32), ∀ (H : Heap) (locs : List Loc) (ls : Array Slot), wp_MO_action_54 Post  th hactions hwhat hwhere hnumber hknown → va_P (dC, dI) vwCl [(a_mo, .inr (6, [.int th, .ref a_gactions, .ref a_gwhat, .ref a_gwhere, .ref a_gnumber, .ref b_done, .ref b_register, .ref b_memory, .ref b_size, .ref b_place, .ref b_value, .ref a_gknown, .ref b_tooMany, .ref b_states, .ref b_stuck, .ref b_outcomes, .ref b_front, .ref b_behind, .ref b_from, .ref b_step, .ref b_depth, .ref b_ends, .ref b_endOutcome, .ref b_cuts, .ref b_soonest, .ref b_chain, .ref b_next, .ref b_row])), (a_gactions, .inl (cI, 4, .inl hactions)), (a_gwhat, .inl (cI, 20, .inl hwhat)), (a_gwhere, .inl (cI, 20, .inl hwhere)), (a_gnumber, .inl (cI, 20, .inl hnumber)), (a_gknown, .inl (cZ, 4, .inl hknown))] H → va_D A [(a_mo, .inr (6, [.int th, .ref a_gactions, .ref a_gwhat, .ref a_gwhere, .ref a_gnumber, .ref b_done, .ref b_register, .ref b_memory, .ref b_size, .ref b_place, .ref b_value, .ref a_gknown, .ref b_tooMany, .ref b_states, .ref b_stuck, .ref b_outcomes, .ref b_front, .ref b_behind, .ref b_from, .ref b_step, .ref b_depth, .ref b_ends, .ref b_endOutcome, .ref b_cuts, .ref b_soonest, .ref b_chain, .ref b_next, .ref b_row])), (a_gactions, .inl (cI, 4, .inl hactions)), (a_gwhat, .inl (cI, 20, .inl hwhat)), (a_gwhere, .inl (cI, 20, .inl hwhere)), (a_gnumber, .inl (cI, 20, .inl hnumber)), (a_gknown, .inl (cZ, 4, .inl hknown))] → va_S A s.heap H locs → lv_has ls 5 [(0, .ref a_mo)] → W p l e ({ frames := 11, cells := 0, slots := 0, locals := 172 } : Room) s m args below meth c H locs 0 0 (MQ below (jQ_MO_action dC dI cI cJ cZ cQ A a_mo a_gactions a_gwhat a_gwhere a_gnumber a_gknown b_done b_register b_memory b_size b_place b_value b_tooMany b_states b_stuck b_outcomes b_front b_behind b_from b_step b_depth b_ends b_endOutcome b_cuts b_soonest b_chain b_next b_row Post) args s 0 0 A) (F0 m 54 ls []) := by
  obtain ⟨hx, hb, hr, hml, hown, hts, hlocks, hK, hZ, hA, hst⟩ := id C0
  intro th hactions hwhat hwhere hnumber hknown H locs ls h hP hD hS hl
  rw [wp_MO_action_54] at h
  refine lv_aload_n hx hb d_MO_action_54 rfl (lv_at hl 0 rfl) ?_
  refine lv_iconst (v := 1) hx hb d_MO_action_55 (by decide) ?_
  have hPc := hP.sub (ws' := [(a_mo, .inr (6, [.int th, .ref a_gactions, .ref a_gwhat, .ref a_gwhere, .ref a_gnumber, .ref b_done, .ref b_register, .ref b_memory, .ref b_size, .ref b_place, .ref b_value, .ref a_gknown, .ref b_tooMany, .ref b_states, .ref b_stuck, .ref b_outcomes, .ref b_front, .ref b_behind, .ref b_from, .ref b_step, .ref b_depth, .ref b_ends, .ref b_endOutcome, .ref b_cuts, .ref b_soonest, .ref b_chain, .ref b_next, .ref b_row]))]) [0] rfl
  have hDc := hD.sub (ws' := [(a_mo, .inr (6, [.int th, .ref a_gactions, .ref a_gwhat, .ref a_gwhere, .ref a_gnumber, .ref b_done, .ref b_register, .ref b_memory, .ref b_size, .ref b_place, .ref b_value, .ref a_gknown, .ref b_tooMany, .ref b_states, .ref b_stuck, .ref b_outcomes, .ref b_front, .ref b_behind, .ref b_from, .ref b_step, .ref b_depth, .ref b_ends, .ref b_endOutcome, .ref b_cuts, .ref b_soonest, .ref b_chain, .ref b_next, .ref b_row]))]) [0] (by decide) rfl
  have hFc := va_free (wc := [(a_mo, .inr (6, [.int th, .ref a_gactions, .ref a_gwhat, .ref a_gwhere, .ref a_gnumber, .ref b_done, .ref b_register, .ref b_memory, .ref b_size, .ref b_place, .ref b_value, .ref a_gknown, .ref b_tooMany, .ref b_states, .ref b_stuck, .ref b_outcomes, .ref b_front, .ref b_behind, .ref b_from, .ref b_step, .ref b_depth, .ref b_ends, .ref b_endOutcome, .ref b_cuts, .ref b_soonest, .ref b_chain, .ref b_next, .ref b_row]))]) hD hS hA [0] rfl
  refine va_calli (va_runV (As := [.int 1]) (rest := []) ⟨hx, hb, hml, hown, hts⟩ (c_MO_fail l dC dI cI cJ cZ cQ a_mo a_gactions a_gwhat a_gwhere a_gnumber b_done b_register b_memory b_size b_place b_value a_gknown b_tooMany b_states b_stuck b_outcomes b_front b_behind b_from b_step b_depth b_ends b_endOutcome b_cuts b_soonest b_chain b_next b_row H.size th 1 _  h) (cwV 1 hts (goodIn_app (jGl (List.forall_mem_cons.mpr ⟨mw_960, List.forall_mem_cons.mpr ⟨mw_962, List.forall_mem_cons.mpr ⟨ms_MO_fail, List.forall_mem_cons.mpr ⟨mw_7, fun _ h => absurd h List.not_mem_nil⟩⟩⟩⟩)) (jG mw_963)) rfl rfl rfl (by decide +kernel) ⟨Nat.le_of_ble_eq_true rfl, Nat.le_of_ble_eq_true rfl⟩) ⟨jPre_blind, va_recv hK hPc (ci := 6) (q0 := 0) rfl rfl, jPre_in hPc hK hDc hZ hS hFc hst⟩ rfl rfl hl.1 rfl (lv_room (Nat.le_of_ble_eq_true rfl)) d_MO_action_56 ⟨(Nat.zero_le _), (Nat.zero_le _)⟩) hS (fun q _ h => hFc q h) hFc (fun r5 u t H1 locs ht hvm hw hB hz1 hk1 hS => ?_)
  obtain ⟨u6, rfl⟩ : ∃ z, z = u := ⟨_, rfl⟩
  obtain ⟨hP1, hK1, hD1⟩ := hB
  rw [ht] at hP1
  have h := hw
  obtain ⟨hP, hD⟩ := va_join (wr := [(a_gactions, .inl (cI, 4, .inl hactions)), (a_gwhat, .inl (cI, 20, .inl hwhat)), (a_gwhere, .inl (cI, 20, .inl hwhere)), (a_gnumber, .inl (cI, 20, .inl hnumber)), (a_gknown, .inl (cZ, 4, .inl hknown))]) (w1 := [(a_mo, .inr (6, [.int u6, .ref a_gactions, .ref a_gwhat, .ref a_gwhere, .ref a_gnumber, .ref b_done, .ref b_register, .ref b_memory, .ref b_size, .ref b_place, .ref b_value, .ref a_gknown, .ref b_tooMany, .ref b_states, .ref b_stuck, .ref b_outcomes, .ref b_front, .ref b_behind, .ref b_from, .ref b_step, .ref b_depth, .ref b_ends, .ref b_endOutcome, .ref b_cuts, .ref b_soonest, .ref b_chain, .ref b_next, .ref b_row]))]) hP hD [0] [1, 2, 3, 4, 5] rfl rfl (by decide) (by decide) hk1 hFc hP1 hD1
  generalize H1 = H at hP hS ⊢
  have hP : va_P (dC, dI) vwCl [(a_gactions, .inl (cI, 4, .inl hactions)), (a_gwhat, .inl (cI, 20, .inl hwhat)), (a_gwhere, .inl (cI, 20, .inl hwhere)), (a_gnumber, .inl (cI, 20, .inl hnumber)), (a_gknown, .inl (cZ, 4, .inl hknown)), (a_mo, .inr (6, [.int u6, .ref a_gactions, .ref a_gwhat, .ref a_gwhere, .ref a_gnumber, .ref b_done, .ref b_register, .ref b_memory, .ref b_size, .ref b_place, .ref b_value, .ref a_gknown, .ref b_tooMany, .ref b_states, .ref b_stuck, .ref b_outcomes, .ref b_front, .ref b_behind, .ref b_from, .ref b_step, .ref b_depth, .ref b_ends, .ref b_endOutcome, .ref b_cuts, .ref b_soonest, .ref b_chain, .ref b_next, .ref b_row]))] H := hP
  have hD : va_D A [(a_gactions, .inl (cI, 4, .inl hactions)), (a_gwhat, .inl (cI, 20, .inl hwhat)), (a_gwhere, .inl (cI, 20, .inl hwhere)), (a_gnumber, .inl (cI, 20, .inl hnumber)), (a_gknown, .inl (cZ, 4, .inl hknown)), (a_mo, .inr (6, [.int u6, .ref a_gactions, .ref a_gwhat, .ref a_gwhere, .ref a_gnumber, .ref b_done, .ref b_register, .ref b_memory, .ref b_size, .ref b_place, .ref b_value, .ref a_gknown, .ref b_tooMany, .ref b_states, .ref b_stuck, .ref b_outcomes, .ref b_front, .ref b_behind, .ref b_from, .ref b_step, .ref b_depth, .ref b_ends, .ref b_endOutcome, .ref b_cuts, .ref b_soonest, .ref b_chain, .ref b_next, .ref b_row]))] := hD
  have hP9 := hP.sub (ws' := [(a_mo, .inr (6, [.int u6, .ref a_gactions, .ref a_gwhat, .ref a_gwhere, .ref a_gnumber, .ref b_done, .ref b_register, .ref b_memory, .ref b_size, .ref b_place, .ref b_value, .ref a_gknown, .ref b_tooMany, .ref b_states, .ref b_stuck, .ref b_outcomes, .ref b_front, .ref b_behind, .ref b_from, .ref b_step, .ref b_depth, .ref b_ends, .ref b_endOutcome, .ref b_cuts, .ref b_soonest, .ref b_chain, .ref b_next, .ref b_row])), (a_gactions, .inl (cI, 4, .inl hactions)), (a_gwhat, .inl (cI, 20, .inl hwhat)), (a_gwhere, .inl (cI, 20, .inl hwhere)), (a_gnumber, .inl (cI, 20, .inl hnumber)), (a_gknown, .inl (cZ, 4, .inl hknown))]) [5, 0, 1, 2, 3, 4] rfl
  have hD9 := hD.sub (ws' := [(a_mo, .inr (6, [.int u6, .ref a_gactions, .ref a_gwhat, .ref a_gwhere, .ref a_gnumber, .ref b_done, .ref b_register, .ref b_memory, .ref b_size, .ref b_place, .ref b_value, .ref a_gknown, .ref b_tooMany, .ref b_states, .ref b_stuck, .ref b_outcomes, .ref b_front, .ref b_behind, .ref b_from, .ref b_step, .ref b_depth, .ref b_ends, .ref b_endOutcome, .ref b_cuts, .ref b_soonest, .ref b_chain, .ref b_next, .ref b_row])), (a_gactions, .inl (cI, 4, .inl hactions)), (a_gwhat, .inl (cI, 20, .inl hwhat)), (a_gwhere, .inl (cI, 20, .inl hwhere)), (a_gnumber, .inl (cI, 20, .inl hnumber)), (a_gknown, .inl (cZ, 4, .inl hknown))]) [5, 0, 1, 2, 3, 4] (by decide) rfl
  exact W.iret (v := r5) hx hb hr (fun t ht hW => ⟨⟨r5, (u6, hactions, hwhat, hwhere, hnumber, hknown), rfl, h, by rw [ht]; exact hP9, va_K.moved hW.alike hK, hD9⟩, hS.F ht⟩) hS.2.2 d_MO_action_59
set_option maxHeartbeats 4000000 in
set_option maxRecDepth 100000 in
theorem l_MO_action_60 {p : Program} {l : Launch} {e : Env} {s : State} {m : MethodId} {args : Array Value} {below : List Frame} {meth : Method} {c : Code} {dC : Nat → ClassId} {dI : Nat → Nat → Nat} {cI cJ cZ cQ : ClassId} {a_mo a_gactions a_gwhat a_gwhere a_gnumber a_gknown b_done b_register b_memory b_size b_place b_value b_tooMany b_states b_stuck b_outcomes b_front b_behind b_from b_step b_depth b_ends b_endOutcome b_cuts b_soonest b_chain b_next b_row : Nat} {A : Nat → Prop} {Post : Int32 → Int32 → (Nat → Int32) → (Nat → Int32) → (Nat → Int32) → (Nat → Int32) → (Nat → Int32) → Prop} (C0 : jC p l s m args meth c b_MO_action (some .int) 5 R_MO (dC, dI) cI cJ cZ cQ A)  : ∀ (th : Int32) (hactions hwhat hwhere hnumber hknown : Nat → Int32) (L1 L2 L3 L4 : Int32), ∀ (H : Heap) (locs : List Loc) (ls : Array Slot), wp_MO_action_60 Post  th hactions hwhat hwhere hnumber hknown L1 L2 L3 L4 → va_P (dC, dI) vwCl [(a_mo, .inr (6, [.int th, .ref a_gactions, .ref a_gwhat, .ref a_gwhere, .ref a_gnumber, .ref b_done, .ref b_register, .ref b_memory, .ref b_size, .ref b_place, .ref b_value, .ref a_gknown, .ref b_tooMany, .ref b_states, .ref b_stuck, .ref b_outcomes, .ref b_front, .ref b_behind, .ref b_from, .ref b_step, .ref b_depth, .ref b_ends, .ref b_endOutcome, .ref b_cuts, .ref b_soonest, .ref b_chain, .ref b_next, .ref b_row])), (a_gactions, .inl (cI, 4, .inl hactions)), (a_gwhat, .inl (cI, 20, .inl hwhat)), (a_gwhere, .inl (cI, 20, .inl hwhere)), (a_gnumber, .inl (cI, 20, .inl hnumber)), (a_gknown, .inl (cZ, 4, .inl hknown))] H → va_D A [(a_mo, .inr (6, [.int th, .ref a_gactions, .ref a_gwhat, .ref a_gwhere, .ref a_gnumber, .ref b_done, .ref b_register, .ref b_memory, .ref b_size, .ref b_place, .ref b_value, .ref a_gknown, .ref b_tooMany, .ref b_states, .ref b_stuck, .ref b_outcomes, .ref b_front, .ref b_behind, .ref b_from, .ref b_step, .ref b_depth, .ref b_ends, .ref b_endOutcome, .ref b_cuts, .ref b_soonest, .ref b_chain, .ref b_next, .ref b_row])), (a_gactions, .inl (cI, 4, .inl hactions)), (a_gwhat, .inl (cI, 20, .inl hwhat)), (a_gwhere, .inl (cI, 20, .inl hwhere)), (a_gnumber, .inl (cI, 20, .inl hnumber)), (a_gknown, .inl (cZ, 4, .inl hknown))] → va_S A s.heap H locs → lv_has ls 5 [(0, .ref a_mo), (1, .int L1), (2, .int L2), (3, .int L3), (4, .int L4)] → W p l e ({ frames := 11, cells := 0, slots := 0, locals := 172 } : Room) s m args below meth c H locs 0 0 (MQ below (jQ_MO_action dC dI cI cJ cZ cQ A a_mo a_gactions a_gwhat a_gwhere a_gnumber a_gknown b_done b_register b_memory b_size b_place b_value b_tooMany b_states b_stuck b_outcomes b_front b_behind b_from b_step b_depth b_ends b_endOutcome b_cuts b_soonest b_chain b_next b_row Post) args s 0 0 A) (F0 m 60 ls []) := by
  obtain ⟨hx, hb, hr, hml, hown, hts, hlocks, hK, hZ, hA, hst⟩ := id C0
  intro th hactions hwhat hwhere hnumber hknown L1 L2 L3 L4 H locs ls h hP hD hS hl
  rw [wp_MO_action_60] at h
  refine lv_aload_n hx hb d_MO_action_60 rfl (lv_at hl 0 rfl) ?_
  refine va_get (D := (dC, dI)) (ci := 6) (v := .ref a_gactions) (C := R_MO) (T := T_MO) (N := 28) hx hb hts in_MO hown hK hP 0 rfl rfl 1 (by decide) (hts _ mw_864) (fun _ h9 => h9) rfl d_MO_action_61 ?_
  refine lv_iload_n hx hb d_MO_action_64 rfl (lv_at hl 1 rfl) ?_
  refine va_iald hx hb hK hP 1 0 rfl rfl h.1 d_MO_action_65 ?_
  have h := h.2
  refine lv_iconst (v := 5) hx hb d_MO_action_66 (by decide) ?_
  refine lv_icmp_ne (tgt := 76) hx hb d_MO_action_67 (by decide) (fun c67 => ?_) (fun c67 => ?_)
  · have h := h.1 c67
    refine lv_aload_n hx hb d_MO_action_76 rfl (lv_at hl 0 rfl) ?_
    refine va_get (D := (dC, dI)) (ci := 6) (v := .ref a_gwhat) (C := R_MO) (T := T_MO) (N := 28) hx hb hts in_MO hown hK hP 0 rfl rfl 2 (by decide) (hts _ mw_865) (fun _ h9 => h9) rfl d_MO_action_77 ?_
    refine lv_iconst (v := 5) hx hb d_MO_action_80 (by decide) ?_
    refine lv_iload_n hx hb d_MO_action_81 rfl (lv_at hl 1 rfl) ?_
    refine lv_imul hx hb d_MO_action_82 ?_
    refine lv_aload_n hx hb d_MO_action_83 rfl (lv_at hl 0 rfl) ?_
    refine va_get (D := (dC, dI)) (ci := 6) (v := .ref a_gactions) (C := R_MO) (T := T_MO) (N := 28) hx hb hts in_MO hown hK hP 0 rfl rfl 1 (by decide) (hts _ mw_864) (fun _ h9 => h9) rfl d_MO_action_84 ?_
    refine lv_iload_n hx hb d_MO_action_87 rfl (lv_at hl 1 rfl) ?_
    refine va_iald hx hb hK hP 1 0 rfl rfl h.1 d_MO_action_88 ?_
    have h := h.2
    refine lv_iadd hx hb d_MO_action_89 ?_
    refine lv_iload_n hx hb d_MO_action_90 rfl (lv_at hl 2 rfl) ?_
    refine va_iast hx hb hK hP hD hS 2 0 rfl rfl h.1 d_MO_action_91 (fun H locs hP hD hS => ?_)
    have h := h.2
    obtain ⟨f7, ef7⟩ : ∃ y : Nat → Int32, y = upd hwhat ((5 * L1) + (hactions L1.toNatClampNeg)).toNatClampNeg L2 := ⟨_, rfl⟩
    rw [← ef7] at hP hD
    have h := h f7 ef7
    have hP : va_P (dC, dI) vwCl [(a_mo, .inr (6, [.int th, .ref a_gactions, .ref a_gwhat, .ref a_gwhere, .ref a_gnumber, .ref b_done, .ref b_register, .ref b_memory, .ref b_size, .ref b_place, .ref b_value, .ref a_gknown, .ref b_tooMany, .ref b_states, .ref b_stuck, .ref b_outcomes, .ref b_front, .ref b_behind, .ref b_from, .ref b_step, .ref b_depth, .ref b_ends, .ref b_endOutcome, .ref b_cuts, .ref b_soonest, .ref b_chain, .ref b_next, .ref b_row])), (a_gactions, .inl (cI, 4, .inl hactions)), (a_gwhat, .inl (cI, 20, .inl f7)), (a_gwhere, .inl (cI, 20, .inl hwhere)), (a_gnumber, .inl (cI, 20, .inl hnumber)), (a_gknown, .inl (cZ, 4, .inl hknown))] H := hP
    have hD : va_D A [(a_mo, .inr (6, [.int th, .ref a_gactions, .ref a_gwhat, .ref a_gwhere, .ref a_gnumber, .ref b_done, .ref b_register, .ref b_memory, .ref b_size, .ref b_place, .ref b_value, .ref a_gknown, .ref b_tooMany, .ref b_states, .ref b_stuck, .ref b_outcomes, .ref b_front, .ref b_behind, .ref b_from, .ref b_step, .ref b_depth, .ref b_ends, .ref b_endOutcome, .ref b_cuts, .ref b_soonest, .ref b_chain, .ref b_next, .ref b_row])), (a_gactions, .inl (cI, 4, .inl hactions)), (a_gwhat, .inl (cI, 20, .inl f7)), (a_gwhere, .inl (cI, 20, .inl hwhere)), (a_gnumber, .inl (cI, 20, .inl hnumber)), (a_gknown, .inl (cZ, 4, .inl hknown))] := hD
    refine lv_aload_n hx hb d_MO_action_92 rfl (lv_at hl 0 rfl) ?_
    refine va_get (D := (dC, dI)) (ci := 6) (v := .ref a_gwhere) (C := R_MO) (T := T_MO) (N := 28) hx hb hts in_MO hown hK hP 0 rfl rfl 3 (by decide) (hts _ mw_866) (fun _ h9 => h9) rfl d_MO_action_93 ?_
    refine lv_iconst (v := 5) hx hb d_MO_action_96 (by decide) ?_
    refine lv_iload_n hx hb d_MO_action_97 rfl (lv_at hl 1 rfl) ?_
    refine lv_imul hx hb d_MO_action_98 ?_
    refine lv_aload_n hx hb d_MO_action_99 rfl (lv_at hl 0 rfl) ?_
    refine va_get (D := (dC, dI)) (ci := 6) (v := .ref a_gactions) (C := R_MO) (T := T_MO) (N := 28) hx hb hts in_MO hown hK hP 0 rfl rfl 1 (by decide) (hts _ mw_864) (fun _ h9 => h9) rfl d_MO_action_100 ?_
    refine lv_iload_n hx hb d_MO_action_103 rfl (lv_at hl 1 rfl) ?_
    refine va_iald hx hb hK hP 1 0 rfl rfl h.1 d_MO_action_104 ?_
    have h := h.2
    refine lv_iadd hx hb d_MO_action_105 ?_
    refine lv_iload_n hx hb d_MO_action_106 rfl (lv_at hl 3 rfl) ?_
    refine va_iast hx hb hK hP hD hS 3 0 rfl rfl h.1 d_MO_action_107 (fun H locs hP hD hS => ?_)
    have h := h.2
    obtain ⟨f8, ef8⟩ : ∃ y : Nat → Int32, y = upd hwhere ((5 * L1) + (hactions L1.toNatClampNeg)).toNatClampNeg L3 := ⟨_, rfl⟩
    rw [← ef8] at hP hD
    have h := h f8 ef8
    have hP : va_P (dC, dI) vwCl [(a_mo, .inr (6, [.int th, .ref a_gactions, .ref a_gwhat, .ref a_gwhere, .ref a_gnumber, .ref b_done, .ref b_register, .ref b_memory, .ref b_size, .ref b_place, .ref b_value, .ref a_gknown, .ref b_tooMany, .ref b_states, .ref b_stuck, .ref b_outcomes, .ref b_front, .ref b_behind, .ref b_from, .ref b_step, .ref b_depth, .ref b_ends, .ref b_endOutcome, .ref b_cuts, .ref b_soonest, .ref b_chain, .ref b_next, .ref b_row])), (a_gactions, .inl (cI, 4, .inl hactions)), (a_gwhat, .inl (cI, 20, .inl f7)), (a_gwhere, .inl (cI, 20, .inl f8)), (a_gnumber, .inl (cI, 20, .inl hnumber)), (a_gknown, .inl (cZ, 4, .inl hknown))] H := hP
    have hD : va_D A [(a_mo, .inr (6, [.int th, .ref a_gactions, .ref a_gwhat, .ref a_gwhere, .ref a_gnumber, .ref b_done, .ref b_register, .ref b_memory, .ref b_size, .ref b_place, .ref b_value, .ref a_gknown, .ref b_tooMany, .ref b_states, .ref b_stuck, .ref b_outcomes, .ref b_front, .ref b_behind, .ref b_from, .ref b_step, .ref b_depth, .ref b_ends, .ref b_endOutcome, .ref b_cuts, .ref b_soonest, .ref b_chain, .ref b_next, .ref b_row])), (a_gactions, .inl (cI, 4, .inl hactions)), (a_gwhat, .inl (cI, 20, .inl f7)), (a_gwhere, .inl (cI, 20, .inl f8)), (a_gnumber, .inl (cI, 20, .inl hnumber)), (a_gknown, .inl (cZ, 4, .inl hknown))] := hD
    refine lv_aload_n hx hb d_MO_action_108 rfl (lv_at hl 0 rfl) ?_
    refine va_get (D := (dC, dI)) (ci := 6) (v := .ref a_gnumber) (C := R_MO) (T := T_MO) (N := 28) hx hb hts in_MO hown hK hP 0 rfl rfl 4 (by decide) (hts _ mw_867) (fun _ h9 => h9) rfl d_MO_action_109 ?_
    refine lv_iconst (v := 5) hx hb d_MO_action_112 (by decide) ?_
    refine lv_iload_n hx hb d_MO_action_113 rfl (lv_at hl 1 rfl) ?_
    refine lv_imul hx hb d_MO_action_114 ?_
    refine lv_aload_n hx hb d_MO_action_115 rfl (lv_at hl 0 rfl) ?_
    refine va_get (D := (dC, dI)) (ci := 6) (v := .ref a_gactions) (C := R_MO) (T := T_MO) (N := 28) hx hb hts in_MO hown hK hP 0 rfl rfl 1 (by decide) (hts _ mw_864) (fun _ h9 => h9) rfl d_MO_action_116 ?_
    refine lv_iload_n hx hb d_MO_action_119 rfl (lv_at hl 1 rfl) ?_
    refine va_iald hx hb hK hP 1 0 rfl rfl h.1 d_MO_action_120 ?_
    have h := h.2
    refine lv_iadd hx hb d_MO_action_121 ?_
    refine lv_iload hx hb d_MO_action_122 (lv_at hl 4 rfl) ?_
    refine va_iast hx hb hK hP hD hS 4 0 rfl rfl h.1 d_MO_action_124 (fun H locs hP hD hS => ?_)
    have h := h.2
    obtain ⟨f9, ef9⟩ : ∃ y : Nat → Int32, y = upd hnumber ((5 * L1) + (hactions L1.toNatClampNeg)).toNatClampNeg L4 := ⟨_, rfl⟩
    rw [← ef9] at hP hD
    have h := h f9 ef9
    have hP : va_P (dC, dI) vwCl [(a_mo, .inr (6, [.int th, .ref a_gactions, .ref a_gwhat, .ref a_gwhere, .ref a_gnumber, .ref b_done, .ref b_register, .ref b_memory, .ref b_size, .ref b_place, .ref b_value, .ref a_gknown, .ref b_tooMany, .ref b_states, .ref b_stuck, .ref b_outcomes, .ref b_front, .ref b_behind, .ref b_from, .ref b_step, .ref b_depth, .ref b_ends, .ref b_endOutcome, .ref b_cuts, .ref b_soonest, .ref b_chain, .ref b_next, .ref b_row])), (a_gactions, .inl (cI, 4, .inl hactions)), (a_gwhat, .inl (cI, 20, .inl f7)), (a_gwhere, .inl (cI, 20, .inl f8)), (a_gnumber, .inl (cI, 20, .inl f9)), (a_gknown, .inl (cZ, 4, .inl hknown))] H := hP
    have hD : va_D A [(a_mo, .inr (6, [.int th, .ref a_gactions, .ref a_gwhat, .ref a_gwhere, .ref a_gnumber, .ref b_done, .ref b_register, .ref b_memory, .ref b_size, .ref b_place, .ref b_value, .ref a_gknown, .ref b_tooMany, .ref b_states, .ref b_stuck, .ref b_outcomes, .ref b_front, .ref b_behind, .ref b_from, .ref b_step, .ref b_depth, .ref b_ends, .ref b_endOutcome, .ref b_cuts, .ref b_soonest, .ref b_chain, .ref b_next, .ref b_row])), (a_gactions, .inl (cI, 4, .inl hactions)), (a_gwhat, .inl (cI, 20, .inl f7)), (a_gwhere, .inl (cI, 20, .inl f8)), (a_gnumber, .inl (cI, 20, .inl f9)), (a_gknown, .inl (cZ, 4, .inl hknown))] := hD
    refine lv_aload_n hx hb d_MO_action_125 rfl (lv_at hl 0 rfl) ?_
    refine va_get (D := (dC, dI)) (ci := 6) (v := .ref a_gactions) (C := R_MO) (T := T_MO) (N := 28) hx hb hts in_MO hown hK hP 0 rfl rfl 1 (by decide) (hts _ mw_864) (fun _ h9 => h9) rfl d_MO_action_126 ?_
    refine lv_iload_n hx hb d_MO_action_129 rfl (lv_at hl 1 rfl) ?_
    refine lv_dup2_11 hx hb d_MO_action_130 rfl rfl ?_
    refine va_iald hx hb hK hP 1 0 rfl rfl h.1 d_MO_action_131 ?_
    have h := h.2
    refine lv_iconst (v := 1) hx hb d_MO_action_132 (by decide) ?_
    refine lv_iadd hx hb d_MO_action_133 ?_
    refine va_iast hx hb hK hP hD hS 1 0 rfl rfl h.1 d_MO_action_134 (fun H locs hP hD hS => ?_)
    have h := h.2
    obtain ⟨f10, ef10⟩ : ∃ y : Nat → Int32, y = upd hactions L1.toNatClampNeg ((hactions L1.toNatClampNeg) + 1) := ⟨_, rfl⟩
    rw [← ef10] at hP hD
    have h := h f10 ef10
    have hP : va_P (dC, dI) vwCl [(a_mo, .inr (6, [.int th, .ref a_gactions, .ref a_gwhat, .ref a_gwhere, .ref a_gnumber, .ref b_done, .ref b_register, .ref b_memory, .ref b_size, .ref b_place, .ref b_value, .ref a_gknown, .ref b_tooMany, .ref b_states, .ref b_stuck, .ref b_outcomes, .ref b_front, .ref b_behind, .ref b_from, .ref b_step, .ref b_depth, .ref b_ends, .ref b_endOutcome, .ref b_cuts, .ref b_soonest, .ref b_chain, .ref b_next, .ref b_row])), (a_gactions, .inl (cI, 4, .inl f10)), (a_gwhat, .inl (cI, 20, .inl f7)), (a_gwhere, .inl (cI, 20, .inl f8)), (a_gnumber, .inl (cI, 20, .inl f9)), (a_gknown, .inl (cZ, 4, .inl hknown))] H := hP
    have hD : va_D A [(a_mo, .inr (6, [.int th, .ref a_gactions, .ref a_gwhat, .ref a_gwhere, .ref a_gnumber, .ref b_done, .ref b_register, .ref b_memory, .ref b_size, .ref b_place, .ref b_value, .ref a_gknown, .ref b_tooMany, .ref b_states, .ref b_stuck, .ref b_outcomes, .ref b_front, .ref b_behind, .ref b_from, .ref b_step, .ref b_depth, .ref b_ends, .ref b_endOutcome, .ref b_cuts, .ref b_soonest, .ref b_chain, .ref b_next, .ref b_row])), (a_gactions, .inl (cI, 4, .inl f10)), (a_gwhat, .inl (cI, 20, .inl f7)), (a_gwhere, .inl (cI, 20, .inl f8)), (a_gnumber, .inl (cI, 20, .inl f9)), (a_gknown, .inl (cZ, 4, .inl hknown))] := hD
    refine lv_aload_n hx hb d_MO_action_135 rfl (lv_at hl 0 rfl) ?_
    have hPc := hP.sub (ws' := [(a_mo, .inr (6, [.int th, .ref a_gactions, .ref a_gwhat, .ref a_gwhere, .ref a_gnumber, .ref b_done, .ref b_register, .ref b_memory, .ref b_size, .ref b_place, .ref b_value, .ref a_gknown, .ref b_tooMany, .ref b_states, .ref b_stuck, .ref b_outcomes, .ref b_front, .ref b_behind, .ref b_from, .ref b_step, .ref b_depth, .ref b_ends, .ref b_endOutcome, .ref b_cuts, .ref b_soonest, .ref b_chain, .ref b_next, .ref b_row])), (a_gknown, .inl (cZ, 4, .inl hknown))]) [0, 5] rfl
    have hDc := hD.sub (ws' := [(a_mo, .inr (6, [.int th, .ref a_gactions, .ref a_gwhat, .ref a_gwhere, .ref a_gnumber, .ref b_done, .ref b_register, .ref b_memory, .ref b_size, .ref b_place, .ref b_value, .ref a_gknown, .ref b_tooMany, .ref b_states, .ref b_stuck, .ref b_outcomes, .ref b_front, .ref b_behind, .ref b_from, .ref b_step, .ref b_depth, .ref b_ends, .ref b_endOutcome, .ref b_cuts, .ref b_soonest, .ref b_chain, .ref b_next, .ref b_row])), (a_gknown, .inl (cZ, 4, .inl hknown))]) [0, 5] (by decide) rfl
    have hFc := va_free (wc := [(a_mo, .inr (6, [.int th, .ref a_gactions, .ref a_gwhat, .ref a_gwhere, .ref a_gnumber, .ref b_done, .ref b_register, .ref b_memory, .ref b_size, .ref b_place, .ref b_value, .ref a_gknown, .ref b_tooMany, .ref b_states, .ref b_stuck, .ref b_outcomes, .ref b_front, .ref b_behind, .ref b_from, .ref b_step, .ref b_depth, .ref b_ends, .ref b_endOutcome, .ref b_cuts, .ref b_soonest, .ref b_chain, .ref b_next, .ref b_row])), (a_gknown, .inl (cZ, 4, .inl hknown))]) hD hS hA [0, 5] rfl
    refine va_callv (va_runV (As := []) (rest := []) ⟨hx, hb, hml, hown, hts⟩ (c_MO_forget l dC dI cI cJ cZ cQ a_mo a_gknown a_gactions a_gwhat a_gwhere a_gnumber b_done b_register b_memory b_size b_place b_value b_tooMany b_states b_stuck b_outcomes b_front b_behind b_from b_step b_depth b_ends b_endOutcome b_cuts b_soonest b_chain b_next b_row H.size th hknown _  h) (cwV 0 hts (goodIn_app (jGl (List.forall_mem_cons.mpr ⟨mw_964, List.forall_mem_cons.mpr ⟨mw_966, List.forall_mem_cons.mpr ⟨ms_MO_forget, List.forall_mem_cons.mpr ⟨mw_7, fun _ h => absurd h List.not_mem_nil⟩⟩⟩⟩)) (jG mw_967)) rfl rfl rfl (by decide +kernel) ⟨Nat.le_of_ble_eq_true rfl, Nat.le_of_ble_eq_true rfl⟩) ⟨jPre_blind, va_recv hK hPc (ci := 6) (q0 := 0) rfl rfl, jPre_in hPc hK hDc hZ hS hFc hst⟩ rfl rfl hl.1 rfl (lv_room (Nat.le_of_ble_eq_true rfl)) d_MO_action_136 ⟨(Nat.zero_le _), (Nat.zero_le _)⟩) hS (fun q _ h => hFc q h) hFc (fun u t H1 locs ht hvm hw hB hz1 hk1 hS => ?_)
    obtain ⟨u12, u13⟩ := u
    obtain ⟨hP1, hK1, hD1⟩ := hB
    rw [ht] at hP1
    have h := hw
    obtain ⟨hP, hD⟩ := va_join (wr := [(a_gactions, .inl (cI, 4, .inl f10)), (a_gwhat, .inl (cI, 20, .inl f7)), (a_gwhere, .inl (cI, 20, .inl f8)), (a_gnumber, .inl (cI, 20, .inl f9))]) (w1 := [(a_mo, .inr (6, [.int u12, .ref a_gactions, .ref a_gwhat, .ref a_gwhere, .ref a_gnumber, .ref b_done, .ref b_register, .ref b_memory, .ref b_size, .ref b_place, .ref b_value, .ref a_gknown, .ref b_tooMany, .ref b_states, .ref b_stuck, .ref b_outcomes, .ref b_front, .ref b_behind, .ref b_from, .ref b_step, .ref b_depth, .ref b_ends, .ref b_endOutcome, .ref b_cuts, .ref b_soonest, .ref b_chain, .ref b_next, .ref b_row])), (a_gknown, .inl (cZ, 4, .inl u13))]) hP hD [0, 5] [1, 2, 3, 4] rfl rfl (by decide) (by decide) hk1 hFc hP1 hD1
    generalize H1 = H at hP hS ⊢
    have hP : va_P (dC, dI) vwCl [(a_gactions, .inl (cI, 4, .inl f10)), (a_gwhat, .inl (cI, 20, .inl f7)), (a_gwhere, .inl (cI, 20, .inl f8)), (a_gnumber, .inl (cI, 20, .inl f9)), (a_mo, .inr (6, [.int u12, .ref a_gactions, .ref a_gwhat, .ref a_gwhere, .ref a_gnumber, .ref b_done, .ref b_register, .ref b_memory, .ref b_size, .ref b_place, .ref b_value, .ref a_gknown, .ref b_tooMany, .ref b_states, .ref b_stuck, .ref b_outcomes, .ref b_front, .ref b_behind, .ref b_from, .ref b_step, .ref b_depth, .ref b_ends, .ref b_endOutcome, .ref b_cuts, .ref b_soonest, .ref b_chain, .ref b_next, .ref b_row])), (a_gknown, .inl (cZ, 4, .inl u13))] H := hP
    have hD : va_D A [(a_gactions, .inl (cI, 4, .inl f10)), (a_gwhat, .inl (cI, 20, .inl f7)), (a_gwhere, .inl (cI, 20, .inl f8)), (a_gnumber, .inl (cI, 20, .inl f9)), (a_mo, .inr (6, [.int u12, .ref a_gactions, .ref a_gwhat, .ref a_gwhere, .ref a_gnumber, .ref b_done, .ref b_register, .ref b_memory, .ref b_size, .ref b_place, .ref b_value, .ref a_gknown, .ref b_tooMany, .ref b_states, .ref b_stuck, .ref b_outcomes, .ref b_front, .ref b_behind, .ref b_from, .ref b_step, .ref b_depth, .ref b_ends, .ref b_endOutcome, .ref b_cuts, .ref b_soonest, .ref b_chain, .ref b_next, .ref b_row])), (a_gknown, .inl (cZ, 4, .inl u13))] := hD
    refine lv_aload_n hx hb d_MO_action_139 rfl (lv_at hl 0 rfl) ?_
    refine va_get (D := (dC, dI)) (ci := 6) (v := .ref a_gactions) (C := R_MO) (T := T_MO) (N := 28) hx hb hts in_MO hown hK hP 4 rfl rfl 1 (by decide) (hts _ mw_864) (fun _ h9 => h9) rfl d_MO_action_140 ?_
    refine lv_iload_n hx hb d_MO_action_143 rfl (lv_at hl 1 rfl) ?_
    refine va_iald hx hb hK hP 0 0 rfl rfl h.1 d_MO_action_144 ?_
    have h := h.2
    have hP9 := hP.sub (ws' := [(a_mo, .inr (6, [.int u12, .ref a_gactions, .ref a_gwhat, .ref a_gwhere, .ref a_gnumber, .ref b_done, .ref b_register, .ref b_memory, .ref b_size, .ref b_place, .ref b_value, .ref a_gknown, .ref b_tooMany, .ref b_states, .ref b_stuck, .ref b_outcomes, .ref b_front, .ref b_behind, .ref b_from, .ref b_step, .ref b_depth, .ref b_ends, .ref b_endOutcome, .ref b_cuts, .ref b_soonest, .ref b_chain, .ref b_next, .ref b_row])), (a_gactions, .inl (cI, 4, .inl f10)), (a_gwhat, .inl (cI, 20, .inl f7)), (a_gwhere, .inl (cI, 20, .inl f8)), (a_gnumber, .inl (cI, 20, .inl f9)), (a_gknown, .inl (cZ, 4, .inl u13))]) [4, 0, 1, 2, 3, 5] rfl
    have hD9 := hD.sub (ws' := [(a_mo, .inr (6, [.int u12, .ref a_gactions, .ref a_gwhat, .ref a_gwhere, .ref a_gnumber, .ref b_done, .ref b_register, .ref b_memory, .ref b_size, .ref b_place, .ref b_value, .ref a_gknown, .ref b_tooMany, .ref b_states, .ref b_stuck, .ref b_outcomes, .ref b_front, .ref b_behind, .ref b_from, .ref b_step, .ref b_depth, .ref b_ends, .ref b_endOutcome, .ref b_cuts, .ref b_soonest, .ref b_chain, .ref b_next, .ref b_row])), (a_gactions, .inl (cI, 4, .inl f10)), (a_gwhat, .inl (cI, 20, .inl f7)), (a_gwhere, .inl (cI, 20, .inl f8)), (a_gnumber, .inl (cI, 20, .inl f9)), (a_gknown, .inl (cZ, 4, .inl u13))]) [4, 0, 1, 2, 3, 5] (by decide) rfl
    exact W.iret (v := f10 L1.toNatClampNeg) hx hb hr (fun t ht hW => ⟨⟨f10 L1.toNatClampNeg, (u12, f10, f7, f8, f9, u13), rfl, h, by rw [ht]; exact hP9, va_K.moved hW.alike hK, hD9⟩, hS.F ht⟩) hS.2.2 d_MO_action_145
  · have h := h.2 c67
    refine lv_aload_n hx hb d_MO_action_70 rfl (lv_at hl 0 rfl) ?_
    refine lv_iconst (v := 2) hx hb d_MO_action_71 (by decide) ?_
    have hPc := hP.sub (ws' := [(a_mo, .inr (6, [.int th, .ref a_gactions, .ref a_gwhat, .ref a_gwhere, .ref a_gnumber, .ref b_done, .ref b_register, .ref b_memory, .ref b_size, .ref b_place, .ref b_value, .ref a_gknown, .ref b_tooMany, .ref b_states, .ref b_stuck, .ref b_outcomes, .ref b_front, .ref b_behind, .ref b_from, .ref b_step, .ref b_depth, .ref b_ends, .ref b_endOutcome, .ref b_cuts, .ref b_soonest, .ref b_chain, .ref b_next, .ref b_row]))]) [0] rfl
    have hDc := hD.sub (ws' := [(a_mo, .inr (6, [.int th, .ref a_gactions, .ref a_gwhat, .ref a_gwhere, .ref a_gnumber, .ref b_done, .ref b_register, .ref b_memory, .ref b_size, .ref b_place, .ref b_value, .ref a_gknown, .ref b_tooMany, .ref b_states, .ref b_stuck, .ref b_outcomes, .ref b_front, .ref b_behind, .ref b_from, .ref b_step, .ref b_depth, .ref b_ends, .ref b_endOutcome, .ref b_cuts, .ref b_soonest, .ref b_chain, .ref b_next, .ref b_row]))]) [0] (by decide) rfl
    have hFc := va_free (wc := [(a_mo, .inr (6, [.int th, .ref a_gactions, .ref a_gwhat, .ref a_gwhere, .ref a_gnumber, .ref b_done, .ref b_register, .ref b_memory, .ref b_size, .ref b_place, .ref b_value, .ref a_gknown, .ref b_tooMany, .ref b_states, .ref b_stuck, .ref b_outcomes, .ref b_front, .ref b_behind, .ref b_from, .ref b_step, .ref b_depth, .ref b_ends, .ref b_endOutcome, .ref b_cuts, .ref b_soonest, .ref b_chain, .ref b_next, .ref b_row]))]) hD hS hA [0] rfl
    refine va_calli (va_runV (As := [.int 2]) (rest := []) ⟨hx, hb, hml, hown, hts⟩ (c_MO_fail l dC dI cI cJ cZ cQ a_mo a_gactions a_gwhat a_gwhere a_gnumber b_done b_register b_memory b_size b_place b_value a_gknown b_tooMany b_states b_stuck b_outcomes b_front b_behind b_from b_step b_depth b_ends b_endOutcome b_cuts b_soonest b_chain b_next b_row H.size th 2 _  h) (cwV 1 hts (goodIn_app (jGl (List.forall_mem_cons.mpr ⟨mw_960, List.forall_mem_cons.mpr ⟨mw_962, List.forall_mem_cons.mpr ⟨ms_MO_fail, List.forall_mem_cons.mpr ⟨mw_7, fun _ h => absurd h List.not_mem_nil⟩⟩⟩⟩)) (jG mw_963)) rfl rfl rfl (by decide +kernel) ⟨Nat.le_of_ble_eq_true rfl, Nat.le_of_ble_eq_true rfl⟩) ⟨jPre_blind, va_recv hK hPc (ci := 6) (q0 := 0) rfl rfl, jPre_in hPc hK hDc hZ hS hFc hst⟩ rfl rfl hl.1 rfl (lv_room (Nat.le_of_ble_eq_true rfl)) d_MO_action_72 ⟨(Nat.zero_le _), (Nat.zero_le _)⟩) hS (fun q _ h => hFc q h) hFc (fun r14 u t H1 locs ht hvm hw hB hz1 hk1 hS => ?_)
    obtain ⟨u15, rfl⟩ : ∃ z, z = u := ⟨_, rfl⟩
    obtain ⟨hP1, hK1, hD1⟩ := hB
    rw [ht] at hP1
    have h := hw
    obtain ⟨hP, hD⟩ := va_join (wr := [(a_gactions, .inl (cI, 4, .inl hactions)), (a_gwhat, .inl (cI, 20, .inl hwhat)), (a_gwhere, .inl (cI, 20, .inl hwhere)), (a_gnumber, .inl (cI, 20, .inl hnumber)), (a_gknown, .inl (cZ, 4, .inl hknown))]) (w1 := [(a_mo, .inr (6, [.int u15, .ref a_gactions, .ref a_gwhat, .ref a_gwhere, .ref a_gnumber, .ref b_done, .ref b_register, .ref b_memory, .ref b_size, .ref b_place, .ref b_value, .ref a_gknown, .ref b_tooMany, .ref b_states, .ref b_stuck, .ref b_outcomes, .ref b_front, .ref b_behind, .ref b_from, .ref b_step, .ref b_depth, .ref b_ends, .ref b_endOutcome, .ref b_cuts, .ref b_soonest, .ref b_chain, .ref b_next, .ref b_row]))]) hP hD [0] [1, 2, 3, 4, 5] rfl rfl (by decide) (by decide) hk1 hFc hP1 hD1
    generalize H1 = H at hP hS ⊢
    have hP : va_P (dC, dI) vwCl [(a_gactions, .inl (cI, 4, .inl hactions)), (a_gwhat, .inl (cI, 20, .inl hwhat)), (a_gwhere, .inl (cI, 20, .inl hwhere)), (a_gnumber, .inl (cI, 20, .inl hnumber)), (a_gknown, .inl (cZ, 4, .inl hknown)), (a_mo, .inr (6, [.int u15, .ref a_gactions, .ref a_gwhat, .ref a_gwhere, .ref a_gnumber, .ref b_done, .ref b_register, .ref b_memory, .ref b_size, .ref b_place, .ref b_value, .ref a_gknown, .ref b_tooMany, .ref b_states, .ref b_stuck, .ref b_outcomes, .ref b_front, .ref b_behind, .ref b_from, .ref b_step, .ref b_depth, .ref b_ends, .ref b_endOutcome, .ref b_cuts, .ref b_soonest, .ref b_chain, .ref b_next, .ref b_row]))] H := hP
    have hD : va_D A [(a_gactions, .inl (cI, 4, .inl hactions)), (a_gwhat, .inl (cI, 20, .inl hwhat)), (a_gwhere, .inl (cI, 20, .inl hwhere)), (a_gnumber, .inl (cI, 20, .inl hnumber)), (a_gknown, .inl (cZ, 4, .inl hknown)), (a_mo, .inr (6, [.int u15, .ref a_gactions, .ref a_gwhat, .ref a_gwhere, .ref a_gnumber, .ref b_done, .ref b_register, .ref b_memory, .ref b_size, .ref b_place, .ref b_value, .ref a_gknown, .ref b_tooMany, .ref b_states, .ref b_stuck, .ref b_outcomes, .ref b_front, .ref b_behind, .ref b_from, .ref b_step, .ref b_depth, .ref b_ends, .ref b_endOutcome, .ref b_cuts, .ref b_soonest, .ref b_chain, .ref b_next, .ref b_row]))] := hD
    have hP9 := hP.sub (ws' := [(a_mo, .inr (6, [.int u15, .ref a_gactions, .ref a_gwhat, .ref a_gwhere, .ref a_gnumber, .ref b_done, .ref b_register, .ref b_memory, .ref b_size, .ref b_place, .ref b_value, .ref a_gknown, .ref b_tooMany, .ref b_states, .ref b_stuck, .ref b_outcomes, .ref b_front, .ref b_behind, .ref b_from, .ref b_step, .ref b_depth, .ref b_ends, .ref b_endOutcome, .ref b_cuts, .ref b_soonest, .ref b_chain, .ref b_next, .ref b_row])), (a_gactions, .inl (cI, 4, .inl hactions)), (a_gwhat, .inl (cI, 20, .inl hwhat)), (a_gwhere, .inl (cI, 20, .inl hwhere)), (a_gnumber, .inl (cI, 20, .inl hnumber)), (a_gknown, .inl (cZ, 4, .inl hknown))]) [5, 0, 1, 2, 3, 4] rfl
    have hD9 := hD.sub (ws' := [(a_mo, .inr (6, [.int u15, .ref a_gactions, .ref a_gwhat, .ref a_gwhere, .ref a_gnumber, .ref b_done, .ref b_register, .ref b_memory, .ref b_size, .ref b_place, .ref b_value, .ref a_gknown, .ref b_tooMany, .ref b_states, .ref b_stuck, .ref b_outcomes, .ref b_front, .ref b_behind, .ref b_from, .ref b_step, .ref b_depth, .ref b_ends, .ref b_endOutcome, .ref b_cuts, .ref b_soonest, .ref b_chain, .ref b_next, .ref b_row])), (a_gactions, .inl (cI, 4, .inl hactions)), (a_gwhat, .inl (cI, 20, .inl hwhat)), (a_gwhere, .inl (cI, 20, .inl hwhere)), (a_gnumber, .inl (cI, 20, .inl hnumber)), (a_gknown, .inl (cZ, 4, .inl hknown))]) [5, 0, 1, 2, 3, 4] (by decide) rfl
    exact W.iret (v := r14) hx hb hr (fun t ht hW => ⟨⟨r14, (u15, hactions, hwhat, hwhere, hnumber, hknown), rfl, h, by rw [ht]; exact hP9, va_K.moved hW.alike hK, hD9⟩, hS.F ht⟩) hS.2.2 d_MO_action_75
set_option maxHeartbeats 4000000 in
set_option maxRecDepth 100000 in
theorem c_MO_action (l : Launch) (dC : Nat → ClassId) (dI : Nat → Nat → Nat) (cI cJ cZ cQ : ClassId) (a_mo a_gactions a_gwhat a_gwhere a_gnumber a_gknown b_done b_register b_memory b_size b_place b_value b_tooMany b_states b_stuck b_outcomes b_front b_behind b_from b_step b_depth b_ends b_endOutcome b_cuts b_soonest b_chain b_next b_row : Nat) (sz : Nat) (th : Int32) (hactions hwhat hwhere hnumber hknown : Nat → Int32) (a1 a2 a3 a4 : Int32) (Post : Int32 → Int32 → (Nat → Int32) → (Nat → Int32) → (Nat → Int32) → (Nat → Int32) → (Nat → Int32) → Prop) (h : wp_MO_action Post th hactions hwhat hwhere hnumber hknown a1 a2 a3 a4) : Met l y_MO_action (.code y_MO_action b_MO_action 5 (some .int) :: jW) ({ frames := 11, cells := 0, slots := 0, locals := 172 } : Room) (jPre l (dC, dI) cI cJ cZ cQ [(a_mo, .inr (6, [.int th, .ref a_gactions, .ref a_gwhat, .ref a_gwhere, .ref a_gnumber, .ref b_done, .ref b_register, .ref b_memory, .ref b_size, .ref b_place, .ref b_value, .ref a_gknown, .ref b_tooMany, .ref b_states, .ref b_stuck, .ref b_outcomes, .ref b_front, .ref b_behind, .ref b_from, .ref b_step, .ref b_depth, .ref b_ends, .ref b_endOutcome, .ref b_cuts, .ref b_soonest, .ref b_chain, .ref b_next, .ref b_row])), (a_gactions, .inl (cI, 4, .inl hactions)), (a_gwhat, .inl (cI, 20, .inl hwhat)), (a_gwhere, .inl (cI, 20, .inl hwhere)), (a_gnumber, .inl (cI, 20, .inl hnumber)), (a_gknown, .inl (cZ, 4, .inl hknown))] sz [.ref a_mo, .int a1, .int a2, .int a3, .int a4]) (jQ_MO_action dC dI cI cJ cZ cQ (va_A [(a_mo, .inr (6, [.int th, .ref a_gactions, .ref a_gwhat, .ref a_gwhere, .ref a_gnumber, .ref b_done, .ref b_register, .ref b_memory, .ref b_size, .ref b_place, .ref b_value, .ref a_gknown, .ref b_tooMany, .ref b_states, .ref b_stuck, .ref b_outcomes, .ref b_front, .ref b_behind, .ref b_from, .ref b_step, .ref b_depth, .ref b_ends, .ref b_endOutcome, .ref b_cuts, .ref b_soonest, .ref b_chain, .ref b_next, .ref b_row])), (a_gactions, .inl (cI, 4, .inl hactions)), (a_gwhat, .inl (cI, 20, .inl hwhat)), (a_gwhere, .inl (cI, 20, .inl hwhere)), (a_gnumber, .inl (cI, 20, .inl hnumber)), (a_gknown, .inl (cZ, 4, .inl hknown))] sz) a_mo a_gactions a_gwhat a_gwhere a_gnumber a_gknown b_done b_register b_memory b_size b_place b_value b_tooMany b_states b_stuck b_outcomes b_front b_behind b_from b_step b_depth b_ends b_endOutcome b_cuts b_soonest b_chain b_next b_row Post) 0 0 (va_A [(a_mo, .inr (6, [.int th, .ref a_gactions, .ref a_gwhat, .ref a_gwhere, .ref a_gnumber, .ref b_done, .ref b_register, .ref b_memory, .ref b_size, .ref b_place, .ref b_value, .ref a_gknown, .ref b_tooMany, .ref b_states, .ref b_stuck, .ref b_outcomes, .ref b_front, .ref b_behind, .ref b_from, .ref b_step, .ref b_depth, .ref b_ends, .ref b_endOutcome, .ref b_cuts, .ref b_soonest, .ref b_chain, .ref b_next, .ref b_row])), (a_gactions, .inl (cI, 4, .inl hactions)), (a_gwhat, .inl (cI, 20, .inl hwhat)), (a_gwhere, .inl (cI, 20, .inl hwhere)), (a_gnumber, .inl (cI, 20, .inl hnumber)), (a_gknown, .inl (cZ, 4, .inl hknown))] sz) := by
  refine Met.ofW (cc := b_MO_action) (maxL := 5) (ret := (some .int)) (by decide) rfl ?_
  intro p e s m args below meth c s₁ B hml hv
  obtain ⟨rfl, hsz, hP, hK, hD0, hZ, hst⟩ := hv
  subst hsz
  have hD := hD0.self (sz := s.heap.size)
  generalize hAe : va_A [(a_mo, .inr (6, [.int th, .ref a_gactions, .ref a_gwhat, .ref a_gwhere, .ref a_gnumber, .ref b_done, .ref b_register, .ref b_memory, .ref b_size, .ref b_place, .ref b_value, .ref a_gknown, .ref b_tooMany, .ref b_states, .ref b_stuck, .ref b_outcomes, .ref b_front, .ref b_behind, .ref b_from, .ref b_step, .ref b_depth, .ref b_ends, .ref b_endOutcome, .ref b_cuts, .ref b_soonest, .ref b_chain, .ref b_next, .ref b_row])), (a_gactions, .inl (cI, 4, .inl hactions)), (a_gwhat, .inl (cI, 20, .inl hwhat)), (a_gwhere, .inl (cI, 20, .inl hwhere)), (a_gnumber, .inl (cI, 20, .inl hnumber)), (a_gknown, .inl (cZ, 4, .inl hknown))] s.heap.size = A at hD hZ ⊢
  have hA : ∀ q : Nat, s.heap.size ≤ q → A q := fun q h => by rw [← hAe]; exact Or.inr h
  have C0 : jC p l s m ([.ref a_mo, .int a1, .int a2, .int a3, .int a4] : List Value).toArray meth c b_MO_action (some .int) 5 R_MO (dC, dI) cI cJ cZ cQ A := ⟨B.exec, B.bytes, B.returns, hml, findClass_of_methodNamed B.named, fun w hw => atoms_spec (ws := (.code y_MO_action b_MO_action 5 (some .int) :: jW)) B.pre w (List.mem_cons_of_mem _ hw), B.notSynchronized, hK, hZ, hA, hst⟩
  obtain ⟨hx, hb, hr, hml, hown, hts, hlocks, hK, hZ, hA, hst⟩ := id C0
  have hS : va_S A s.heap s.heap [] := va_S.rf
  have hl := lv_entry ([.ref a_mo, .int a1, .int a2, .int a3, .int a4]) (n := 5) (Nat.le_of_ble_eq_true rfl)
  rw [lg_entry_eq]
  generalize (lg_sl ([.ref a_mo, .int a1, .int a2, .int a3, .int a4]) ++ List.replicate (5 - (lg_sl ([.ref a_mo, .int a1, .int a2, .int a3, .int a4])).length) Slot.unset).toArray = ls at hl ⊢
  have hl : lv_has ls 5 [(0, .ref a_mo), (1, .int a1), (2, .int a2), (3, .int a3), (4, .int a4)] := hl
  obtain ⟨H, hH⟩ : ∃ H : Heap, H = s.heap := ⟨_, rfl⟩
  obtain ⟨locs, hlc⟩ : ∃ L : List Loc, L = [] := ⟨_, rfl⟩
  have hP : va_P (dC, dI) vwCl [(a_mo, .inr (6, [.int th, .ref a_gactions, .ref a_gwhat, .ref a_gwhere, .ref a_gnumber, .ref b_done, .ref b_register, .ref b_memory, .ref b_size, .ref b_place, .ref b_value, .ref a_gknown, .ref b_tooMany, .ref b_states, .ref b_stuck, .ref b_outcomes, .ref b_front, .ref b_behind, .ref b_from, .ref b_step, .ref b_depth, .ref b_ends, .ref b_endOutcome, .ref b_cuts, .ref b_soonest, .ref b_chain, .ref b_next, .ref b_row])), (a_gactions, .inl (cI, 4, .inl hactions)), (a_gwhat, .inl (cI, 20, .inl hwhat)), (a_gwhere, .inl (cI, 20, .inl hwhere)), (a_gnumber, .inl (cI, 20, .inl hnumber)), (a_gknown, .inl (cZ, 4, .inl hknown))] H := by rw [hH]; exact hP
  have hS : va_S A s.heap H locs := by rw [hH, hlc]; exact hS
  suffices hW9 : W p l e ({ frames := 11, cells := 0, slots := 0, locals := 172 } : Room) s m ([.ref a_mo, .int a1, .int a2, .int a3, .int a4] : List Value).toArray below meth c H locs 0 0 (MQ below (jQ_MO_action dC dI cI cJ cZ cQ A a_mo a_gactions a_gwhat a_gwhere a_gnumber a_gknown b_done b_register b_memory b_size b_place b_value b_tooMany b_states b_stuck b_outcomes b_front b_behind b_from b_step b_depth b_ends b_endOutcome b_cuts b_soonest b_chain b_next b_row Post) ([.ref a_mo, .int a1, .int a2, .int a3, .int a4] : List Value).toArray s 0 0 A) (F0 m 0 ls []) by rw [hH, hlc] at hW9; exact hW9
  clear hH hlc
  rw [wp_MO_action] at h
  refine lv_aload_n hx hb d_MO_action_0 rfl (lv_at hl 0 rfl) ?_
  refine lv_iconst (v := 0) hx hb d_MO_action_1 (by decide) ?_
  refine va_put (D := (dC, dI)) (ci := 6) (v := .int 0) (ty := .int) (C := R_MO) (T := T_MO) (N := 28) hx hb hts in_MO ty_MO tok_MO nm_MO hown hK hP hD hS 0 rfl rfl 0 (by decide) (hts _ mw_863) (fun _ h9 => h9) rfl (by decide +kernel) rfl rfl (Nat.le_of_ble_eq_true rfl) d_MO_action_2 (fun H locs hP hD hS => ?_)
  have hP : va_P (dC, dI) vwCl [(a_mo, .inr (6, [.int 0, .ref a_gactions, .ref a_gwhat, .ref a_gwhere, .ref a_gnumber, .ref b_done, .ref b_register, .ref b_memory, .ref b_size, .ref b_place, .ref b_value, .ref a_gknown, .ref b_tooMany, .ref b_states, .ref b_stuck, .ref b_outcomes, .ref b_front, .ref b_behind, .ref b_from, .ref b_step, .ref b_depth, .ref b_ends, .ref b_endOutcome, .ref b_cuts, .ref b_soonest, .ref b_chain, .ref b_next, .ref b_row])), (a_gactions, .inl (cI, 4, .inl hactions)), (a_gwhat, .inl (cI, 20, .inl hwhat)), (a_gwhere, .inl (cI, 20, .inl hwhere)), (a_gnumber, .inl (cI, 20, .inl hnumber)), (a_gknown, .inl (cZ, 4, .inl hknown))] H := hP
  have hD : va_D A [(a_mo, .inr (6, [.int 0, .ref a_gactions, .ref a_gwhat, .ref a_gwhere, .ref a_gnumber, .ref b_done, .ref b_register, .ref b_memory, .ref b_size, .ref b_place, .ref b_value, .ref a_gknown, .ref b_tooMany, .ref b_states, .ref b_stuck, .ref b_outcomes, .ref b_front, .ref b_behind, .ref b_from, .ref b_step, .ref b_depth, .ref b_ends, .ref b_endOutcome, .ref b_cuts, .ref b_soonest, .ref b_chain, .ref b_next, .ref b_row])), (a_gactions, .inl (cI, 4, .inl hactions)), (a_gwhat, .inl (cI, 20, .inl hwhat)), (a_gwhere, .inl (cI, 20, .inl hwhere)), (a_gnumber, .inl (cI, 20, .inl hnumber)), (a_gknown, .inl (cZ, 4, .inl hknown))] := hD
  refine lv_iload_n hx hb d_MO_action_5 rfl (lv_at hl 1 rfl) ?_
  refine lv_iconst (v := 0) hx hb d_MO_action_6 (by decide) ?_
  refine lv_iconst (v := 3) hx hb d_MO_action_7 (by decide) ?_
  have hPc := hP.sub (ws' := []) [] rfl
  have hDc := hD.sub (ws' := []) [] (by decide) rfl
  have hFc := va_free (wc := []) hD hS hA [] rfl
  refine va_calli (va_runS (As := [.int a1, .int 0, .int 3]) (rest := []) ⟨hx, hb, hml, hown, hts⟩ (c_MO_within l dC dI cI cJ cZ cQ  H.size a1 0 3 _  h) (va_cwS 3 hts (goodIn_app (jGl (List.forall_mem_cons.mpr ⟨mw_957, List.forall_mem_cons.mpr ⟨mw_958, List.forall_mem_cons.mpr ⟨mw_7, fun _ h => absurd h List.not_mem_nil⟩⟩⟩)) (jG mw_959)) rfl rfl rfl (by decide +kernel) ⟨Nat.le_of_ble_eq_true rfl, Nat.le_of_ble_eq_true rfl⟩) ⟨jPre_blind, jPre_in hPc hK hDc hZ hS hFc hst⟩ rfl rfl hl.1 rfl (lv_room (Nat.le_of_ble_eq_true rfl)) d_MO_action_8 ⟨(Nat.zero_le _), (Nat.zero_le _)⟩) hS (fun q _ h => hFc q h) hFc (fun r1 u t H1 locs ht hvm hw hB hz1 hk1 hS => ?_)
  obtain ⟨hP1, hK1, hD1⟩ := hB
  rw [ht] at hP1
  have h := hw
  obtain ⟨hP, hD⟩ := va_join (wr := [(a_mo, .inr (6, [.int 0, .ref a_gactions, .ref a_gwhat, .ref a_gwhere, .ref a_gnumber, .ref b_done, .ref b_register, .ref b_memory, .ref b_size, .ref b_place, .ref b_value, .ref a_gknown, .ref b_tooMany, .ref b_states, .ref b_stuck, .ref b_outcomes, .ref b_front, .ref b_behind, .ref b_from, .ref b_step, .ref b_depth, .ref b_ends, .ref b_endOutcome, .ref b_cuts, .ref b_soonest, .ref b_chain, .ref b_next, .ref b_row])), (a_gactions, .inl (cI, 4, .inl hactions)), (a_gwhat, .inl (cI, 20, .inl hwhat)), (a_gwhere, .inl (cI, 20, .inl hwhere)), (a_gnumber, .inl (cI, 20, .inl hnumber)), (a_gknown, .inl (cZ, 4, .inl hknown))]) (w1 := []) hP hD [] [0, 1, 2, 3, 4, 5] rfl rfl (by decide) (by decide) hk1 hFc hP1 hD1
  generalize H1 = H at hP hS ⊢
  have hP : va_P (dC, dI) vwCl [(a_mo, .inr (6, [.int 0, .ref a_gactions, .ref a_gwhat, .ref a_gwhere, .ref a_gnumber, .ref b_done, .ref b_register, .ref b_memory, .ref b_size, .ref b_place, .ref b_value, .ref a_gknown, .ref b_tooMany, .ref b_states, .ref b_stuck, .ref b_outcomes, .ref b_front, .ref b_behind, .ref b_from, .ref b_step, .ref b_depth, .ref b_ends, .ref b_endOutcome, .ref b_cuts, .ref b_soonest, .ref b_chain, .ref b_next, .ref b_row])), (a_gactions, .inl (cI, 4, .inl hactions)), (a_gwhat, .inl (cI, 20, .inl hwhat)), (a_gwhere, .inl (cI, 20, .inl hwhere)), (a_gnumber, .inl (cI, 20, .inl hnumber)), (a_gknown, .inl (cZ, 4, .inl hknown))] H := hP
  have hD : va_D A [(a_mo, .inr (6, [.int 0, .ref a_gactions, .ref a_gwhat, .ref a_gwhere, .ref a_gnumber, .ref b_done, .ref b_register, .ref b_memory, .ref b_size, .ref b_place, .ref b_value, .ref a_gknown, .ref b_tooMany, .ref b_states, .ref b_stuck, .ref b_outcomes, .ref b_front, .ref b_behind, .ref b_from, .ref b_step, .ref b_depth, .ref b_ends, .ref b_endOutcome, .ref b_cuts, .ref b_soonest, .ref b_chain, .ref b_next, .ref b_row])), (a_gactions, .inl (cI, 4, .inl hactions)), (a_gwhat, .inl (cI, 20, .inl hwhat)), (a_gwhere, .inl (cI, 20, .inl hwhere)), (a_gnumber, .inl (cI, 20, .inl hnumber)), (a_gknown, .inl (cZ, 4, .inl hknown))] := hD
  refine lv_if_eq (tgt := 54) hx hb d_MO_action_11 (by decide) (fun c11 => ?_) (fun c11 => ?_)
  · have h := h.1 c11
    exact l_MO_action_54 C0  0 hactions hwhat hwhere hnumber hknown  H locs ls h hP hD hS (lv_sub hl [0] rfl)
  · have h := h.2 c11
    refine lv_iload_n hx hb d_MO_action_14 rfl (lv_at hl 2 rfl) ?_
    refine lv_iconst (v := 0) hx hb d_MO_action_15 (by decide) ?_
    refine lv_iconst (v := 3) hx hb d_MO_action_16 (by decide) ?_
    have hPc := hP.sub (ws' := []) [] rfl
    have hDc := hD.sub (ws' := []) [] (by decide) rfl
    have hFc := va_free (wc := []) hD hS hA [] rfl
    refine va_calli (va_runS (As := [.int a2, .int 0, .int 3]) (rest := []) ⟨hx, hb, hml, hown, hts⟩ (c_MO_within l dC dI cI cJ cZ cQ  H.size a2 0 3 _  h) (va_cwS 3 hts (goodIn_app (jGl (List.forall_mem_cons.mpr ⟨mw_957, List.forall_mem_cons.mpr ⟨mw_958, List.forall_mem_cons.mpr ⟨mw_7, fun _ h => absurd h List.not_mem_nil⟩⟩⟩)) (jG mw_959)) rfl rfl rfl (by decide +kernel) ⟨Nat.le_of_ble_eq_true rfl, Nat.le_of_ble_eq_true rfl⟩) ⟨jPre_blind, jPre_in hPc hK hDc hZ hS hFc hst⟩ rfl rfl hl.1 rfl (lv_room (Nat.le_of_ble_eq_true rfl)) d_MO_action_17 ⟨(Nat.zero_le _), (Nat.zero_le _)⟩) hS (fun q _ h => hFc q h) hFc (fun r2 u t H1 locs ht hvm hw hB hz1 hk1 hS => ?_)
    obtain ⟨hP1, hK1, hD1⟩ := hB
    rw [ht] at hP1
    have h := hw
    obtain ⟨hP, hD⟩ := va_join (wr := [(a_mo, .inr (6, [.int 0, .ref a_gactions, .ref a_gwhat, .ref a_gwhere, .ref a_gnumber, .ref b_done, .ref b_register, .ref b_memory, .ref b_size, .ref b_place, .ref b_value, .ref a_gknown, .ref b_tooMany, .ref b_states, .ref b_stuck, .ref b_outcomes, .ref b_front, .ref b_behind, .ref b_from, .ref b_step, .ref b_depth, .ref b_ends, .ref b_endOutcome, .ref b_cuts, .ref b_soonest, .ref b_chain, .ref b_next, .ref b_row])), (a_gactions, .inl (cI, 4, .inl hactions)), (a_gwhat, .inl (cI, 20, .inl hwhat)), (a_gwhere, .inl (cI, 20, .inl hwhere)), (a_gnumber, .inl (cI, 20, .inl hnumber)), (a_gknown, .inl (cZ, 4, .inl hknown))]) (w1 := []) hP hD [] [0, 1, 2, 3, 4, 5] rfl rfl (by decide) (by decide) hk1 hFc hP1 hD1
    generalize H1 = H at hP hS ⊢
    have hP : va_P (dC, dI) vwCl [(a_mo, .inr (6, [.int 0, .ref a_gactions, .ref a_gwhat, .ref a_gwhere, .ref a_gnumber, .ref b_done, .ref b_register, .ref b_memory, .ref b_size, .ref b_place, .ref b_value, .ref a_gknown, .ref b_tooMany, .ref b_states, .ref b_stuck, .ref b_outcomes, .ref b_front, .ref b_behind, .ref b_from, .ref b_step, .ref b_depth, .ref b_ends, .ref b_endOutcome, .ref b_cuts, .ref b_soonest, .ref b_chain, .ref b_next, .ref b_row])), (a_gactions, .inl (cI, 4, .inl hactions)), (a_gwhat, .inl (cI, 20, .inl hwhat)), (a_gwhere, .inl (cI, 20, .inl hwhere)), (a_gnumber, .inl (cI, 20, .inl hnumber)), (a_gknown, .inl (cZ, 4, .inl hknown))] H := hP
    have hD : va_D A [(a_mo, .inr (6, [.int 0, .ref a_gactions, .ref a_gwhat, .ref a_gwhere, .ref a_gnumber, .ref b_done, .ref b_register, .ref b_memory, .ref b_size, .ref b_place, .ref b_value, .ref a_gknown, .ref b_tooMany, .ref b_states, .ref b_stuck, .ref b_outcomes, .ref b_front, .ref b_behind, .ref b_from, .ref b_step, .ref b_depth, .ref b_ends, .ref b_endOutcome, .ref b_cuts, .ref b_soonest, .ref b_chain, .ref b_next, .ref b_row])), (a_gactions, .inl (cI, 4, .inl hactions)), (a_gwhat, .inl (cI, 20, .inl hwhat)), (a_gwhere, .inl (cI, 20, .inl hwhere)), (a_gnumber, .inl (cI, 20, .inl hnumber)), (a_gknown, .inl (cZ, 4, .inl hknown))] := hD
    refine lv_if_eq (tgt := 54) hx hb d_MO_action_20 (by decide) (fun c20 => ?_) (fun c20 => ?_)
    · have h := h.1 c20
      exact l_MO_action_54 C0  0 hactions hwhat hwhere hnumber hknown  H locs ls h hP hD hS (lv_sub hl [0] rfl)
    · have h := h.2 c20
      refine lv_iload_n hx hb d_MO_action_23 rfl (lv_at hl 3 rfl) ?_
      refine lv_iconst (v := 0) hx hb d_MO_action_24 (by decide) ?_
      refine lv_iconst (v := 3) hx hb d_MO_action_25 (by decide) ?_
      have hPc := hP.sub (ws' := []) [] rfl
      have hDc := hD.sub (ws' := []) [] (by decide) rfl
      have hFc := va_free (wc := []) hD hS hA [] rfl
      refine va_calli (va_runS (As := [.int a3, .int 0, .int 3]) (rest := []) ⟨hx, hb, hml, hown, hts⟩ (c_MO_within l dC dI cI cJ cZ cQ  H.size a3 0 3 _  h) (va_cwS 3 hts (goodIn_app (jGl (List.forall_mem_cons.mpr ⟨mw_957, List.forall_mem_cons.mpr ⟨mw_958, List.forall_mem_cons.mpr ⟨mw_7, fun _ h => absurd h List.not_mem_nil⟩⟩⟩)) (jG mw_959)) rfl rfl rfl (by decide +kernel) ⟨Nat.le_of_ble_eq_true rfl, Nat.le_of_ble_eq_true rfl⟩) ⟨jPre_blind, jPre_in hPc hK hDc hZ hS hFc hst⟩ rfl rfl hl.1 rfl (lv_room (Nat.le_of_ble_eq_true rfl)) d_MO_action_26 ⟨(Nat.zero_le _), (Nat.zero_le _)⟩) hS (fun q _ h => hFc q h) hFc (fun r3 u t H1 locs ht hvm hw hB hz1 hk1 hS => ?_)
      obtain ⟨hP1, hK1, hD1⟩ := hB
      rw [ht] at hP1
      have h := hw
      obtain ⟨hP, hD⟩ := va_join (wr := [(a_mo, .inr (6, [.int 0, .ref a_gactions, .ref a_gwhat, .ref a_gwhere, .ref a_gnumber, .ref b_done, .ref b_register, .ref b_memory, .ref b_size, .ref b_place, .ref b_value, .ref a_gknown, .ref b_tooMany, .ref b_states, .ref b_stuck, .ref b_outcomes, .ref b_front, .ref b_behind, .ref b_from, .ref b_step, .ref b_depth, .ref b_ends, .ref b_endOutcome, .ref b_cuts, .ref b_soonest, .ref b_chain, .ref b_next, .ref b_row])), (a_gactions, .inl (cI, 4, .inl hactions)), (a_gwhat, .inl (cI, 20, .inl hwhat)), (a_gwhere, .inl (cI, 20, .inl hwhere)), (a_gnumber, .inl (cI, 20, .inl hnumber)), (a_gknown, .inl (cZ, 4, .inl hknown))]) (w1 := []) hP hD [] [0, 1, 2, 3, 4, 5] rfl rfl (by decide) (by decide) hk1 hFc hP1 hD1
      generalize H1 = H at hP hS ⊢
      have hP : va_P (dC, dI) vwCl [(a_mo, .inr (6, [.int 0, .ref a_gactions, .ref a_gwhat, .ref a_gwhere, .ref a_gnumber, .ref b_done, .ref b_register, .ref b_memory, .ref b_size, .ref b_place, .ref b_value, .ref a_gknown, .ref b_tooMany, .ref b_states, .ref b_stuck, .ref b_outcomes, .ref b_front, .ref b_behind, .ref b_from, .ref b_step, .ref b_depth, .ref b_ends, .ref b_endOutcome, .ref b_cuts, .ref b_soonest, .ref b_chain, .ref b_next, .ref b_row])), (a_gactions, .inl (cI, 4, .inl hactions)), (a_gwhat, .inl (cI, 20, .inl hwhat)), (a_gwhere, .inl (cI, 20, .inl hwhere)), (a_gnumber, .inl (cI, 20, .inl hnumber)), (a_gknown, .inl (cZ, 4, .inl hknown))] H := hP
      have hD : va_D A [(a_mo, .inr (6, [.int 0, .ref a_gactions, .ref a_gwhat, .ref a_gwhere, .ref a_gnumber, .ref b_done, .ref b_register, .ref b_memory, .ref b_size, .ref b_place, .ref b_value, .ref a_gknown, .ref b_tooMany, .ref b_states, .ref b_stuck, .ref b_outcomes, .ref b_front, .ref b_behind, .ref b_from, .ref b_step, .ref b_depth, .ref b_ends, .ref b_endOutcome, .ref b_cuts, .ref b_soonest, .ref b_chain, .ref b_next, .ref b_row])), (a_gactions, .inl (cI, 4, .inl hactions)), (a_gwhat, .inl (cI, 20, .inl hwhat)), (a_gwhere, .inl (cI, 20, .inl hwhere)), (a_gnumber, .inl (cI, 20, .inl hnumber)), (a_gknown, .inl (cZ, 4, .inl hknown))] := hD
      refine lv_if_eq (tgt := 54) hx hb d_MO_action_29 (by decide) (fun c29 => ?_) (fun c29 => ?_)
      · have h := h.1 c29
        exact l_MO_action_54 C0  0 hactions hwhat hwhere hnumber hknown  H locs ls h hP hD hS (lv_sub hl [0] rfl)
      · have h := h.2 c29
        refine lv_iload hx hb d_MO_action_32 (lv_at hl 4 rfl) ?_
        refine lv_iconst (v := 0) hx hb d_MO_action_34 (by decide) ?_
        refine lv_iconst (v := 3) hx hb d_MO_action_35 (by decide) ?_
        have hPc := hP.sub (ws' := []) [] rfl
        have hDc := hD.sub (ws' := []) [] (by decide) rfl
        have hFc := va_free (wc := []) hD hS hA [] rfl
        refine va_calli (va_runS (As := [.int a4, .int 0, .int 3]) (rest := []) ⟨hx, hb, hml, hown, hts⟩ (c_MO_within l dC dI cI cJ cZ cQ  H.size a4 0 3 _  h) (va_cwS 3 hts (goodIn_app (jGl (List.forall_mem_cons.mpr ⟨mw_957, List.forall_mem_cons.mpr ⟨mw_958, List.forall_mem_cons.mpr ⟨mw_7, fun _ h => absurd h List.not_mem_nil⟩⟩⟩)) (jG mw_959)) rfl rfl rfl (by decide +kernel) ⟨Nat.le_of_ble_eq_true rfl, Nat.le_of_ble_eq_true rfl⟩) ⟨jPre_blind, jPre_in hPc hK hDc hZ hS hFc hst⟩ rfl rfl hl.1 rfl (lv_room (Nat.le_of_ble_eq_true rfl)) d_MO_action_36 ⟨(Nat.zero_le _), (Nat.zero_le _)⟩) hS (fun q _ h => hFc q h) hFc (fun r4 u t H1 locs ht hvm hw hB hz1 hk1 hS => ?_)
        obtain ⟨hP1, hK1, hD1⟩ := hB
        rw [ht] at hP1
        have h := hw
        obtain ⟨hP, hD⟩ := va_join (wr := [(a_mo, .inr (6, [.int 0, .ref a_gactions, .ref a_gwhat, .ref a_gwhere, .ref a_gnumber, .ref b_done, .ref b_register, .ref b_memory, .ref b_size, .ref b_place, .ref b_value, .ref a_gknown, .ref b_tooMany, .ref b_states, .ref b_stuck, .ref b_outcomes, .ref b_front, .ref b_behind, .ref b_from, .ref b_step, .ref b_depth, .ref b_ends, .ref b_endOutcome, .ref b_cuts, .ref b_soonest, .ref b_chain, .ref b_next, .ref b_row])), (a_gactions, .inl (cI, 4, .inl hactions)), (a_gwhat, .inl (cI, 20, .inl hwhat)), (a_gwhere, .inl (cI, 20, .inl hwhere)), (a_gnumber, .inl (cI, 20, .inl hnumber)), (a_gknown, .inl (cZ, 4, .inl hknown))]) (w1 := []) hP hD [] [0, 1, 2, 3, 4, 5] rfl rfl (by decide) (by decide) hk1 hFc hP1 hD1
        generalize H1 = H at hP hS ⊢
        have hP : va_P (dC, dI) vwCl [(a_mo, .inr (6, [.int 0, .ref a_gactions, .ref a_gwhat, .ref a_gwhere, .ref a_gnumber, .ref b_done, .ref b_register, .ref b_memory, .ref b_size, .ref b_place, .ref b_value, .ref a_gknown, .ref b_tooMany, .ref b_states, .ref b_stuck, .ref b_outcomes, .ref b_front, .ref b_behind, .ref b_from, .ref b_step, .ref b_depth, .ref b_ends, .ref b_endOutcome, .ref b_cuts, .ref b_soonest, .ref b_chain, .ref b_next, .ref b_row])), (a_gactions, .inl (cI, 4, .inl hactions)), (a_gwhat, .inl (cI, 20, .inl hwhat)), (a_gwhere, .inl (cI, 20, .inl hwhere)), (a_gnumber, .inl (cI, 20, .inl hnumber)), (a_gknown, .inl (cZ, 4, .inl hknown))] H := hP
        have hD : va_D A [(a_mo, .inr (6, [.int 0, .ref a_gactions, .ref a_gwhat, .ref a_gwhere, .ref a_gnumber, .ref b_done, .ref b_register, .ref b_memory, .ref b_size, .ref b_place, .ref b_value, .ref a_gknown, .ref b_tooMany, .ref b_states, .ref b_stuck, .ref b_outcomes, .ref b_front, .ref b_behind, .ref b_from, .ref b_step, .ref b_depth, .ref b_ends, .ref b_endOutcome, .ref b_cuts, .ref b_soonest, .ref b_chain, .ref b_next, .ref b_row])), (a_gactions, .inl (cI, 4, .inl hactions)), (a_gwhat, .inl (cI, 20, .inl hwhat)), (a_gwhere, .inl (cI, 20, .inl hwhere)), (a_gnumber, .inl (cI, 20, .inl hnumber)), (a_gknown, .inl (cZ, 4, .inl hknown))] := hD
        refine lv_if_eq (tgt := 54) hx hb d_MO_action_39 (by decide) (fun c39 => ?_) (fun c39 => ?_)
        · have h := h.1 c39
          exact l_MO_action_54 C0  0 hactions hwhat hwhere hnumber hknown  H locs ls h hP hD hS (lv_sub hl [0] rfl)
        · have h := h.2 c39
          refine lv_iload_n hx hb d_MO_action_42 rfl (lv_at hl 2 rfl) ?_
          refine lv_iconst (v := 2) hx hb d_MO_action_43 (by decide) ?_
          refine lv_icmp_ne (tgt := 60) hx hb d_MO_action_44 (by decide) (fun c44 => ?_) (fun c44 => ?_)
          · have h := h.1 c44
            exact l_MO_action_60 C0  0 hactions hwhat hwhere hnumber hknown a1 a2 a3 a4  H locs ls h hP hD hS hl
          · have h := h.2 c44
            refine lv_iload_n hx hb d_MO_action_47 rfl (lv_at hl 3 rfl) ?_
            refine lv_iload hx hb d_MO_action_48 (lv_at hl 4 rfl) ?_
            refine lv_iadd hx hb d_MO_action_50 ?_
            refine lv_if_le (tgt := 60) hx hb d_MO_action_51 (by decide) (fun c51 => ?_) (fun c51 => ?_)
            · have h := h.1 c51
              exact l_MO_action_60 C0  0 hactions hwhat hwhere hnumber hknown a1 a2 a3 a4  H locs ls h hP hD hS hl
            · have h := h.2 c51
              exact l_MO_action_54 C0  0 hactions hwhat hwhere hnumber hknown  H locs ls h hP hD hS (lv_sub hl [0] rfl)

/-- what OrderMachinesModel.clear()V leaves -/
abbrev jQ_MO_clear (dC : Nat → ClassId) (dI : Nat → Nat → Nat) (cI cJ cZ cQ : ClassId) (A : Nat → Prop) (a_mo a_gactions a_gknown b_what b_where b_number b_done b_register b_memory b_size b_place b_value b_tooMany b_states b_stuck b_outcomes b_front b_behind b_from b_step b_depth b_ends b_endOutcome b_cuts b_soonest b_chain b_next b_row : Nat) (Post : Int32 → (Nat → Int32) → (Nat → Int32) → Prop) : Array Value → State → Outcome → State → Prop := va_Qv (fun (u : Int32 × (Nat → Int32) × (Nat → Int32)) => Post u.1 u.2.1 u.2.2) (fun (u : Int32 × (Nat → Int32) × (Nat → Int32)) (t : State) => match u with
  | (th, hactions, hknown) => jPost (dC, dI) (jT cI cJ cZ cQ) A [(a_mo, .inr (6, [.int th, .ref a_gactions, .ref b_what, .ref b_where, .ref b_number, .ref b_done, .ref b_register, .ref b_memory, .ref b_size, .ref b_place, .ref b_value, .ref a_gknown, .ref b_tooMany, .ref b_states, .ref b_stuck, .ref b_outcomes, .ref b_front, .ref b_behind, .ref b_from, .ref b_step, .ref b_depth, .ref b_ends, .ref b_endOutcome, .ref b_cuts, .ref b_soonest, .ref b_chain, .ref b_next, .ref b_row])), (a_gactions, .inl (cI, 4, .inl hactions)), (a_gknown, .inl (cZ, 4, .inl hknown))] t) A
def wp_MO_clear_7 (Post : Int32 → (Nat → Int32) → (Nat → Int32) → Prop)  : Nat → Int32 → (Nat → Int32) → (Nat → Int32) → Int32 → Prop
  | 0, _, _, _, _ => False
  | n_7 + 1, th, hactions, hknown, L1 =>
    ((4 ≤ L1 → wp_MO_forget (fun (u2 : Int32) (u3 : Nat → Int32) => Post u2 hactions u3) th hknown) ∧
    (¬ 4 ≤ L1 → vp_in L1 4 ∧ ∀ f4 : Nat → Int32, f4 = upd hactions L1.toNatClampNeg 0 → ∀ x5 : Int32, x5 = L1 + 1 → (wp_MO_clear_7 Post n_7) th f4 hknown x5))
/-- OrderMachinesModel.clear()V -/
def wp_MO_clear (Post : Int32 → (Nat → Int32) → (Nat → Int32) → Prop) (th : Int32) (hactions hknown : Nat → Int32) : Prop :=
  (∃ n_7 : Nat, wp_MO_clear_7 Post n_7 0 hactions hknown 0)
set_option maxHeartbeats 4000000 in
set_option maxRecDepth 100000 in
theorem l_MO_clear_7 {p : Program} {l : Launch} {e : Env} {s : State} {m : MethodId} {args : Array Value} {below : List Frame} {meth : Method} {c : Code} {dC : Nat → ClassId} {dI : Nat → Nat → Nat} {cI cJ cZ cQ : ClassId} {a_mo a_gactions a_gknown b_what b_where b_number b_done b_register b_memory b_size b_place b_value b_tooMany b_states b_stuck b_outcomes b_front b_behind b_from b_step b_depth b_ends b_endOutcome b_cuts b_soonest b_chain b_next b_row : Nat} {A : Nat → Prop} {Post : Int32 → (Nat → Int32) → (Nat → Int32) → Prop} (C0 : jC p l s m args meth c b_MO_clear none 2 R_MO (dC, dI) cI cJ cZ cQ A)  : ∀ n9 : Nat, ∀ (th : Int32) (hactions hknown : Nat → Int32) (L1 : Int32), ∀ (H : Heap) (locs : List Loc) (ls : Array Slot), wp_MO_clear_7 Post  n9 th hactions hknown L1 → va_P (dC, dI) vwCl [(a_mo, .inr (6, [.int th, .ref a_gactions, .ref b_what, .ref b_where, .ref b_number, .ref b_done, .ref b_register, .ref b_memory, .ref b_size, .ref b_place, .ref b_value, .ref a_gknown, .ref b_tooMany, .ref b_states, .ref b_stuck, .ref b_outcomes, .ref b_front, .ref b_behind, .ref b_from, .ref b_step, .ref b_depth, .ref b_ends, .ref b_endOutcome, .ref b_cuts, .ref b_soonest, .ref b_chain, .ref b_next, .ref b_row])), (a_gactions, .inl (cI, 4, .inl hactions)), (a_gknown, .inl (cZ, 4, .inl hknown))] H → va_D A [(a_mo, .inr (6, [.int th, .ref a_gactions, .ref b_what, .ref b_where, .ref b_number, .ref b_done, .ref b_register, .ref b_memory, .ref b_size, .ref b_place, .ref b_value, .ref a_gknown, .ref b_tooMany, .ref b_states, .ref b_stuck, .ref b_outcomes, .ref b_front, .ref b_behind, .ref b_from, .ref b_step, .ref b_depth, .ref b_ends, .ref b_endOutcome, .ref b_cuts, .ref b_soonest, .ref b_chain, .ref b_next, .ref b_row])), (a_gactions, .inl (cI, 4, .inl hactions)), (a_gknown, .inl (cZ, 4, .inl hknown))] → va_S A s.heap H locs → lv_has ls 2 [(0, .ref a_mo), (1, .int L1)] → W p l e ({ frames := 11, cells := 0, slots := 0, locals := 171 } : Room) s m args below meth c H locs 0 0 (MQ below (jQ_MO_clear dC dI cI cJ cZ cQ A a_mo a_gactions a_gknown b_what b_where b_number b_done b_register b_memory b_size b_place b_value b_tooMany b_states b_stuck b_outcomes b_front b_behind b_from b_step b_depth b_ends b_endOutcome b_cuts b_soonest b_chain b_next b_row Post) args s 0 0 A) (F0 m 7 ls []) := by
  obtain ⟨hx, hb, hr, hml, hown, hts, hlocks, hK, hZ, hA, hst⟩ := id C0
  intro n9
  induction n9 with
  | zero =>
    intro th hactions hknown L1 H locs ls h hP hD hS hl
    exact False.elim h
  | succ n_7 ih =>
    intro th hactions hknown L1 H locs ls h hP hD hS hl
    rw [wp_MO_clear_7] at h
    refine lv_iload_n hx hb d_MO_clear_7 rfl (lv_at hl 1 rfl) ?_
    refine lv_iconst (v := 4) hx hb d_MO_clear_8 (by decide) ?_
    refine lv_icmp_ge (tgt := 25) hx hb d_MO_clear_9 (by decide) (fun c9 => ?_) (fun c9 => ?_)
    · have h := h.1 c9
      refine lv_aload_n hx hb d_MO_clear_25 rfl (lv_at hl 0 rfl) ?_
      have hPc := hP.sub (ws' := [(a_mo, .inr (6, [.int th, .ref a_gactions, .ref b_what, .ref b_where, .ref b_number, .ref b_done, .ref b_register, .ref b_memory, .ref b_size, .ref b_place, .ref b_value, .ref a_gknown, .ref b_tooMany, .ref b_states, .ref b_stuck, .ref b_outcomes, .ref b_front, .ref b_behind, .ref b_from, .ref b_step, .ref b_depth, .ref b_ends, .ref b_endOutcome, .ref b_cuts, .ref b_soonest, .ref b_chain, .ref b_next, .ref b_row])), (a_gknown, .inl (cZ, 4, .inl hknown))]) [0, 2] rfl
      have hDc := hD.sub (ws' := [(a_mo, .inr (6, [.int th, .ref a_gactions, .ref b_what, .ref b_where, .ref b_number, .ref b_done, .ref b_register, .ref b_memory, .ref b_size, .ref b_place, .ref b_value, .ref a_gknown, .ref b_tooMany, .ref b_states, .ref b_stuck, .ref b_outcomes, .ref b_front, .ref b_behind, .ref b_from, .ref b_step, .ref b_depth, .ref b_ends, .ref b_endOutcome, .ref b_cuts, .ref b_soonest, .ref b_chain, .ref b_next, .ref b_row])), (a_gknown, .inl (cZ, 4, .inl hknown))]) [0, 2] (by decide) rfl
      have hFc := va_free (wc := [(a_mo, .inr (6, [.int th, .ref a_gactions, .ref b_what, .ref b_where, .ref b_number, .ref b_done, .ref b_register, .ref b_memory, .ref b_size, .ref b_place, .ref b_value, .ref a_gknown, .ref b_tooMany, .ref b_states, .ref b_stuck, .ref b_outcomes, .ref b_front, .ref b_behind, .ref b_from, .ref b_step, .ref b_depth, .ref b_ends, .ref b_endOutcome, .ref b_cuts, .ref b_soonest, .ref b_chain, .ref b_next, .ref b_row])), (a_gknown, .inl (cZ, 4, .inl hknown))]) hD hS hA [0, 2] rfl
      refine va_callv (va_runV (As := []) (rest := []) ⟨hx, hb, hml, hown, hts⟩ (c_MO_forget l dC dI cI cJ cZ cQ a_mo a_gknown a_gactions b_what b_where b_number b_done b_register b_memory b_size b_place b_value b_tooMany b_states b_stuck b_outcomes b_front b_behind b_from b_step b_depth b_ends b_endOutcome b_cuts b_soonest b_chain b_next b_row H.size th hknown _  h) (cwV 0 hts (goodIn_app (jGl (List.forall_mem_cons.mpr ⟨mw_964, List.forall_mem_cons.mpr ⟨mw_966, List.forall_mem_cons.mpr ⟨ms_MO_forget, List.forall_mem_cons.mpr ⟨mw_7, fun _ h => absurd h List.not_mem_nil⟩⟩⟩⟩)) (jG mw_967)) rfl rfl rfl (by decide +kernel) ⟨Nat.le_of_ble_eq_true rfl, Nat.le_of_ble_eq_true rfl⟩) ⟨jPre_blind, va_recv hK hPc (ci := 6) (q0 := 0) rfl rfl, jPre_in hPc hK hDc hZ hS hFc hst⟩ rfl rfl hl.1 rfl (lv_room (Nat.le_of_ble_eq_true rfl)) d_MO_clear_26 ⟨(Nat.zero_le _), (Nat.zero_le _)⟩) hS (fun q _ h => hFc q h) hFc (fun u t H1 locs ht hvm hw hB hz1 hk1 hS => ?_)
      obtain ⟨u2, u3⟩ := u
      obtain ⟨hP1, hK1, hD1⟩ := hB
      rw [ht] at hP1
      have h := hw
      obtain ⟨hP, hD⟩ := va_join (wr := [(a_gactions, .inl (cI, 4, .inl hactions))]) (w1 := [(a_mo, .inr (6, [.int u2, .ref a_gactions, .ref b_what, .ref b_where, .ref b_number, .ref b_done, .ref b_register, .ref b_memory, .ref b_size, .ref b_place, .ref b_value, .ref a_gknown, .ref b_tooMany, .ref b_states, .ref b_stuck, .ref b_outcomes, .ref b_front, .ref b_behind, .ref b_from, .ref b_step, .ref b_depth, .ref b_ends, .ref b_endOutcome, .ref b_cuts, .ref b_soonest, .ref b_chain, .ref b_next, .ref b_row])), (a_gknown, .inl (cZ, 4, .inl u3))]) hP hD [0, 2] [1] rfl rfl (by decide) (by decide) hk1 hFc hP1 hD1
      generalize H1 = H at hP hS ⊢
      have hP : va_P (dC, dI) vwCl [(a_gactions, .inl (cI, 4, .inl hactions)), (a_mo, .inr (6, [.int u2, .ref a_gactions, .ref b_what, .ref b_where, .ref b_number, .ref b_done, .ref b_register, .ref b_memory, .ref b_size, .ref b_place, .ref b_value, .ref a_gknown, .ref b_tooMany, .ref b_states, .ref b_stuck, .ref b_outcomes, .ref b_front, .ref b_behind, .ref b_from, .ref b_step, .ref b_depth, .ref b_ends, .ref b_endOutcome, .ref b_cuts, .ref b_soonest, .ref b_chain, .ref b_next, .ref b_row])), (a_gknown, .inl (cZ, 4, .inl u3))] H := hP
      have hD : va_D A [(a_gactions, .inl (cI, 4, .inl hactions)), (a_mo, .inr (6, [.int u2, .ref a_gactions, .ref b_what, .ref b_where, .ref b_number, .ref b_done, .ref b_register, .ref b_memory, .ref b_size, .ref b_place, .ref b_value, .ref a_gknown, .ref b_tooMany, .ref b_states, .ref b_stuck, .ref b_outcomes, .ref b_front, .ref b_behind, .ref b_from, .ref b_step, .ref b_depth, .ref b_ends, .ref b_endOutcome, .ref b_cuts, .ref b_soonest, .ref b_chain, .ref b_next, .ref b_row])), (a_gknown, .inl (cZ, 4, .inl u3))] := hD
      have hP9 := hP.sub (ws' := [(a_mo, .inr (6, [.int u2, .ref a_gactions, .ref b_what, .ref b_where, .ref b_number, .ref b_done, .ref b_register, .ref b_memory, .ref b_size, .ref b_place, .ref b_value, .ref a_gknown, .ref b_tooMany, .ref b_states, .ref b_stuck, .ref b_outcomes, .ref b_front, .ref b_behind, .ref b_from, .ref b_step, .ref b_depth, .ref b_ends, .ref b_endOutcome, .ref b_cuts, .ref b_soonest, .ref b_chain, .ref b_next, .ref b_row])), (a_gactions, .inl (cI, 4, .inl hactions)), (a_gknown, .inl (cZ, 4, .inl u3))]) [1, 0, 2] rfl
      have hD9 := hD.sub (ws' := [(a_mo, .inr (6, [.int u2, .ref a_gactions, .ref b_what, .ref b_where, .ref b_number, .ref b_done, .ref b_register, .ref b_memory, .ref b_size, .ref b_place, .ref b_value, .ref a_gknown, .ref b_tooMany, .ref b_states, .ref b_stuck, .ref b_outcomes, .ref b_front, .ref b_behind, .ref b_from, .ref b_step, .ref b_depth, .ref b_ends, .ref b_endOutcome, .ref b_cuts, .ref b_soonest, .ref b_chain, .ref b_next, .ref b_row])), (a_gactions, .inl (cI, 4, .inl hactions)), (a_gknown, .inl (cZ, 4, .inl u3))]) [1, 0, 2] (by decide) rfl
      exact W.vret hx hb hr (fun t ht hW => ⟨⟨(u2, hactions, u3), rfl, h, by rw [ht]; exact hP9, va_K.moved hW.alike hK, hD9⟩, hS.F ht⟩) hS.2.2 d_MO_clear_29
    · have h := h.2 c9
      refine lv_aload_n hx hb d_MO_clear_12 rfl (lv_at hl 0 rfl) ?_
      refine va_get (D := (dC, dI)) (ci := 6) (v := .ref a_gactions) (C := R_MO) (T := T_MO) (N := 28) hx hb hts in_MO hown hK hP 0 rfl rfl 1 (by decide) (hts _ mw_864) (fun _ h9 => h9) rfl d_MO_clear_13 ?_
      refine lv_iload_n hx hb d_MO_clear_16 rfl (lv_at hl 1 rfl) ?_
      refine lv_iconst (v := 0) hx hb d_MO_clear_17 (by decide) ?_
      refine va_iast hx hb hK hP hD hS 1 0 rfl rfl h.1 d_MO_clear_18 (fun H locs hP hD hS => ?_)
      have h := h.2
      obtain ⟨f4, ef4⟩ : ∃ y : Nat → Int32, y = upd hactions L1.toNatClampNeg 0 := ⟨_, rfl⟩
      rw [← ef4] at hP hD
      have h := h f4 ef4
      have hP : va_P (dC, dI) vwCl [(a_mo, .inr (6, [.int th, .ref a_gactions, .ref b_what, .ref b_where, .ref b_number, .ref b_done, .ref b_register, .ref b_memory, .ref b_size, .ref b_place, .ref b_value, .ref a_gknown, .ref b_tooMany, .ref b_states, .ref b_stuck, .ref b_outcomes, .ref b_front, .ref b_behind, .ref b_from, .ref b_step, .ref b_depth, .ref b_ends, .ref b_endOutcome, .ref b_cuts, .ref b_soonest, .ref b_chain, .ref b_next, .ref b_row])), (a_gactions, .inl (cI, 4, .inl f4)), (a_gknown, .inl (cZ, 4, .inl hknown))] H := hP
      have hD : va_D A [(a_mo, .inr (6, [.int th, .ref a_gactions, .ref b_what, .ref b_where, .ref b_number, .ref b_done, .ref b_register, .ref b_memory, .ref b_size, .ref b_place, .ref b_value, .ref a_gknown, .ref b_tooMany, .ref b_states, .ref b_stuck, .ref b_outcomes, .ref b_front, .ref b_behind, .ref b_from, .ref b_step, .ref b_depth, .ref b_ends, .ref b_endOutcome, .ref b_cuts, .ref b_soonest, .ref b_chain, .ref b_next, .ref b_row])), (a_gactions, .inl (cI, 4, .inl f4)), (a_gknown, .inl (cZ, 4, .inl hknown))] := hD
      obtain ⟨x5, ex5⟩ : ∃ y : Int32, y = L1 + 1 := ⟨_, rfl⟩
      have h := h x5 ex5
      refine lv_iinc (v := x5) (lv' := [(1, .int x5), (0, .ref a_mo)]) hx hb d_MO_clear_19 hl (k := 1) rfl (by rw [ex5]; rfl) (by decide) rfl (fun ls hl => ?_)
      refine lv_goto (tgt := 7) hx hb d_MO_clear_22 (by decide) ?_
      exact ih th f4 hknown x5  H locs ls h hP hD hS (lv_sub hl [1, 0] rfl)
set_option maxHeartbeats 4000000 in
set_option maxRecDepth 100000 in
theorem c_MO_clear (l : Launch) (dC : Nat → ClassId) (dI : Nat → Nat → Nat) (cI cJ cZ cQ : ClassId) (a_mo a_gactions a_gknown b_what b_where b_number b_done b_register b_memory b_size b_place b_value b_tooMany b_states b_stuck b_outcomes b_front b_behind b_from b_step b_depth b_ends b_endOutcome b_cuts b_soonest b_chain b_next b_row : Nat) (sz : Nat) (th : Int32) (hactions hknown : Nat → Int32) (Post : Int32 → (Nat → Int32) → (Nat → Int32) → Prop) (h : wp_MO_clear Post th hactions hknown) : Met l y_MO_clear (.code y_MO_clear b_MO_clear 2 none :: jW) ({ frames := 11, cells := 0, slots := 0, locals := 171 } : Room) (jPre l (dC, dI) cI cJ cZ cQ [(a_mo, .inr (6, [.int th, .ref a_gactions, .ref b_what, .ref b_where, .ref b_number, .ref b_done, .ref b_register, .ref b_memory, .ref b_size, .ref b_place, .ref b_value, .ref a_gknown, .ref b_tooMany, .ref b_states, .ref b_stuck, .ref b_outcomes, .ref b_front, .ref b_behind, .ref b_from, .ref b_step, .ref b_depth, .ref b_ends, .ref b_endOutcome, .ref b_cuts, .ref b_soonest, .ref b_chain, .ref b_next, .ref b_row])), (a_gactions, .inl (cI, 4, .inl hactions)), (a_gknown, .inl (cZ, 4, .inl hknown))] sz [.ref a_mo]) (jQ_MO_clear dC dI cI cJ cZ cQ (va_A [(a_mo, .inr (6, [.int th, .ref a_gactions, .ref b_what, .ref b_where, .ref b_number, .ref b_done, .ref b_register, .ref b_memory, .ref b_size, .ref b_place, .ref b_value, .ref a_gknown, .ref b_tooMany, .ref b_states, .ref b_stuck, .ref b_outcomes, .ref b_front, .ref b_behind, .ref b_from, .ref b_step, .ref b_depth, .ref b_ends, .ref b_endOutcome, .ref b_cuts, .ref b_soonest, .ref b_chain, .ref b_next, .ref b_row])), (a_gactions, .inl (cI, 4, .inl hactions)), (a_gknown, .inl (cZ, 4, .inl hknown))] sz) a_mo a_gactions a_gknown b_what b_where b_number b_done b_register b_memory b_size b_place b_value b_tooMany b_states b_stuck b_outcomes b_front b_behind b_from b_step b_depth b_ends b_endOutcome b_cuts b_soonest b_chain b_next b_row Post) 0 0 (va_A [(a_mo, .inr (6, [.int th, .ref a_gactions, .ref b_what, .ref b_where, .ref b_number, .ref b_done, .ref b_register, .ref b_memory, .ref b_size, .ref b_place, .ref b_value, .ref a_gknown, .ref b_tooMany, .ref b_states, .ref b_stuck, .ref b_outcomes, .ref b_front, .ref b_behind, .ref b_from, .ref b_step, .ref b_depth, .ref b_ends, .ref b_endOutcome, .ref b_cuts, .ref b_soonest, .ref b_chain, .ref b_next, .ref b_row])), (a_gactions, .inl (cI, 4, .inl hactions)), (a_gknown, .inl (cZ, 4, .inl hknown))] sz) := by
  refine Met.ofW (cc := b_MO_clear) (maxL := 2) (ret := none) (by decide) rfl ?_
  intro p e s m args below meth c s₁ B hml hv
  obtain ⟨rfl, hsz, hP, hK, hD0, hZ, hst⟩ := hv
  subst hsz
  have hD := hD0.self (sz := s.heap.size)
  generalize hAe : va_A [(a_mo, .inr (6, [.int th, .ref a_gactions, .ref b_what, .ref b_where, .ref b_number, .ref b_done, .ref b_register, .ref b_memory, .ref b_size, .ref b_place, .ref b_value, .ref a_gknown, .ref b_tooMany, .ref b_states, .ref b_stuck, .ref b_outcomes, .ref b_front, .ref b_behind, .ref b_from, .ref b_step, .ref b_depth, .ref b_ends, .ref b_endOutcome, .ref b_cuts, .ref b_soonest, .ref b_chain, .ref b_next, .ref b_row])), (a_gactions, .inl (cI, 4, .inl hactions)), (a_gknown, .inl (cZ, 4, .inl hknown))] s.heap.size = A at hD hZ ⊢
  have hA : ∀ q : Nat, s.heap.size ≤ q → A q := fun q h => by rw [← hAe]; exact Or.inr h
  have C0 : jC p l s m ([.ref a_mo] : List Value).toArray meth c b_MO_clear none 2 R_MO (dC, dI) cI cJ cZ cQ A := ⟨B.exec, B.bytes, B.returns, hml, findClass_of_methodNamed B.named, fun w hw => atoms_spec (ws := (.code y_MO_clear b_MO_clear 2 none :: jW)) B.pre w (List.mem_cons_of_mem _ hw), B.notSynchronized, hK, hZ, hA, hst⟩
  obtain ⟨hx, hb, hr, hml, hown, hts, hlocks, hK, hZ, hA, hst⟩ := id C0
  have hS : va_S A s.heap s.heap [] := va_S.rf
  have hl := lv_entry ([.ref a_mo]) (n := 2) (Nat.le_of_ble_eq_true rfl)
  rw [lg_entry_eq]
  generalize (lg_sl ([.ref a_mo]) ++ List.replicate (2 - (lg_sl ([.ref a_mo])).length) Slot.unset).toArray = ls at hl ⊢
  have hl : lv_has ls 2 [(0, .ref a_mo)] := hl
  obtain ⟨H, hH⟩ : ∃ H : Heap, H = s.heap := ⟨_, rfl⟩
  obtain ⟨locs, hlc⟩ : ∃ L : List Loc, L = [] := ⟨_, rfl⟩
  have hP : va_P (dC, dI) vwCl [(a_mo, .inr (6, [.int th, .ref a_gactions, .ref b_what, .ref b_where, .ref b_number, .ref b_done, .ref b_register, .ref b_memory, .ref b_size, .ref b_place, .ref b_value, .ref a_gknown, .ref b_tooMany, .ref b_states, .ref b_stuck, .ref b_outcomes, .ref b_front, .ref b_behind, .ref b_from, .ref b_step, .ref b_depth, .ref b_ends, .ref b_endOutcome, .ref b_cuts, .ref b_soonest, .ref b_chain, .ref b_next, .ref b_row])), (a_gactions, .inl (cI, 4, .inl hactions)), (a_gknown, .inl (cZ, 4, .inl hknown))] H := by rw [hH]; exact hP
  have hS : va_S A s.heap H locs := by rw [hH, hlc]; exact hS
  suffices hW9 : W p l e ({ frames := 11, cells := 0, slots := 0, locals := 171 } : Room) s m ([.ref a_mo] : List Value).toArray below meth c H locs 0 0 (MQ below (jQ_MO_clear dC dI cI cJ cZ cQ A a_mo a_gactions a_gknown b_what b_where b_number b_done b_register b_memory b_size b_place b_value b_tooMany b_states b_stuck b_outcomes b_front b_behind b_from b_step b_depth b_ends b_endOutcome b_cuts b_soonest b_chain b_next b_row Post) ([.ref a_mo] : List Value).toArray s 0 0 A) (F0 m 0 ls []) by rw [hH, hlc] at hW9; exact hW9
  clear hH hlc
  rw [wp_MO_clear] at h
  refine lv_aload_n hx hb d_MO_clear_0 rfl (lv_at hl 0 rfl) ?_
  refine lv_iconst (v := 0) hx hb d_MO_clear_1 (by decide) ?_
  refine va_put (D := (dC, dI)) (ci := 6) (v := .int 0) (ty := .int) (C := R_MO) (T := T_MO) (N := 28) hx hb hts in_MO ty_MO tok_MO nm_MO hown hK hP hD hS 0 rfl rfl 0 (by decide) (hts _ mw_863) (fun _ h9 => h9) rfl (by decide +kernel) rfl rfl (Nat.le_of_ble_eq_true rfl) d_MO_clear_2 (fun H locs hP hD hS => ?_)
  have hP : va_P (dC, dI) vwCl [(a_mo, .inr (6, [.int 0, .ref a_gactions, .ref b_what, .ref b_where, .ref b_number, .ref b_done, .ref b_register, .ref b_memory, .ref b_size, .ref b_place, .ref b_value, .ref a_gknown, .ref b_tooMany, .ref b_states, .ref b_stuck, .ref b_outcomes, .ref b_front, .ref b_behind, .ref b_from, .ref b_step, .ref b_depth, .ref b_ends, .ref b_endOutcome, .ref b_cuts, .ref b_soonest, .ref b_chain, .ref b_next, .ref b_row])), (a_gactions, .inl (cI, 4, .inl hactions)), (a_gknown, .inl (cZ, 4, .inl hknown))] H := hP
  have hD : va_D A [(a_mo, .inr (6, [.int 0, .ref a_gactions, .ref b_what, .ref b_where, .ref b_number, .ref b_done, .ref b_register, .ref b_memory, .ref b_size, .ref b_place, .ref b_value, .ref a_gknown, .ref b_tooMany, .ref b_states, .ref b_stuck, .ref b_outcomes, .ref b_front, .ref b_behind, .ref b_from, .ref b_step, .ref b_depth, .ref b_ends, .ref b_endOutcome, .ref b_cuts, .ref b_soonest, .ref b_chain, .ref b_next, .ref b_row])), (a_gactions, .inl (cI, 4, .inl hactions)), (a_gknown, .inl (cZ, 4, .inl hknown))] := hD
  refine lv_iconst (v := 0) hx hb d_MO_clear_5 (by decide) ?_
  refine lv_istore_n (lv' := [(1, .int 0), (0, .ref a_mo)]) hx hb d_MO_clear_6 rfl hl (by decide) rfl (fun ls hl => ?_)
  obtain ⟨n_7, h⟩ := h
  exact l_MO_clear_7 C0  n_7 0 hactions hknown 0  H locs ls h hP hD hS (lv_sub hl [1, 0] rfl)

/-- what OrderMachinesModel.packFront()J leaves -/
abbrev jQ_MO_packFront (dC : Nat → ClassId) (dI : Nat → Nat → Nat) (cI cJ cZ cQ : ClassId) (A : Nat → Prop) (a_mo a_gdone a_gregister a_gmemory b_actions b_what b_where b_number b_size b_place b_value b_known b_tooMany b_states b_stuck b_outcomes b_front b_behind b_from b_step b_depth b_ends b_endOutcome b_cuts b_soonest b_chain b_next b_row : Nat) (Post : Int64 → Int32 → (Nat → Int32) → (Nat → Int32) → (Nat → Int32) → Prop) : Array Value → State → Outcome → State → Prop := va_Ql (fun (r : Int64) (u : Int32 × (Nat → Int32) × (Nat → Int32) × (Nat → Int32)) => Post r u.1 u.2.1 u.2.2.1 u.2.2.2) (fun (u : Int32 × (Nat → Int32) × (Nat → Int32) × (Nat → Int32)) (t : State) => match u with
  | (th, hdone, hregister, hmemory) => jPost (dC, dI) (jT cI cJ cZ cQ) A [(a_mo, .inr (6, [.int th, .ref b_actions, .ref b_what, .ref b_where, .ref b_number, .ref a_gdone, .ref a_gregister, .ref a_gmemory, .ref b_size, .ref b_place, .ref b_value, .ref b_known, .ref b_tooMany, .ref b_states, .ref b_stuck, .ref b_outcomes, .ref b_front, .ref b_behind, .ref b_from, .ref b_step, .ref b_depth, .ref b_ends, .ref b_endOutcome, .ref b_cuts, .ref b_soonest, .ref b_chain, .ref b_next, .ref b_row])), (a_gdone, .inl (cI, 4, .inl hdone)), (a_gregister, .inl (cI, 16, .inl hregister)), (a_gmemory, .inl (cI, 4, .inl hmemory))] t) A
def wp_MO_packFront_55 (Post : Int64 → Int32 → (Nat → Int32) → (Nat → Int32) → (Nat → Int32) → Prop)  : Nat → Int32 → (Nat → Int32) → (Nat → Int32) → (Nat → Int32) → Int64 → Int32 → Prop
  | 0, _, _, _, _, _, _ => False
  | n_55 + 1, th, hdone, hregister, hmemory, L1, L3 =>
    ((4 ≤ L3 → Post L1 th hdone hregister hmemory) ∧
    (¬ 4 ≤ L3 → vp_in L3 4 ∧ ∀ x5 : Int64, x5 = (L1 <<< ((2 : Int32).toInt64 &&& 63)) ||| ((hmemory L3.toNatClampNeg).toInt64) → ∀ x6 : Int32, x6 = L3 + 1 → (wp_MO_packFront_55 Post n_55) th hdone hregister hmemory x5 x6))
def wp_MO_packFront_29 (Post : Int64 → Int32 → (Nat → Int32) → (Nat → Int32) → (Nat → Int32) → Prop)  : Nat → Int32 → (Nat → Int32) → (Nat → Int32) → (Nat → Int32) → Int64 → Int32 → Prop
  | 0, _, _, _, _, _, _ => False
  | n_29 + 1, th, hdone, hregister, hmemory, L1, L3 =>
    ((16 ≤ L3 → (∃ n_55 : Nat, wp_MO_packFront_55 Post n_55 th hdone hregister hmemory L1 0)) ∧
    (¬ 16 ≤ L3 → vp_in L3 16 ∧ ∀ x3 : Int64, x3 = (L1 <<< ((2 : Int32).toInt64 &&& 63)) ||| ((hregister L3.toNatClampNeg).toInt64) → ∀ x4 : Int32, x4 = L3 + 1 → (wp_MO_packFront_29 Post n_29) th hdone hregister hmemory x3 x4))
def wp_MO_packFront_4 (Post : Int64 → Int32 → (Nat → Int32) → (Nat → Int32) → (Nat → Int32) → Prop)  : Nat → Int32 → (Nat → Int32) → (Nat → Int32) → (Nat → Int32) → Int64 → Int32 → Prop
  | 0, _, _, _, _, _, _ => False
  | n_4 + 1, th, hdone, hregister, hmemory, L1, L3 =>
    ((4 ≤ L3 → (∃ n_29 : Nat, wp_MO_packFront_29 Post n_29 th hdone hregister hmemory L1 0)) ∧
    (¬ 4 ≤ L3 → vp_in L3 4 ∧ ∀ x1 : Int64, x1 = (L1 <<< ((3 : Int32).toInt64 &&& 63)) ||| ((hdone L3.toNatClampNeg).toInt64) → ∀ x2 : Int32, x2 = L3 + 1 → (wp_MO_packFront_4 Post n_4) th hdone hregister hmemory x1 x2))
/-- OrderMachinesModel.packFront()J -/
def wp_MO_packFront (Post : Int64 → Int32 → (Nat → Int32) → (Nat → Int32) → (Nat → Int32) → Prop) (th : Int32) (hdone hregister hmemory : Nat → Int32) : Prop :=
  (∃ n_4 : Nat, wp_MO_packFront_4 Post n_4 th hdone hregister hmemory 0 0)
set_option maxHeartbeats 4000000 in
set_option maxRecDepth 100000 in
theorem l_MO_packFront_55 {p : Program} {l : Launch} {e : Env} {s : State} {m : MethodId} {args : Array Value} {below : List Frame} {meth : Method} {c : Code} {dC : Nat → ClassId} {dI : Nat → Nat → Nat} {cI cJ cZ cQ : ClassId} {a_mo a_gdone a_gregister a_gmemory b_actions b_what b_where b_number b_size b_place b_value b_known b_tooMany b_states b_stuck b_outcomes b_front b_behind b_from b_step b_depth b_ends b_endOutcome b_cuts b_soonest b_chain b_next b_row : Nat} {A : Nat → Prop} {Post : Int64 → Int32 → (Nat → Int32) → (Nat → Int32) → (Nat → Int32) → Prop} (C0 : jC p l s m args meth c b_MO_packFront (some .long) 4 R_MO (dC, dI) cI cJ cZ cQ A)  : ∀ n9 : Nat, ∀ (th : Int32) (hdone hregister hmemory : Nat → Int32) (L1 : Int64) (L3 : Int32), ∀ (H : Heap) (locs : List Loc) (ls : Array Slot), wp_MO_packFront_55 Post  n9 th hdone hregister hmemory L1 L3 → va_P (dC, dI) vwCl [(a_mo, .inr (6, [.int th, .ref b_actions, .ref b_what, .ref b_where, .ref b_number, .ref a_gdone, .ref a_gregister, .ref a_gmemory, .ref b_size, .ref b_place, .ref b_value, .ref b_known, .ref b_tooMany, .ref b_states, .ref b_stuck, .ref b_outcomes, .ref b_front, .ref b_behind, .ref b_from, .ref b_step, .ref b_depth, .ref b_ends, .ref b_endOutcome, .ref b_cuts, .ref b_soonest, .ref b_chain, .ref b_next, .ref b_row])), (a_gdone, .inl (cI, 4, .inl hdone)), (a_gregister, .inl (cI, 16, .inl hregister)), (a_gmemory, .inl (cI, 4, .inl hmemory))] H → va_D A [(a_mo, .inr (6, [.int th, .ref b_actions, .ref b_what, .ref b_where, .ref b_number, .ref a_gdone, .ref a_gregister, .ref a_gmemory, .ref b_size, .ref b_place, .ref b_value, .ref b_known, .ref b_tooMany, .ref b_states, .ref b_stuck, .ref b_outcomes, .ref b_front, .ref b_behind, .ref b_from, .ref b_step, .ref b_depth, .ref b_ends, .ref b_endOutcome, .ref b_cuts, .ref b_soonest, .ref b_chain, .ref b_next, .ref b_row])), (a_gdone, .inl (cI, 4, .inl hdone)), (a_gregister, .inl (cI, 16, .inl hregister)), (a_gmemory, .inl (cI, 4, .inl hmemory))] → va_S A s.heap H locs → lv_has ls 4 [(0, .ref a_mo), (1, .long L1), (3, .int L3)] → W p l e ({ frames := 10, cells := 0, slots := 0, locals := 150 } : Room) s m args below meth c H locs 0 0 (MQ below (jQ_MO_packFront dC dI cI cJ cZ cQ A a_mo a_gdone a_gregister a_gmemory b_actions b_what b_where b_number b_size b_place b_value b_known b_tooMany b_states b_stuck b_outcomes b_front b_behind b_from b_step b_depth b_ends b_endOutcome b_cuts b_soonest b_chain b_next b_row Post) args s 0 0 A) (F0 m 55 ls []) := by
  obtain ⟨hx, hb, hr, hml, hown, hts, hlocks, hK, hZ, hA, hst⟩ := id C0
  intro n9
  induction n9 with
  | zero =>
    intro th hdone hregister hmemory L1 L3 H locs ls h hP hD hS hl
    exact False.elim h
  | succ n_55 ih =>
    intro th hdone hregister hmemory L1 L3 H locs ls h hP hD hS hl
    rw [wp_MO_packFront_55] at h
    refine lv_iload_n hx hb d_MO_packFront_55 rfl (lv_at hl 2 rfl) ?_
    refine lv_iconst (v := 4) hx hb d_MO_packFront_56 (by decide) ?_
    refine lv_icmp_ge (tgt := 78) hx hb d_MO_packFront_57 (by decide) (fun c57 => ?_) (fun c57 => ?_)
    · have h := h.1 c57
      refine lv_lload_n hx hb d_MO_packFront_78 rfl (lv_at hl 1 rfl) ?_
      have hP9 := hP
      have hD9 := hD
      exact W.lret (v := L1) hx hb hr (fun t ht hW => ⟨⟨L1, (th, hdone, hregister, hmemory), rfl, h, by rw [ht]; exact hP9, va_K.moved hW.alike hK, hD9⟩, hS.F ht⟩) hS.2.2 d_MO_packFront_79
    · have h := h.2 c57
      refine lv_lload_n hx hb d_MO_packFront_60 rfl (lv_at hl 1 rfl) ?_
      refine lv_iconst (v := 2) hx hb d_MO_packFront_61 (by decide) ?_
      refine lv_lshl hx hb d_MO_packFront_62 rfl ?_
      refine lv_aload_n hx hb d_MO_packFront_63 rfl (lv_at hl 0 rfl) ?_
      refine va_get (D := (dC, dI)) (ci := 6) (v := .ref a_gmemory) (C := R_MO) (T := T_MO) (N := 28) hx hb hts in_MO hown hK hP 0 rfl rfl 7 (by decide) (hts _ mw_870) (fun _ h9 => h9) rfl d_MO_packFront_64 ?_
      refine lv_iload_n hx hb d_MO_packFront_67 rfl (lv_at hl 2 rfl) ?_
      refine va_iald hx hb hK hP 3 0 rfl rfl h.1 d_MO_packFront_68 ?_
      have h := h.2
      refine lv_i2l hx hb d_MO_packFront_69 rfl ?_
      refine lv_lor hx hb d_MO_packFront_70 ?_
      refine lv_topl (fun x5 ex5 => ?_)
      have h := h x5 ex5
      refine lv_lstore_n (lv' := [(1, .long x5), (0, .ref a_mo), (3, .int L3)]) hx hb d_MO_packFront_71 rfl hl (by decide) rfl (fun ls hl => ?_)
      obtain ⟨x6, ex6⟩ : ∃ y : Int32, y = L3 + 1 := ⟨_, rfl⟩
      have h := h x6 ex6
      refine lv_iinc (v := x6) (lv' := [(3, .int x6), (1, .long x5), (0, .ref a_mo)]) hx hb d_MO_packFront_72 hl (k := 2) rfl (by rw [ex6]; rfl) (by decide) rfl (fun ls hl => ?_)
      refine lv_goto (tgt := 55) hx hb d_MO_packFront_75 (by decide) ?_
      exact ih th hdone hregister hmemory x5 x6  H locs ls h hP hD hS (lv_sub hl [2, 1, 0] rfl)
set_option maxHeartbeats 4000000 in
set_option maxRecDepth 100000 in
theorem l_MO_packFront_29 {p : Program} {l : Launch} {e : Env} {s : State} {m : MethodId} {args : Array Value} {below : List Frame} {meth : Method} {c : Code} {dC : Nat → ClassId} {dI : Nat → Nat → Nat} {cI cJ cZ cQ : ClassId} {a_mo a_gdone a_gregister a_gmemory b_actions b_what b_where b_number b_size b_place b_value b_known b_tooMany b_states b_stuck b_outcomes b_front b_behind b_from b_step b_depth b_ends b_endOutcome b_cuts b_soonest b_chain b_next b_row : Nat} {A : Nat → Prop} {Post : Int64 → Int32 → (Nat → Int32) → (Nat → Int32) → (Nat → Int32) → Prop} (C0 : jC p l s m args meth c b_MO_packFront (some .long) 4 R_MO (dC, dI) cI cJ cZ cQ A)  : ∀ n9 : Nat, ∀ (th : Int32) (hdone hregister hmemory : Nat → Int32) (L1 : Int64) (L3 : Int32), ∀ (H : Heap) (locs : List Loc) (ls : Array Slot), wp_MO_packFront_29 Post  n9 th hdone hregister hmemory L1 L3 → va_P (dC, dI) vwCl [(a_mo, .inr (6, [.int th, .ref b_actions, .ref b_what, .ref b_where, .ref b_number, .ref a_gdone, .ref a_gregister, .ref a_gmemory, .ref b_size, .ref b_place, .ref b_value, .ref b_known, .ref b_tooMany, .ref b_states, .ref b_stuck, .ref b_outcomes, .ref b_front, .ref b_behind, .ref b_from, .ref b_step, .ref b_depth, .ref b_ends, .ref b_endOutcome, .ref b_cuts, .ref b_soonest, .ref b_chain, .ref b_next, .ref b_row])), (a_gdone, .inl (cI, 4, .inl hdone)), (a_gregister, .inl (cI, 16, .inl hregister)), (a_gmemory, .inl (cI, 4, .inl hmemory))] H → va_D A [(a_mo, .inr (6, [.int th, .ref b_actions, .ref b_what, .ref b_where, .ref b_number, .ref a_gdone, .ref a_gregister, .ref a_gmemory, .ref b_size, .ref b_place, .ref b_value, .ref b_known, .ref b_tooMany, .ref b_states, .ref b_stuck, .ref b_outcomes, .ref b_front, .ref b_behind, .ref b_from, .ref b_step, .ref b_depth, .ref b_ends, .ref b_endOutcome, .ref b_cuts, .ref b_soonest, .ref b_chain, .ref b_next, .ref b_row])), (a_gdone, .inl (cI, 4, .inl hdone)), (a_gregister, .inl (cI, 16, .inl hregister)), (a_gmemory, .inl (cI, 4, .inl hmemory))] → va_S A s.heap H locs → lv_has ls 4 [(0, .ref a_mo), (1, .long L1), (3, .int L3)] → W p l e ({ frames := 10, cells := 0, slots := 0, locals := 150 } : Room) s m args below meth c H locs 0 0 (MQ below (jQ_MO_packFront dC dI cI cJ cZ cQ A a_mo a_gdone a_gregister a_gmemory b_actions b_what b_where b_number b_size b_place b_value b_known b_tooMany b_states b_stuck b_outcomes b_front b_behind b_from b_step b_depth b_ends b_endOutcome b_cuts b_soonest b_chain b_next b_row Post) args s 0 0 A) (F0 m 29 ls []) := by
  obtain ⟨hx, hb, hr, hml, hown, hts, hlocks, hK, hZ, hA, hst⟩ := id C0
  intro n9
  induction n9 with
  | zero =>
    intro th hdone hregister hmemory L1 L3 H locs ls h hP hD hS hl
    exact False.elim h
  | succ n_29 ih =>
    intro th hdone hregister hmemory L1 L3 H locs ls h hP hD hS hl
    rw [wp_MO_packFront_29] at h
    refine lv_iload_n hx hb d_MO_packFront_29 rfl (lv_at hl 2 rfl) ?_
    refine lv_bipush (v := 16) hx hb d_MO_packFront_30 (by decide) ?_
    refine lv_icmp_ge (tgt := 53) hx hb d_MO_packFront_32 (by decide) (fun c32 => ?_) (fun c32 => ?_)
    · have h := h.1 c32
      refine lv_iconst (v := 0) hx hb d_MO_packFront_53 (by decide) ?_
      refine lv_istore_n (lv' := [(3, .int 0), (0, .ref a_mo), (1, .long L1)]) hx hb d_MO_packFront_54 rfl hl (by decide) rfl (fun ls hl => ?_)
      obtain ⟨n_55, h⟩ := h
      exact l_MO_packFront_55 C0  n_55 th hdone hregister hmemory L1 0  H locs ls h hP hD hS (lv_sub hl [1, 2, 0] rfl)
    · have h := h.2 c32
      refine lv_lload_n hx hb d_MO_packFront_35 rfl (lv_at hl 1 rfl) ?_
      refine lv_iconst (v := 2) hx hb d_MO_packFront_36 (by decide) ?_
      refine lv_lshl hx hb d_MO_packFront_37 rfl ?_
      refine lv_aload_n hx hb d_MO_packFront_38 rfl (lv_at hl 0 rfl) ?_
      refine va_get (D := (dC, dI)) (ci := 6) (v := .ref a_gregister) (C := R_MO) (T := T_MO) (N := 28) hx hb hts in_MO hown hK hP 0 rfl rfl 6 (by decide) (hts _ mw_869) (fun _ h9 => h9) rfl d_MO_packFront_39 ?_
      refine lv_iload_n hx hb d_MO_packFront_42 rfl (lv_at hl 2 rfl) ?_
      refine va_iald hx hb hK hP 2 0 rfl rfl h.1 d_MO_packFront_43 ?_
      have h := h.2
      refine lv_i2l hx hb d_MO_packFront_44 rfl ?_
      refine lv_lor hx hb d_MO_packFront_45 ?_
      refine lv_topl (fun x3 ex3 => ?_)
      have h := h x3 ex3
      refine lv_lstore_n (lv' := [(1, .long x3), (0, .ref a_mo), (3, .int L3)]) hx hb d_MO_packFront_46 rfl hl (by decide) rfl (fun ls hl => ?_)
      obtain ⟨x4, ex4⟩ : ∃ y : Int32, y = L3 + 1 := ⟨_, rfl⟩
      have h := h x4 ex4
      refine lv_iinc (v := x4) (lv' := [(3, .int x4), (1, .long x3), (0, .ref a_mo)]) hx hb d_MO_packFront_47 hl (k := 2) rfl (by rw [ex4]; rfl) (by decide) rfl (fun ls hl => ?_)
      refine lv_goto (tgt := 29) hx hb d_MO_packFront_50 (by decide) ?_
      exact ih th hdone hregister hmemory x3 x4  H locs ls h hP hD hS (lv_sub hl [2, 1, 0] rfl)
set_option maxHeartbeats 4000000 in
set_option maxRecDepth 100000 in
theorem l_MO_packFront_4 {p : Program} {l : Launch} {e : Env} {s : State} {m : MethodId} {args : Array Value} {below : List Frame} {meth : Method} {c : Code} {dC : Nat → ClassId} {dI : Nat → Nat → Nat} {cI cJ cZ cQ : ClassId} {a_mo a_gdone a_gregister a_gmemory b_actions b_what b_where b_number b_size b_place b_value b_known b_tooMany b_states b_stuck b_outcomes b_front b_behind b_from b_step b_depth b_ends b_endOutcome b_cuts b_soonest b_chain b_next b_row : Nat} {A : Nat → Prop} {Post : Int64 → Int32 → (Nat → Int32) → (Nat → Int32) → (Nat → Int32) → Prop} (C0 : jC p l s m args meth c b_MO_packFront (some .long) 4 R_MO (dC, dI) cI cJ cZ cQ A)  : ∀ n9 : Nat, ∀ (th : Int32) (hdone hregister hmemory : Nat → Int32) (L1 : Int64) (L3 : Int32), ∀ (H : Heap) (locs : List Loc) (ls : Array Slot), wp_MO_packFront_4 Post  n9 th hdone hregister hmemory L1 L3 → va_P (dC, dI) vwCl [(a_mo, .inr (6, [.int th, .ref b_actions, .ref b_what, .ref b_where, .ref b_number, .ref a_gdone, .ref a_gregister, .ref a_gmemory, .ref b_size, .ref b_place, .ref b_value, .ref b_known, .ref b_tooMany, .ref b_states, .ref b_stuck, .ref b_outcomes, .ref b_front, .ref b_behind, .ref b_from, .ref b_step, .ref b_depth, .ref b_ends, .ref b_endOutcome, .ref b_cuts, .ref b_soonest, .ref b_chain, .ref b_next, .ref b_row])), (a_gdone, .inl (cI, 4, .inl hdone)), (a_gregister, .inl (cI, 16, .inl hregister)), (a_gmemory, .inl (cI, 4, .inl hmemory))] H → va_D A [(a_mo, .inr (6, [.int th, .ref b_actions, .ref b_what, .ref b_where, .ref b_number, .ref a_gdone, .ref a_gregister, .ref a_gmemory, .ref b_size, .ref b_place, .ref b_value, .ref b_known, .ref b_tooMany, .ref b_states, .ref b_stuck, .ref b_outcomes, .ref b_front, .ref b_behind, .ref b_from, .ref b_step, .ref b_depth, .ref b_ends, .ref b_endOutcome, .ref b_cuts, .ref b_soonest, .ref b_chain, .ref b_next, .ref b_row])), (a_gdone, .inl (cI, 4, .inl hdone)), (a_gregister, .inl (cI, 16, .inl hregister)), (a_gmemory, .inl (cI, 4, .inl hmemory))] → va_S A s.heap H locs → lv_has ls 4 [(0, .ref a_mo), (1, .long L1), (3, .int L3)] → W p l e ({ frames := 10, cells := 0, slots := 0, locals := 150 } : Room) s m args below meth c H locs 0 0 (MQ below (jQ_MO_packFront dC dI cI cJ cZ cQ A a_mo a_gdone a_gregister a_gmemory b_actions b_what b_where b_number b_size b_place b_value b_known b_tooMany b_states b_stuck b_outcomes b_front b_behind b_from b_step b_depth b_ends b_endOutcome b_cuts b_soonest b_chain b_next b_row Post) args s 0 0 A) (F0 m 4 ls []) := by
  obtain ⟨hx, hb, hr, hml, hown, hts, hlocks, hK, hZ, hA, hst⟩ := id C0
  intro n9
  induction n9 with
  | zero =>
    intro th hdone hregister hmemory L1 L3 H locs ls h hP hD hS hl
    exact False.elim h
  | succ n_4 ih =>
    intro th hdone hregister hmemory L1 L3 H locs ls h hP hD hS hl
    rw [wp_MO_packFront_4] at h
    refine lv_iload_n hx hb d_MO_packFront_4 rfl (lv_at hl 2 rfl) ?_
    refine lv_iconst (v := 4) hx hb d_MO_packFront_5 (by decide) ?_
    refine lv_icmp_ge (tgt := 27) hx hb d_MO_packFront_6 (by decide) (fun c6 => ?_) (fun c6 => ?_)
    · have h := h.1 c6
      refine lv_iconst (v := 0) hx hb d_MO_packFront_27 (by decide) ?_
      refine lv_istore_n (lv' := [(3, .int 0), (0, .ref a_mo), (1, .long L1)]) hx hb d_MO_packFront_28 rfl hl (by decide) rfl (fun ls hl => ?_)
      obtain ⟨n_29, h⟩ := h
      exact l_MO_packFront_29 C0  n_29 th hdone hregister hmemory L1 0  H locs ls h hP hD hS (lv_sub hl [1, 2, 0] rfl)
    · have h := h.2 c6
      refine lv_lload_n hx hb d_MO_packFront_9 rfl (lv_at hl 1 rfl) ?_
      refine lv_iconst (v := 3) hx hb d_MO_packFront_10 (by decide) ?_
      refine lv_lshl hx hb d_MO_packFront_11 rfl ?_
      refine lv_aload_n hx hb d_MO_packFront_12 rfl (lv_at hl 0 rfl) ?_
      refine va_get (D := (dC, dI)) (ci := 6) (v := .ref a_gdone) (C := R_MO) (T := T_MO) (N := 28) hx hb hts in_MO hown hK hP 0 rfl rfl 5 (by decide) (hts _ mw_868) (fun _ h9 => h9) rfl d_MO_packFront_13 ?_
      refine lv_iload_n hx hb d_MO_packFront_16 rfl (lv_at hl 2 rfl) ?_
      refine va_iald hx hb hK hP 1 0 rfl rfl h.1 d_MO_packFront_17 ?_
      have h := h.2
      refine lv_i2l hx hb d_MO_packFront_18 rfl ?_
      refine lv_lor hx hb d_MO_packFront_19 ?_
      refine lv_topl (fun x1 ex1 => ?_)
      have h := h x1 ex1
      refine lv_lstore_n (lv' := [(1, .long x1), (0, .ref a_mo), (3, .int L3)]) hx hb d_MO_packFront_20 rfl hl (by decide) rfl (fun ls hl => ?_)
      obtain ⟨x2, ex2⟩ : ∃ y : Int32, y = L3 + 1 := ⟨_, rfl⟩
      have h := h x2 ex2
      refine lv_iinc (v := x2) (lv' := [(3, .int x2), (1, .long x1), (0, .ref a_mo)]) hx hb d_MO_packFront_21 hl (k := 2) rfl (by rw [ex2]; rfl) (by decide) rfl (fun ls hl => ?_)
      refine lv_goto (tgt := 4) hx hb d_MO_packFront_24 (by decide) ?_
      exact ih th hdone hregister hmemory x1 x2  H locs ls h hP hD hS (lv_sub hl [2, 1, 0] rfl)
set_option maxHeartbeats 4000000 in
set_option maxRecDepth 100000 in
theorem c_MO_packFront (l : Launch) (dC : Nat → ClassId) (dI : Nat → Nat → Nat) (cI cJ cZ cQ : ClassId) (a_mo a_gdone a_gregister a_gmemory b_actions b_what b_where b_number b_size b_place b_value b_known b_tooMany b_states b_stuck b_outcomes b_front b_behind b_from b_step b_depth b_ends b_endOutcome b_cuts b_soonest b_chain b_next b_row : Nat) (sz : Nat) (th : Int32) (hdone hregister hmemory : Nat → Int32) (Post : Int64 → Int32 → (Nat → Int32) → (Nat → Int32) → (Nat → Int32) → Prop) (h : wp_MO_packFront Post th hdone hregister hmemory) : Met l y_MO_packFront (.code y_MO_packFront b_MO_packFront 4 (some .long) :: jW) ({ frames := 10, cells := 0, slots := 0, locals := 150 } : Room) (jPre l (dC, dI) cI cJ cZ cQ [(a_mo, .inr (6, [.int th, .ref b_actions, .ref b_what, .ref b_where, .ref b_number, .ref a_gdone, .ref a_gregister, .ref a_gmemory, .ref b_size, .ref b_place, .ref b_value, .ref b_known, .ref b_tooMany, .ref b_states, .ref b_stuck, .ref b_outcomes, .ref b_front, .ref b_behind, .ref b_from, .ref b_step, .ref b_depth, .ref b_ends, .ref b_endOutcome, .ref b_cuts, .ref b_soonest, .ref b_chain, .ref b_next, .ref b_row])), (a_gdone, .inl (cI, 4, .inl hdone)), (a_gregister, .inl (cI, 16, .inl hregister)), (a_gmemory, .inl (cI, 4, .inl hmemory))] sz [.ref a_mo]) (jQ_MO_packFront dC dI cI cJ cZ cQ (va_A [(a_mo, .inr (6, [.int th, .ref b_actions, .ref b_what, .ref b_where, .ref b_number, .ref a_gdone, .ref a_gregister, .ref a_gmemory, .ref b_size, .ref b_place, .ref b_value, .ref b_known, .ref b_tooMany, .ref b_states, .ref b_stuck, .ref b_outcomes, .ref b_front, .ref b_behind, .ref b_from, .ref b_step, .ref b_depth, .ref b_ends, .ref b_endOutcome, .ref b_cuts, .ref b_soonest, .ref b_chain, .ref b_next, .ref b_row])), (a_gdone, .inl (cI, 4, .inl hdone)), (a_gregister, .inl (cI, 16, .inl hregister)), (a_gmemory, .inl (cI, 4, .inl hmemory))] sz) a_mo a_gdone a_gregister a_gmemory b_actions b_what b_where b_number b_size b_place b_value b_known b_tooMany b_states b_stuck b_outcomes b_front b_behind b_from b_step b_depth b_ends b_endOutcome b_cuts b_soonest b_chain b_next b_row Post) 0 0 (va_A [(a_mo, .inr (6, [.int th, .ref b_actions, .ref b_what, .ref b_where, .ref b_number, .ref a_gdone, .ref a_gregister, .ref a_gmemory, .ref b_size, .ref b_place, .ref b_value, .ref b_known, .ref b_tooMany, .ref b_states, .ref b_stuck, .ref b_outcomes, .ref b_front, .ref b_behind, .ref b_from, .ref b_step, .ref b_depth, .ref b_ends, .ref b_endOutcome, .ref b_cuts, .ref b_soonest, .ref b_chain, .ref b_next, .ref b_row])), (a_gdone, .inl (cI, 4, .inl hdone)), (a_gregister, .inl (cI, 16, .inl hregister)), (a_gmemory, .inl (cI, 4, .inl hmemory))] sz) := by
  refine Met.ofW (cc := b_MO_packFront) (maxL := 4) (ret := (some .long)) (by decide) rfl ?_
  intro p e s m args below meth c s₁ B hml hv
  obtain ⟨rfl, hsz, hP, hK, hD0, hZ, hst⟩ := hv
  subst hsz
  have hD := hD0.self (sz := s.heap.size)
  generalize hAe : va_A [(a_mo, .inr (6, [.int th, .ref b_actions, .ref b_what, .ref b_where, .ref b_number, .ref a_gdone, .ref a_gregister, .ref a_gmemory, .ref b_size, .ref b_place, .ref b_value, .ref b_known, .ref b_tooMany, .ref b_states, .ref b_stuck, .ref b_outcomes, .ref b_front, .ref b_behind, .ref b_from, .ref b_step, .ref b_depth, .ref b_ends, .ref b_endOutcome, .ref b_cuts, .ref b_soonest, .ref b_chain, .ref b_next, .ref b_row])), (a_gdone, .inl (cI, 4, .inl hdone)), (a_gregister, .inl (cI, 16, .inl hregister)), (a_gmemory, .inl (cI, 4, .inl hmemory))] s.heap.size = A at hD hZ ⊢
  have hA : ∀ q : Nat, s.heap.size ≤ q → A q := fun q h => by rw [← hAe]; exact Or.inr h
  have C0 : jC p l s m ([.ref a_mo] : List Value).toArray meth c b_MO_packFront (some .long) 4 R_MO (dC, dI) cI cJ cZ cQ A := ⟨B.exec, B.bytes, B.returns, hml, findClass_of_methodNamed B.named, fun w hw => atoms_spec (ws := (.code y_MO_packFront b_MO_packFront 4 (some .long) :: jW)) B.pre w (List.mem_cons_of_mem _ hw), B.notSynchronized, hK, hZ, hA, hst⟩
  obtain ⟨hx, hb, hr, hml, hown, hts, hlocks, hK, hZ, hA, hst⟩ := id C0
  have hS : va_S A s.heap s.heap [] := va_S.rf
  have hl := lv_entry ([.ref a_mo]) (n := 4) (Nat.le_of_ble_eq_true rfl)
  rw [lg_entry_eq]
  generalize (lg_sl ([.ref a_mo]) ++ List.replicate (4 - (lg_sl ([.ref a_mo])).length) Slot.unset).toArray = ls at hl ⊢
  have hl : lv_has ls 4 [(0, .ref a_mo)] := hl
  obtain ⟨H, hH⟩ : ∃ H : Heap, H = s.heap := ⟨_, rfl⟩
  obtain ⟨locs, hlc⟩ : ∃ L : List Loc, L = [] := ⟨_, rfl⟩
  have hP : va_P (dC, dI) vwCl [(a_mo, .inr (6, [.int th, .ref b_actions, .ref b_what, .ref b_where, .ref b_number, .ref a_gdone, .ref a_gregister, .ref a_gmemory, .ref b_size, .ref b_place, .ref b_value, .ref b_known, .ref b_tooMany, .ref b_states, .ref b_stuck, .ref b_outcomes, .ref b_front, .ref b_behind, .ref b_from, .ref b_step, .ref b_depth, .ref b_ends, .ref b_endOutcome, .ref b_cuts, .ref b_soonest, .ref b_chain, .ref b_next, .ref b_row])), (a_gdone, .inl (cI, 4, .inl hdone)), (a_gregister, .inl (cI, 16, .inl hregister)), (a_gmemory, .inl (cI, 4, .inl hmemory))] H := by rw [hH]; exact hP
  have hS : va_S A s.heap H locs := by rw [hH, hlc]; exact hS
  suffices hW9 : W p l e ({ frames := 10, cells := 0, slots := 0, locals := 150 } : Room) s m ([.ref a_mo] : List Value).toArray below meth c H locs 0 0 (MQ below (jQ_MO_packFront dC dI cI cJ cZ cQ A a_mo a_gdone a_gregister a_gmemory b_actions b_what b_where b_number b_size b_place b_value b_known b_tooMany b_states b_stuck b_outcomes b_front b_behind b_from b_step b_depth b_ends b_endOutcome b_cuts b_soonest b_chain b_next b_row Post) ([.ref a_mo] : List Value).toArray s 0 0 A) (F0 m 0 ls []) by rw [hH, hlc] at hW9; exact hW9
  clear hH hlc
  rw [wp_MO_packFront] at h
  refine lv_lconst (v := 0) hx hb d_MO_packFront_0 (by decide) ?_
  refine lv_lstore_n (lv' := [(1, .long 0), (0, .ref a_mo)]) hx hb d_MO_packFront_1 rfl hl (by decide) rfl (fun ls hl => ?_)
  refine lv_iconst (v := 0) hx hb d_MO_packFront_2 (by decide) ?_
  refine lv_istore_n (lv' := [(3, .int 0), (1, .long 0), (0, .ref a_mo)]) hx hb d_MO_packFront_3 rfl hl (by decide) rfl (fun ls hl => ?_)
  obtain ⟨n_4, h⟩ := h
  exact l_MO_packFront_4 C0  n_4 th hdone hregister hmemory 0 0  H locs ls h hP hD hS (lv_sub hl [2, 1, 0] rfl)

/-- what OrderMachinesModel.packBehind()J leaves -/
abbrev jQ_MO_packBehind (dC : Nat → ClassId) (dI : Nat → Nat → Nat) (cI cJ cZ cQ : ClassId) (A : Nat → Prop) (a_mo a_gsize a_gplace a_gvalue b_actions b_what b_where b_number b_done b_register b_memory b_known b_tooMany b_states b_stuck b_outcomes b_front b_behind b_from b_step b_depth b_ends b_endOutcome b_cuts b_soonest b_chain b_next b_row : Nat) (Post : Int64 → Int32 → (Nat → Int32) → (Nat → Int32) → (Nat → Int32) → Prop) : Array Value → State → Outcome → State → Prop := va_Ql (fun (r : Int64) (u : Int32 × (Nat → Int32) × (Nat → Int32) × (Nat → Int32)) => Post r u.1 u.2.1 u.2.2.1 u.2.2.2) (fun (u : Int32 × (Nat → Int32) × (Nat → Int32) × (Nat → Int32)) (t : State) => match u with
  | (th, hsize, hplace, hvalue) => jPost (dC, dI) (jT cI cJ cZ cQ) A [(a_mo, .inr (6, [.int th, .ref b_actions, .ref b_what, .ref b_where, .ref b_number, .ref b_done, .ref b_register, .ref b_memory, .ref a_gsize, .ref a_gplace, .ref a_gvalue, .ref b_known, .ref b_tooMany, .ref b_states, .ref b_stuck, .ref b_outcomes, .ref b_front, .ref b_behind, .ref b_from, .ref b_step, .ref b_depth, .ref b_ends, .ref b_endOutcome, .ref b_cuts, .ref b_soonest, .ref b_chain, .ref b_next, .ref b_row])), (a_gsize, .inl (cI, 4, .inl hsize)), (a_gplace, .inl (cI, 12, .inl hplace)), (a_gvalue, .inl (cI, 12, .inl hvalue))] t) A
def wp_MO_packBehind_73 (Post : Int64 → Int32 → (Nat → Int32) → (Nat → Int32) → (Nat → Int32) → Prop) (K4 : Int32 → (Nat → Int32) → (Nat → Int32) → (Nat → Int32) → Int64 → Int32 → Prop) (K24 : Int32 → (Nat → Int32) → (Nat → Int32) → (Nat → Int32) → Int64 → Int32 → Int32 → Prop) (th : Int32) (hsize hplace hvalue : Nat → Int32) (L3 L4 S0 : Int32) (S1 : Int64) : Prop :=
    ∀ x3 : Int64, x3 = S1 ||| S0.toInt64 → ∀ x4 : Int32, x4 = L4 + 1 → K24 th hsize hplace hvalue x3 L3 x4
def wp_MO_packBehind_24 (Post : Int64 → Int32 → (Nat → Int32) → (Nat → Int32) → (Nat → Int32) → Prop) (K4 : Int32 → (Nat → Int32) → (Nat → Int32) → (Nat → Int32) → Int64 → Int32 → Prop) : Nat → Int32 → (Nat → Int32) → (Nat → Int32) → (Nat → Int32) → Int64 → Int32 → Int32 → Prop
  | 0, _, _, _, _, _, _, _ => False
  | n_24 + 1, th, hsize, hplace, hvalue, L1, L3, L4 =>
    ((3 ≤ L4 → ∀ x2 : Int32, x2 = L3 + 1 → K4 th hsize hplace hvalue L1 x2) ∧
    (¬ 3 ≤ L4 → vp_in L3 4 ∧ (((hsize L3.toNatClampNeg) ≤ L4 → wp_MO_packBehind_73 Post K4 (fun (th : Int32) (hsize : Nat → Int32) (hplace : Nat → Int32) (hvalue : Nat → Int32) (L1 : Int64) (L3 : Int32) (L4 : Int32) => wp_MO_packBehind_24 Post K4 n_24 th hsize hplace hvalue L1 L3 L4) th hsize hplace hvalue L3 L4 0 (L1 <<< ((4 : Int32).toInt64 &&& 63))) ∧
      (¬ (hsize L3.toNatClampNeg) ≤ L4 → vp_in ((3 * L3) + L4) 12 ∧ vp_in ((3 * L3) + L4) 12 ∧ wp_MO_packBehind_73 Post K4 (fun (th : Int32) (hsize : Nat → Int32) (hplace : Nat → Int32) (hvalue : Nat → Int32) (L1 : Int64) (L3 : Int32) (L4 : Int32) => wp_MO_packBehind_24 Post K4 n_24 th hsize hplace hvalue L1 L3 L4) th hsize hplace hvalue L3 L4 ((4 * (hplace ((3 * L3) + L4).toNatClampNeg)) + (hvalue ((3 * L3) + L4).toNatClampNeg)) (L1 <<< ((4 : Int32).toInt64 &&& 63))))))
def wp_MO_packBehind_4 (Post : Int64 → Int32 → (Nat → Int32) → (Nat → Int32) → (Nat → Int32) → Prop)  : Nat → Int32 → (Nat → Int32) → (Nat → Int32) → (Nat → Int32) → Int64 → Int32 → Prop
  | 0, _, _, _, _, _, _ => False
  | n_4 + 1, th, hsize, hplace, hvalue, L1, L3 =>
    ((4 ≤ L3 → Post L1 th hsize hplace hvalue) ∧
    (¬ 4 ≤ L3 → vp_in L3 4 ∧ ∀ x1 : Int64, x1 = (L1 <<< ((2 : Int32).toInt64 &&& 63)) ||| ((hsize L3.toNatClampNeg).toInt64) → (∃ n_24 : Nat, wp_MO_packBehind_24 Post (fun (th : Int32) (hsize : Nat → Int32) (hplace : Nat → Int32) (hvalue : Nat → Int32) (L1 : Int64) (L3 : Int32) => wp_MO_packBehind_4 Post n_4 th hsize hplace hvalue L1 L3) n_24 th hsize hplace hvalue x1 L3 0)))
/-- OrderMachinesModel.packBehind()J -/
def wp_MO_packBehind (Post : Int64 → Int32 → (Nat → Int32) → (Nat → Int32) → (Nat → Int32) → Prop) (th : Int32) (hsize hplace hvalue : Nat → Int32) : Prop :=
  (∃ n_4 : Nat, wp_MO_packBehind_4 Post n_4 th hsize hplace hvalue 0 0)
set_option maxHeartbeats 4000000 in
set_option maxRecDepth 100000 in
theorem l_MO_packBehind_73 {p : Program} {l : Launch} {e : Env} {s : State} {m : MethodId} {args : Array Value} {below : List Frame} {meth : Method} {c : Code} {dC : Nat → ClassId} {dI : Nat → Nat → Nat} {cI cJ cZ cQ : ClassId} {a_mo a_gsize a_gplace a_gvalue b_actions b_what b_where b_number b_done b_register b_memory b_known b_tooMany b_states b_stuck b_outcomes b_front b_behind b_from b_step b_depth b_ends b_endOutcome b_cuts b_soonest b_chain b_next b_row : Nat} {A : Nat → Prop} {Post : Int64 → Int32 → (Nat → Int32) → (Nat → Int32) → (Nat → Int32) → Prop} (C0 : jC p l s m args meth c b_MO_packBehind (some .long) 5 R_MO (dC, dI) cI cJ cZ cQ A) (K4 : Int32 → (Nat → Int32) → (Nat → Int32) → (Nat → Int32) → Int64 → Int32 → Prop) (hK4 : ∀ (th : Int32) (hsize hplace hvalue : Nat → Int32) (L1 : Int64) (L3 : Int32), ∀ (H : Heap) (locs : List Loc) (ls : Array Slot), K4 th hsize hplace hvalue L1 L3 → va_P (dC, dI) vwCl [(a_mo, .inr (6, [.int th, .ref b_actions, .ref b_what, .ref b_where, .ref b_number, .ref b_done, .ref b_register, .ref b_memory, .ref a_gsize, .ref a_gplace, .ref a_gvalue, .ref b_known, .ref b_tooMany, .ref b_states, .ref b_stuck, .ref b_outcomes, .ref b_front, .ref b_behind, .ref b_from, .ref b_step, .ref b_depth, .ref b_ends, .ref b_endOutcome, .ref b_cuts, .ref b_soonest, .ref b_chain, .ref b_next, .ref b_row])), (a_gsize, .inl (cI, 4, .inl hsize)), (a_gplace, .inl (cI, 12, .inl hplace)), (a_gvalue, .inl (cI, 12, .inl hvalue))] H → va_D A [(a_mo, .inr (6, [.int th, .ref b_actions, .ref b_what, .ref b_where, .ref b_number, .ref b_done, .ref b_register, .ref b_memory, .ref a_gsize, .ref a_gplace, .ref a_gvalue, .ref b_known, .ref b_tooMany, .ref b_states, .ref b_stuck, .ref b_outcomes, .ref b_front, .ref b_behind, .ref b_from, .ref b_step, .ref b_depth, .ref b_ends, .ref b_endOutcome, .ref b_cuts, .ref b_soonest, .ref b_chain, .ref b_next, .ref b_row])), (a_gsize, .inl (cI, 4, .inl hsize)), (a_gplace, .inl (cI, 12, .inl hplace)), (a_gvalue, .inl (cI, 12, .inl hvalue))] → va_S A s.heap H locs → lv_has ls 5 [(0, .ref a_mo), (1, .long L1), (3, .int L3)] → W p l e ({ frames := 10, cells := 0, slots := 0, locals := 150 } : Room) s m args below meth c H locs 0 0 (MQ below (jQ_MO_packBehind dC dI cI cJ cZ cQ A a_mo a_gsize a_gplace a_gvalue b_actions b_what b_where b_number b_done b_register b_memory b_known b_tooMany b_states b_stuck b_outcomes b_front b_behind b_from b_step b_depth b_ends b_endOutcome b_cuts b_soonest b_chain b_next b_row Post) args s 0 0 A) (F0 m 4 ls [])) (K24 : Int32 → (Nat → Int32) → (Nat → Int32) → (Nat → Int32) → Int64 → Int32 → Int32 → Prop) (hK24 : ∀ (th : Int32) (hsize hplace hvalue : Nat → Int32) (L1 : Int64) (L3 L4 : Int32), ∀ (H : Heap) (locs : List Loc) (ls : Array Slot), K24 th hsize hplace hvalue L1 L3 L4 → va_P (dC, dI) vwCl [(a_mo, .inr (6, [.int th, .ref b_actions, .ref b_what, .ref b_where, .ref b_number, .ref b_done, .ref b_register, .ref b_memory, .ref a_gsize, .ref a_gplace, .ref a_gvalue, .ref b_known, .ref b_tooMany, .ref b_states, .ref b_stuck, .ref b_outcomes, .ref b_front, .ref b_behind, .ref b_from, .ref b_step, .ref b_depth, .ref b_ends, .ref b_endOutcome, .ref b_cuts, .ref b_soonest, .ref b_chain, .ref b_next, .ref b_row])), (a_gsize, .inl (cI, 4, .inl hsize)), (a_gplace, .inl (cI, 12, .inl hplace)), (a_gvalue, .inl (cI, 12, .inl hvalue))] H → va_D A [(a_mo, .inr (6, [.int th, .ref b_actions, .ref b_what, .ref b_where, .ref b_number, .ref b_done, .ref b_register, .ref b_memory, .ref a_gsize, .ref a_gplace, .ref a_gvalue, .ref b_known, .ref b_tooMany, .ref b_states, .ref b_stuck, .ref b_outcomes, .ref b_front, .ref b_behind, .ref b_from, .ref b_step, .ref b_depth, .ref b_ends, .ref b_endOutcome, .ref b_cuts, .ref b_soonest, .ref b_chain, .ref b_next, .ref b_row])), (a_gsize, .inl (cI, 4, .inl hsize)), (a_gplace, .inl (cI, 12, .inl hplace)), (a_gvalue, .inl (cI, 12, .inl hvalue))] → va_S A s.heap H locs → lv_has ls 5 [(0, .ref a_mo), (1, .long L1), (3, .int L3), (4, .int L4)] → W p l e ({ frames := 10, cells := 0, slots := 0, locals := 150 } : Room) s m args below meth c H locs 0 0 (MQ below (jQ_MO_packBehind dC dI cI cJ cZ cQ A a_mo a_gsize a_gplace a_gvalue b_actions b_what b_where b_number b_done b_register b_memory b_known b_tooMany b_states b_stuck b_outcomes b_front b_behind b_from b_step b_depth b_ends b_endOutcome b_cuts b_soonest b_chain b_next b_row Post) args s 0 0 A) (F0 m 24 ls [])) : ∀ (th : Int32) (hsize hplace hvalue : Nat → Int32) (L3 L4 S0 : Int32) (S1 : Int64), ∀ (H : Heap) (locs : List Loc) (ls : Array Slot), wp_MO_packBehind_73 Post K4 K24 th hsize hplace hvalue L3 L4 S0 S1 → va_P (dC, dI) vwCl [(a_mo, .inr (6, [.int th, .ref b_actions, .ref b_what, .ref b_where, .ref b_number, .ref b_done, .ref b_register, .ref b_memory, .ref a_gsize, .ref a_gplace, .ref a_gvalue, .ref b_known, .ref b_tooMany, .ref b_states, .ref b_stuck, .ref b_outcomes, .ref b_front, .ref b_behind, .ref b_from, .ref b_step, .ref b_depth, .ref b_ends, .ref b_endOutcome, .ref b_cuts, .ref b_soonest, .ref b_chain, .ref b_next, .ref b_row])), (a_gsize, .inl (cI, 4, .inl hsize)), (a_gplace, .inl (cI, 12, .inl hplace)), (a_gvalue, .inl (cI, 12, .inl hvalue))] H → va_D A [(a_mo, .inr (6, [.int th, .ref b_actions, .ref b_what, .ref b_where, .ref b_number, .ref b_done, .ref b_register, .ref b_memory, .ref a_gsize, .ref a_gplace, .ref a_gvalue, .ref b_known, .ref b_tooMany, .ref b_states, .ref b_stuck, .ref b_outcomes, .ref b_front, .ref b_behind, .ref b_from, .ref b_step, .ref b_depth, .ref b_ends, .ref b_endOutcome, .ref b_cuts, .ref b_soonest, .ref b_chain, .ref b_next, .ref b_row])), (a_gsize, .inl (cI, 4, .inl hsize)), (a_gplace, .inl (cI, 12, .inl hplace)), (a_gvalue, .inl (cI, 12, .inl hvalue))] → va_S A s.heap H locs → lv_has ls 5 [(0, .ref a_mo), (3, .int L3), (4, .int L4)] → W p l e ({ frames := 10, cells := 0, slots := 0, locals := 150 } : Room) s m args below meth c H locs 0 0 (MQ below (jQ_MO_packBehind dC dI cI cJ cZ cQ A a_mo a_gsize a_gplace a_gvalue b_actions b_what b_where b_number b_done b_register b_memory b_known b_tooMany b_states b_stuck b_outcomes b_front b_behind b_from b_step b_depth b_ends b_endOutcome b_cuts b_soonest b_chain b_next b_row Post) args s 0 0 A) (F0 m 73 ls [.int S0, .long S1]) := by
  obtain ⟨hx, hb, hr, hml, hown, hts, hlocks, hK, hZ, hA, hst⟩ := id C0
  intro th hsize hplace hvalue L3 L4 S0 S1 H locs ls h hP hD hS hl
  rw [wp_MO_packBehind_73] at h
  refine lv_i2l hx hb d_MO_packBehind_73 rfl ?_
  refine lv_lor hx hb d_MO_packBehind_74 ?_
  refine lv_topl (fun x3 ex3 => ?_)
  have h := h x3 ex3
  refine lv_lstore_n (lv' := [(1, .long x3), (0, .ref a_mo), (3, .int L3), (4, .int L4)]) hx hb d_MO_packBehind_75 rfl hl (by decide) rfl (fun ls hl => ?_)
  obtain ⟨x4, ex4⟩ : ∃ y : Int32, y = L4 + 1 := ⟨_, rfl⟩
  have h := h x4 ex4
  refine lv_iinc (v := x4) (lv' := [(4, .int x4), (1, .long x3), (0, .ref a_mo), (3, .int L3)]) hx hb d_MO_packBehind_76 hl (k := 3) rfl (by rw [ex4]; rfl) (by decide) rfl (fun ls hl => ?_)
  refine lv_goto (tgt := 24) hx hb d_MO_packBehind_79 (by decide) ?_
  exact hK24 th hsize hplace hvalue x3 L3 x4  H locs ls h hP hD hS (lv_sub hl [2, 1, 3, 0] rfl)
set_option maxHeartbeats 4000000 in
set_option maxRecDepth 100000 in
theorem l_MO_packBehind_24 {p : Program} {l : Launch} {e : Env} {s : State} {m : MethodId} {args : Array Value} {below : List Frame} {meth : Method} {c : Code} {dC : Nat → ClassId} {dI : Nat → Nat → Nat} {cI cJ cZ cQ : ClassId} {a_mo a_gsize a_gplace a_gvalue b_actions b_what b_where b_number b_done b_register b_memory b_known b_tooMany b_states b_stuck b_outcomes b_front b_behind b_from b_step b_depth b_ends b_endOutcome b_cuts b_soonest b_chain b_next b_row : Nat} {A : Nat → Prop} {Post : Int64 → Int32 → (Nat → Int32) → (Nat → Int32) → (Nat → Int32) → Prop} (C0 : jC p l s m args meth c b_MO_packBehind (some .long) 5 R_MO (dC, dI) cI cJ cZ cQ A) (K4 : Int32 → (Nat → Int32) → (Nat → Int32) → (Nat → Int32) → Int64 → Int32 → Prop) (hK4 : ∀ (th : Int32) (hsize hplace hvalue : Nat → Int32) (L1 : Int64) (L3 : Int32), ∀ (H : Heap) (locs : List Loc) (ls : Array Slot), K4 th hsize hplace hvalue L1 L3 → va_P (dC, dI) vwCl [(a_mo, .inr (6, [.int th, .ref b_actions, .ref b_what, .ref b_where, .ref b_number, .ref b_done, .ref b_register, .ref b_memory, .ref a_gsize, .ref a_gplace, .ref a_gvalue, .ref b_known, .ref b_tooMany, .ref b_states, .ref b_stuck, .ref b_outcomes, .ref b_front, .ref b_behind, .ref b_from, .ref b_step, .ref b_depth, .ref b_ends, .ref b_endOutcome, .ref b_cuts, .ref b_soonest, .ref b_chain, .ref b_next, .ref b_row])), (a_gsize, .inl (cI, 4, .inl hsize)), (a_gplace, .inl (cI, 12, .inl hplace)), (a_gvalue, .inl (cI, 12, .inl hvalue))] H → va_D A [(a_mo, .inr (6, [.int th, .ref b_actions, .ref b_what, .ref b_where, .ref b_number, .ref b_done, .ref b_register, .ref b_memory, .ref a_gsize, .ref a_gplace, .ref a_gvalue, .ref b_known, .ref b_tooMany, .ref b_states, .ref b_stuck, .ref b_outcomes, .ref b_front, .ref b_behind, .ref b_from, .ref b_step, .ref b_depth, .ref b_ends, .ref b_endOutcome, .ref b_cuts, .ref b_soonest, .ref b_chain, .ref b_next, .ref b_row])), (a_gsize, .inl (cI, 4, .inl hsize)), (a_gplace, .inl (cI, 12, .inl hplace)), (a_gvalue, .inl (cI, 12, .inl hvalue))] → va_S A s.heap H locs → lv_has ls 5 [(0, .ref a_mo), (1, .long L1), (3, .int L3)] → W p l e ({ frames := 10, cells := 0, slots := 0, locals := 150 } : Room) s m args below meth c H locs 0 0 (MQ below (jQ_MO_packBehind dC dI cI cJ cZ cQ A a_mo a_gsize a_gplace a_gvalue b_actions b_what b_where b_number b_done b_register b_memory b_known b_tooMany b_states b_stuck b_outcomes b_front b_behind b_from b_step b_depth b_ends b_endOutcome b_cuts b_soonest b_chain b_next b_row Post) args s 0 0 A) (F0 m 4 ls [])) : ∀ n9 : Nat, ∀ (th : Int32) (hsize hplace hvalue : Nat → Int32) (L1 : Int64) (L3 L4 : Int32), ∀ (H : Heap) (locs : List Loc) (ls : Array Slot), wp_MO_packBehind_24 Post K4 n9 th hsize hplace hvalue L1 L3 L4 → va_P (dC, dI) vwCl [(a_mo, .inr (6, [.int th, .ref b_actions, .ref b_what, .ref b_where, .ref b_number, .ref b_done, .ref b_register, .ref b_memory, .ref a_gsize, .ref a_gplace, .ref a_gvalue, .ref b_known, .ref b_tooMany, .ref b_states, .ref b_stuck, .ref b_outcomes, .ref b_front, .ref b_behind, .ref b_from, .ref b_step, .ref b_depth, .ref b_ends, .ref b_endOutcome, .ref b_cuts, .ref b_soonest, .ref b_chain, .ref b_next, .ref b_row])), (a_gsize, .inl (cI, 4, .inl hsize)), (a_gplace, .inl (cI, 12, .inl hplace)), (a_gvalue, .inl (cI, 12, .inl hvalue))] H → va_D A [(a_mo, .inr (6, [.int th, .ref b_actions, .ref b_what, .ref b_where, .ref b_number, .ref b_done, .ref b_register, .ref b_memory, .ref a_gsize, .ref a_gplace, .ref a_gvalue, .ref b_known, .ref b_tooMany, .ref b_states, .ref b_stuck, .ref b_outcomes, .ref b_front, .ref b_behind, .ref b_from, .ref b_step, .ref b_depth, .ref b_ends, .ref b_endOutcome, .ref b_cuts, .ref b_soonest, .ref b_chain, .ref b_next, .ref b_row])), (a_gsize, .inl (cI, 4, .inl hsize)), (a_gplace, .inl (cI, 12, .inl hplace)), (a_gvalue, .inl (cI, 12, .inl hvalue))] → va_S A s.heap H locs → lv_has ls 5 [(0, .ref a_mo), (1, .long L1), (3, .int L3), (4, .int L4)] → W p l e ({ frames := 10, cells := 0, slots := 0, locals := 150 } : Room) s m args below meth c H locs 0 0 (MQ below (jQ_MO_packBehind dC dI cI cJ cZ cQ A a_mo a_gsize a_gplace a_gvalue b_actions b_what b_where b_number b_done b_register b_memory b_known b_tooMany b_states b_stuck b_outcomes b_front b_behind b_from b_step b_depth b_ends b_endOutcome b_cuts b_soonest b_chain b_next b_row Post) args s 0 0 A) (F0 m 24 ls []) := by
  obtain ⟨hx, hb, hr, hml, hown, hts, hlocks, hK, hZ, hA, hst⟩ := id C0
  intro n9
  induction n9 with
  | zero =>
    intro th hsize hplace hvalue L1 L3 L4 H locs ls h hP hD hS hl
    exact False.elim h
  | succ n_24 ih =>
    intro th hsize hplace hvalue L1 L3 L4 H locs ls h hP hD hS hl
    rw [wp_MO_packBehind_24] at h
    refine lv_iload hx hb d_MO_packBehind_24 (lv_at hl 3 rfl) ?_
    refine lv_iconst (v := 3) hx hb d_MO_packBehind_26 (by decide) ?_
    refine lv_icmp_ge (tgt := 82) hx hb d_MO_packBehind_27 (by decide) (fun c27 => ?_) (fun c27 => ?_)
    · have h := h.1 c27
      obtain ⟨x2, ex2⟩ : ∃ y : Int32, y = L3 + 1 := ⟨_, rfl⟩
      have h := h x2 ex2
      refine lv_iinc (v := x2) (lv' := [(3, .int x2), (0, .ref a_mo), (1, .long L1), (4, .int L4)]) hx hb d_MO_packBehind_82 hl (k := 2) rfl (by rw [ex2]; rfl) (by decide) rfl (fun ls hl => ?_)
      refine lv_goto (tgt := 4) hx hb d_MO_packBehind_85 (by decide) ?_
      exact hK4 th hsize hplace hvalue L1 x2  H locs ls h hP hD hS (lv_sub hl [1, 2, 0] rfl)
    · have h := h.2 c27
      refine lv_lload_n hx hb d_MO_packBehind_30 rfl (lv_at hl 1 rfl) ?_
      refine lv_iconst (v := 4) hx hb d_MO_packBehind_31 (by decide) ?_
      refine lv_lshl hx hb d_MO_packBehind_32 rfl ?_
      refine lv_iload hx hb d_MO_packBehind_33 (lv_at hl 3 rfl) ?_
      refine lv_aload_n hx hb d_MO_packBehind_35 rfl (lv_at hl 0 rfl) ?_
      refine va_get (D := (dC, dI)) (ci := 6) (v := .ref a_gsize) (C := R_MO) (T := T_MO) (N := 28) hx hb hts in_MO hown hK hP 0 rfl rfl 8 (by decide) (hts _ mw_871) (fun _ h9 => h9) rfl d_MO_packBehind_36 ?_
      refine lv_iload_n hx hb d_MO_packBehind_39 rfl (lv_at hl 2 rfl) ?_
      refine va_iald hx hb hK hP 1 0 rfl rfl h.1 d_MO_packBehind_40 ?_
      have h := h.2
      refine lv_icmp_ge (tgt := 72) hx hb d_MO_packBehind_41 (by decide) (fun c41 => ?_) (fun c41 => ?_)
      · have h := h.1 c41
        refine lv_iconst (v := 0) hx hb d_MO_packBehind_72 (by decide) ?_
        exact l_MO_packBehind_73 C0 K4 hK4 (fun (th : Int32) (hsize : Nat → Int32) (hplace : Nat → Int32) (hvalue : Nat → Int32) (L1 : Int64) (L3 : Int32) (L4 : Int32) => wp_MO_packBehind_24 Post K4 n_24 th hsize hplace hvalue L1 L3 L4) ih th hsize hplace hvalue L3 L4 0 (L1 <<< ((4 : Int32).toInt64 &&& 63))  H locs ls h hP hD hS (lv_sub hl [0, 2, 3] rfl)
      · have h := h.2 c41
        refine lv_iconst (v := 4) hx hb d_MO_packBehind_44 (by decide) ?_
        refine lv_aload_n hx hb d_MO_packBehind_45 rfl (lv_at hl 0 rfl) ?_
        refine va_get (D := (dC, dI)) (ci := 6) (v := .ref a_gplace) (C := R_MO) (T := T_MO) (N := 28) hx hb hts in_MO hown hK hP 0 rfl rfl 9 (by decide) (hts _ mw_872) (fun _ h9 => h9) rfl d_MO_packBehind_46 ?_
        refine lv_iconst (v := 3) hx hb d_MO_packBehind_49 (by decide) ?_
        refine lv_iload_n hx hb d_MO_packBehind_50 rfl (lv_at hl 2 rfl) ?_
        refine lv_imul hx hb d_MO_packBehind_51 ?_
        refine lv_iload hx hb d_MO_packBehind_52 (lv_at hl 3 rfl) ?_
        refine lv_iadd hx hb d_MO_packBehind_54 ?_
        refine va_iald hx hb hK hP 2 0 rfl rfl h.1 d_MO_packBehind_55 ?_
        have h := h.2
        refine lv_imul hx hb d_MO_packBehind_56 ?_
        refine lv_aload_n hx hb d_MO_packBehind_57 rfl (lv_at hl 0 rfl) ?_
        refine va_get (D := (dC, dI)) (ci := 6) (v := .ref a_gvalue) (C := R_MO) (T := T_MO) (N := 28) hx hb hts in_MO hown hK hP 0 rfl rfl 10 (by decide) (hts _ mw_873) (fun _ h9 => h9) rfl d_MO_packBehind_58 ?_
        refine lv_iconst (v := 3) hx hb d_MO_packBehind_61 (by decide) ?_
        refine lv_iload_n hx hb d_MO_packBehind_62 rfl (lv_at hl 2 rfl) ?_
        refine lv_imul hx hb d_MO_packBehind_63 ?_
        refine lv_iload hx hb d_MO_packBehind_64 (lv_at hl 3 rfl) ?_
        refine lv_iadd hx hb d_MO_packBehind_66 ?_
        refine va_iald hx hb hK hP 3 0 rfl rfl h.1 d_MO_packBehind_67 ?_
        have h := h.2
        refine lv_iadd hx hb d_MO_packBehind_68 ?_
        refine lv_goto (tgt := 73) hx hb d_MO_packBehind_69 (by decide) ?_
        exact l_MO_packBehind_73 C0 K4 hK4 (fun (th : Int32) (hsize : Nat → Int32) (hplace : Nat → Int32) (hvalue : Nat → Int32) (L1 : Int64) (L3 : Int32) (L4 : Int32) => wp_MO_packBehind_24 Post K4 n_24 th hsize hplace hvalue L1 L3 L4) ih th hsize hplace hvalue L3 L4 ((4 * (hplace ((3 * L3) + L4).toNatClampNeg)) + (hvalue ((3 * L3) + L4).toNatClampNeg)) (L1 <<< ((4 : Int32).toInt64 &&& 63))  H locs ls h hP hD hS (lv_sub hl [0, 2, 3] rfl)
set_option maxHeartbeats 4000000 in
set_option maxRecDepth 100000 in
theorem l_MO_packBehind_4 {p : Program} {l : Launch} {e : Env} {s : State} {m : MethodId} {args : Array Value} {below : List Frame} {meth : Method} {c : Code} {dC : Nat → ClassId} {dI : Nat → Nat → Nat} {cI cJ cZ cQ : ClassId} {a_mo a_gsize a_gplace a_gvalue b_actions b_what b_where b_number b_done b_register b_memory b_known b_tooMany b_states b_stuck b_outcomes b_front b_behind b_from b_step b_depth b_ends b_endOutcome b_cuts b_soonest b_chain b_next b_row : Nat} {A : Nat → Prop} {Post : Int64 → Int32 → (Nat → Int32) → (Nat → Int32) → (Nat → Int32) → Prop} (C0 : jC p l s m args meth c b_MO_packBehind (some .long) 5 R_MO (dC, dI) cI cJ cZ cQ A)  : ∀ n9 : Nat, ∀ (th : Int32) (hsize hplace hvalue : Nat → Int32) (L1 : Int64) (L3 : Int32), ∀ (H : Heap) (locs : List Loc) (ls : Array Slot), wp_MO_packBehind_4 Post  n9 th hsize hplace hvalue L1 L3 → va_P (dC, dI) vwCl [(a_mo, .inr (6, [.int th, .ref b_actions, .ref b_what, .ref b_where, .ref b_number, .ref b_done, .ref b_register, .ref b_memory, .ref a_gsize, .ref a_gplace, .ref a_gvalue, .ref b_known, .ref b_tooMany, .ref b_states, .ref b_stuck, .ref b_outcomes, .ref b_front, .ref b_behind, .ref b_from, .ref b_step, .ref b_depth, .ref b_ends, .ref b_endOutcome, .ref b_cuts, .ref b_soonest, .ref b_chain, .ref b_next, .ref b_row])), (a_gsize, .inl (cI, 4, .inl hsize)), (a_gplace, .inl (cI, 12, .inl hplace)), (a_gvalue, .inl (cI, 12, .inl hvalue))] H → va_D A [(a_mo, .inr (6, [.int th, .ref b_actions, .ref b_what, .ref b_where, .ref b_number, .ref b_done, .ref b_register, .ref b_memory, .ref a_gsize, .ref a_gplace, .ref a_gvalue, .ref b_known, .ref b_tooMany, .ref b_states, .ref b_stuck, .ref b_outcomes, .ref b_front, .ref b_behind, .ref b_from, .ref b_step, .ref b_depth, .ref b_ends, .ref b_endOutcome, .ref b_cuts, .ref b_soonest, .ref b_chain, .ref b_next, .ref b_row])), (a_gsize, .inl (cI, 4, .inl hsize)), (a_gplace, .inl (cI, 12, .inl hplace)), (a_gvalue, .inl (cI, 12, .inl hvalue))] → va_S A s.heap H locs → lv_has ls 5 [(0, .ref a_mo), (1, .long L1), (3, .int L3)] → W p l e ({ frames := 10, cells := 0, slots := 0, locals := 150 } : Room) s m args below meth c H locs 0 0 (MQ below (jQ_MO_packBehind dC dI cI cJ cZ cQ A a_mo a_gsize a_gplace a_gvalue b_actions b_what b_where b_number b_done b_register b_memory b_known b_tooMany b_states b_stuck b_outcomes b_front b_behind b_from b_step b_depth b_ends b_endOutcome b_cuts b_soonest b_chain b_next b_row Post) args s 0 0 A) (F0 m 4 ls []) := by
  obtain ⟨hx, hb, hr, hml, hown, hts, hlocks, hK, hZ, hA, hst⟩ := id C0
  intro n9
  induction n9 with
  | zero =>
    intro th hsize hplace hvalue L1 L3 H locs ls h hP hD hS hl
    exact False.elim h
  | succ n_4 ih =>
    intro th hsize hplace hvalue L1 L3 H locs ls h hP hD hS hl
    rw [wp_MO_packBehind_4] at h
    refine lv_iload_n hx hb d_MO_packBehind_4 rfl (lv_at hl 2 rfl) ?_
    refine lv_iconst (v := 4) hx hb d_MO_packBehind_5 (by decide) ?_
    refine lv_icmp_ge (tgt := 88) hx hb d_MO_packBehind_6 (by decide) (fun c6 => ?_) (fun c6 => ?_)
    · have h := h.1 c6
      refine lv_lload_n hx hb d_MO_packBehind_88 rfl (lv_at hl 1 rfl) ?_
      have hP9 := hP
      have hD9 := hD
      exact W.lret (v := L1) hx hb hr (fun t ht hW => ⟨⟨L1, (th, hsize, hplace, hvalue), rfl, h, by rw [ht]; exact hP9, va_K.moved hW.alike hK, hD9⟩, hS.F ht⟩) hS.2.2 d_MO_packBehind_89
    · have h := h.2 c6
      refine lv_lload_n hx hb d_MO_packBehind_9 rfl (lv_at hl 1 rfl) ?_
      refine lv_iconst (v := 2) hx hb d_MO_packBehind_10 (by decide) ?_
      refine lv_lshl hx hb d_MO_packBehind_11 rfl ?_
      refine lv_aload_n hx hb d_MO_packBehind_12 rfl (lv_at hl 0 rfl) ?_
      refine va_get (D := (dC, dI)) (ci := 6) (v := .ref a_gsize) (C := R_MO) (T := T_MO) (N := 28) hx hb hts in_MO hown hK hP 0 rfl rfl 8 (by decide) (hts _ mw_871) (fun _ h9 => h9) rfl d_MO_packBehind_13 ?_
      refine lv_iload_n hx hb d_MO_packBehind_16 rfl (lv_at hl 2 rfl) ?_
      refine va_iald hx hb hK hP 1 0 rfl rfl h.1 d_MO_packBehind_17 ?_
      have h := h.2
      refine lv_i2l hx hb d_MO_packBehind_18 rfl ?_
      refine lv_lor hx hb d_MO_packBehind_19 ?_
      refine lv_topl (fun x1 ex1 => ?_)
      have h := h x1 ex1
      refine lv_lstore_n (lv' := [(1, .long x1), (0, .ref a_mo), (3, .int L3)]) hx hb d_MO_packBehind_20 rfl hl (by decide) rfl (fun ls hl => ?_)
      refine lv_iconst (v := 0) hx hb d_MO_packBehind_21 (by decide) ?_
      refine lv_istore (lv' := [(4, .int 0), (1, .long x1), (0, .ref a_mo), (3, .int L3)]) hx hb d_MO_packBehind_22 hl (by decide) rfl (fun ls hl => ?_)
      obtain ⟨n_24, h⟩ := h
      exact l_MO_packBehind_24 C0 (fun (th : Int32) (hsize : Nat → Int32) (hplace : Nat → Int32) (hvalue : Nat → Int32) (L1 : Int64) (L3 : Int32) => wp_MO_packBehind_4 Post n_4 th hsize hplace hvalue L1 L3) ih n_24 th hsize hplace hvalue x1 L3 0  H locs ls h hP hD hS (lv_sub hl [2, 1, 3, 0] rfl)
set_option maxHeartbeats 4000000 in
set_option maxRecDepth 100000 in
theorem c_MO_packBehind (l : Launch) (dC : Nat → ClassId) (dI : Nat → Nat → Nat) (cI cJ cZ cQ : ClassId) (a_mo a_gsize a_gplace a_gvalue b_actions b_what b_where b_number b_done b_register b_memory b_known b_tooMany b_states b_stuck b_outcomes b_front b_behind b_from b_step b_depth b_ends b_endOutcome b_cuts b_soonest b_chain b_next b_row : Nat) (sz : Nat) (th : Int32) (hsize hplace hvalue : Nat → Int32) (Post : Int64 → Int32 → (Nat → Int32) → (Nat → Int32) → (Nat → Int32) → Prop) (h : wp_MO_packBehind Post th hsize hplace hvalue) : Met l y_MO_packBehind (.code y_MO_packBehind b_MO_packBehind 5 (some .long) :: jW) ({ frames := 10, cells := 0, slots := 0, locals := 150 } : Room) (jPre l (dC, dI) cI cJ cZ cQ [(a_mo, .inr (6, [.int th, .ref b_actions, .ref b_what, .ref b_where, .ref b_number, .ref b_done, .ref b_register, .ref b_memory, .ref a_gsize, .ref a_gplace, .ref a_gvalue, .ref b_known, .ref b_tooMany, .ref b_states, .ref b_stuck, .ref b_outcomes, .ref b_front, .ref b_behind, .ref b_from, .ref b_step, .ref b_depth, .ref b_ends, .ref b_endOutcome, .ref b_cuts, .ref b_soonest, .ref b_chain, .ref b_next, .ref b_row])), (a_gsize, .inl (cI, 4, .inl hsize)), (a_gplace, .inl (cI, 12, .inl hplace)), (a_gvalue, .inl (cI, 12, .inl hvalue))] sz [.ref a_mo]) (jQ_MO_packBehind dC dI cI cJ cZ cQ (va_A [(a_mo, .inr (6, [.int th, .ref b_actions, .ref b_what, .ref b_where, .ref b_number, .ref b_done, .ref b_register, .ref b_memory, .ref a_gsize, .ref a_gplace, .ref a_gvalue, .ref b_known, .ref b_tooMany, .ref b_states, .ref b_stuck, .ref b_outcomes, .ref b_front, .ref b_behind, .ref b_from, .ref b_step, .ref b_depth, .ref b_ends, .ref b_endOutcome, .ref b_cuts, .ref b_soonest, .ref b_chain, .ref b_next, .ref b_row])), (a_gsize, .inl (cI, 4, .inl hsize)), (a_gplace, .inl (cI, 12, .inl hplace)), (a_gvalue, .inl (cI, 12, .inl hvalue))] sz) a_mo a_gsize a_gplace a_gvalue b_actions b_what b_where b_number b_done b_register b_memory b_known b_tooMany b_states b_stuck b_outcomes b_front b_behind b_from b_step b_depth b_ends b_endOutcome b_cuts b_soonest b_chain b_next b_row Post) 0 0 (va_A [(a_mo, .inr (6, [.int th, .ref b_actions, .ref b_what, .ref b_where, .ref b_number, .ref b_done, .ref b_register, .ref b_memory, .ref a_gsize, .ref a_gplace, .ref a_gvalue, .ref b_known, .ref b_tooMany, .ref b_states, .ref b_stuck, .ref b_outcomes, .ref b_front, .ref b_behind, .ref b_from, .ref b_step, .ref b_depth, .ref b_ends, .ref b_endOutcome, .ref b_cuts, .ref b_soonest, .ref b_chain, .ref b_next, .ref b_row])), (a_gsize, .inl (cI, 4, .inl hsize)), (a_gplace, .inl (cI, 12, .inl hplace)), (a_gvalue, .inl (cI, 12, .inl hvalue))] sz) := by
  refine Met.ofW (cc := b_MO_packBehind) (maxL := 5) (ret := (some .long)) (by decide) rfl ?_
  intro p e s m args below meth c s₁ B hml hv
  obtain ⟨rfl, hsz, hP, hK, hD0, hZ, hst⟩ := hv
  subst hsz
  have hD := hD0.self (sz := s.heap.size)
  generalize hAe : va_A [(a_mo, .inr (6, [.int th, .ref b_actions, .ref b_what, .ref b_where, .ref b_number, .ref b_done, .ref b_register, .ref b_memory, .ref a_gsize, .ref a_gplace, .ref a_gvalue, .ref b_known, .ref b_tooMany, .ref b_states, .ref b_stuck, .ref b_outcomes, .ref b_front, .ref b_behind, .ref b_from, .ref b_step, .ref b_depth, .ref b_ends, .ref b_endOutcome, .ref b_cuts, .ref b_soonest, .ref b_chain, .ref b_next, .ref b_row])), (a_gsize, .inl (cI, 4, .inl hsize)), (a_gplace, .inl (cI, 12, .inl hplace)), (a_gvalue, .inl (cI, 12, .inl hvalue))] s.heap.size = A at hD hZ ⊢
  have hA : ∀ q : Nat, s.heap.size ≤ q → A q := fun q h => by rw [← hAe]; exact Or.inr h
  have C0 : jC p l s m ([.ref a_mo] : List Value).toArray meth c b_MO_packBehind (some .long) 5 R_MO (dC, dI) cI cJ cZ cQ A := ⟨B.exec, B.bytes, B.returns, hml, findClass_of_methodNamed B.named, fun w hw => atoms_spec (ws := (.code y_MO_packBehind b_MO_packBehind 5 (some .long) :: jW)) B.pre w (List.mem_cons_of_mem _ hw), B.notSynchronized, hK, hZ, hA, hst⟩
  obtain ⟨hx, hb, hr, hml, hown, hts, hlocks, hK, hZ, hA, hst⟩ := id C0
  have hS : va_S A s.heap s.heap [] := va_S.rf
  have hl := lv_entry ([.ref a_mo]) (n := 5) (Nat.le_of_ble_eq_true rfl)
  rw [lg_entry_eq]
  generalize (lg_sl ([.ref a_mo]) ++ List.replicate (5 - (lg_sl ([.ref a_mo])).length) Slot.unset).toArray = ls at hl ⊢
  have hl : lv_has ls 5 [(0, .ref a_mo)] := hl
  obtain ⟨H, hH⟩ : ∃ H : Heap, H = s.heap := ⟨_, rfl⟩
  obtain ⟨locs, hlc⟩ : ∃ L : List Loc, L = [] := ⟨_, rfl⟩
  have hP : va_P (dC, dI) vwCl [(a_mo, .inr (6, [.int th, .ref b_actions, .ref b_what, .ref b_where, .ref b_number, .ref b_done, .ref b_register, .ref b_memory, .ref a_gsize, .ref a_gplace, .ref a_gvalue, .ref b_known, .ref b_tooMany, .ref b_states, .ref b_stuck, .ref b_outcomes, .ref b_front, .ref b_behind, .ref b_from, .ref b_step, .ref b_depth, .ref b_ends, .ref b_endOutcome, .ref b_cuts, .ref b_soonest, .ref b_chain, .ref b_next, .ref b_row])), (a_gsize, .inl (cI, 4, .inl hsize)), (a_gplace, .inl (cI, 12, .inl hplace)), (a_gvalue, .inl (cI, 12, .inl hvalue))] H := by rw [hH]; exact hP
  have hS : va_S A s.heap H locs := by rw [hH, hlc]; exact hS
  suffices hW9 : W p l e ({ frames := 10, cells := 0, slots := 0, locals := 150 } : Room) s m ([.ref a_mo] : List Value).toArray below meth c H locs 0 0 (MQ below (jQ_MO_packBehind dC dI cI cJ cZ cQ A a_mo a_gsize a_gplace a_gvalue b_actions b_what b_where b_number b_done b_register b_memory b_known b_tooMany b_states b_stuck b_outcomes b_front b_behind b_from b_step b_depth b_ends b_endOutcome b_cuts b_soonest b_chain b_next b_row Post) ([.ref a_mo] : List Value).toArray s 0 0 A) (F0 m 0 ls []) by rw [hH, hlc] at hW9; exact hW9
  clear hH hlc
  rw [wp_MO_packBehind] at h
  refine lv_lconst (v := 0) hx hb d_MO_packBehind_0 (by decide) ?_
  refine lv_lstore_n (lv' := [(1, .long 0), (0, .ref a_mo)]) hx hb d_MO_packBehind_1 rfl hl (by decide) rfl (fun ls hl => ?_)
  refine lv_iconst (v := 0) hx hb d_MO_packBehind_2 (by decide) ?_
  refine lv_istore_n (lv' := [(3, .int 0), (1, .long 0), (0, .ref a_mo)]) hx hb d_MO_packBehind_3 rfl hl (by decide) rfl (fun ls hl => ?_)
  obtain ⟨n_4, h⟩ := h
  exact l_MO_packBehind_4 C0  n_4 th hsize hplace hvalue 0 0  H locs ls h hP hD hS (lv_sub hl [2, 1, 0] rfl)
