/-- what OrderMachinesModel.unpack(JJ)V leaves -/
abbrev jQ_MO_unpack (dC : Nat → ClassId) (dI : Nat → Nat → Nat) (cI cJ cZ cQ : ClassId) (A : Nat → Prop) (a_mo a_gdone a_gregister a_gmemory a_gsize a_gplace a_gvalue b_actions b_what b_where b_number b_known b_tooMany b_states b_stuck b_outcomes b_front b_behind b_from b_step b_depth b_ends b_endOutcome b_cuts b_soonest b_chain b_next b_row : Nat) (Post : Int32 → (Nat → Int32) → (Nat → Int32) → (Nat → Int32) → (Nat → Int32) → (Nat → Int32) → (Nat → Int32) → Prop) : Array Value → State → Outcome → State → Prop := va_Qv (fun (u : Int32 × (Nat → Int32) × (Nat → Int32) × (Nat → Int32) × (Nat → Int32) × (Nat → Int32) × (Nat → Int32)) => Post u.1 u.2.1 u.2.2.1 u.2.2.2.1 u.2.2.2.2.1 u.2.2.2.2.2.1 u.2.2.2.2.2.2) (fun (u : Int32 × (Nat → Int32) × (Nat → Int32) × (Nat → Int32) × (Nat → Int32) × (Nat → Int32) × (Nat → Int32)) (t : State) => match u with
  | (th, hdone, hregister, hmemory, hsize, hplace, hvalue) => jPost (dC, dI) (jT cI cJ cZ cQ) A [(a_mo, .inr (6, [.int th, .ref b_actions, .ref b_what, .ref b_where, .ref b_number, .ref a_gdone, .ref a_gregister, .ref a_gmemory, .ref a_gsize, .ref a_gplace, .ref a_gvalue, .ref b_known, .ref b_tooMany, .ref b_states, .ref b_stuck, .ref b_outcomes, .ref b_front, .ref b_behind, .ref b_from, .ref b_step, .ref b_depth, .ref b_ends, .ref b_endOutcome, .ref b_cuts, .ref b_soonest, .ref b_chain, .ref b_next, .ref b_row])), (a_gdone, .inl (cI, 4, .inl hdone)), (a_gregister, .inl (cI, 16, .inl hregister)), (a_gmemory, .inl (cI, 4, .inl hmemory)), (a_gsize, .inl (cI, 4, .inl hsize)), (a_gplace, .inl (cI, 12, .inl hplace)), (a_gvalue, .inl (cI, 12, .inl hvalue))] t) A
def wp_MO_unpack_145 (Post : Int32 → (Nat → Int32) → (Nat → Int32) → (Nat → Int32) → (Nat → Int32) → (Nat → Int32) → (Nat → Int32) → Prop) (K107 : Int32 → (Nat → Int32) → (Nat → Int32) → (Nat → Int32) → (Nat → Int32) → (Nat → Int32) → (Nat → Int32) → Int64 → Int32 → Prop) : Nat → Int32 → (Nat → Int32) → (Nat → Int32) → (Nat → Int32) → (Nat → Int32) → (Nat → Int32) → (Nat → Int32) → Int64 → Int32 → Int32 → Int32 → Prop
  | 0, _, _, _, _, _, _, _, _, _, _, _ => False
  | n_145 + 1, th, hdone, hregister, hmemory, hsize, hplace, hvalue, L3, L5, L6, L7 =>
    ((3 ≤ L7 → ∀ x9 : Int32, x9 = L5 + 1 → K107 th hdone hregister hmemory hsize hplace hvalue L3 x9) ∧
    (¬ 3 ≤ L7 → ∀ x10 : Int32, x10 = (L6 >>> ((8 - (4 * L7)) &&& 31)) &&& 15 → vp_in ((3 * L5) + L7) 12 ∧ ∀ f11 : Nat → Int32, f11 = upd hplace ((3 * L5) + L7).toNatClampNeg (x10 / 4) → vp_in ((3 * L5) + L7) 12 ∧ ∀ f12 : Nat → Int32, f12 = upd hvalue ((3 * L5) + L7).toNatClampNeg (x10 - x10 / 4 * 4) → ∀ x13 : Int32, x13 = L7 + 1 → (wp_MO_unpack_145 Post K107 n_145) th hdone hregister hmemory hsize f11 f12 L3 L5 L6 x13))
def wp_MO_unpack_107 (Post : Int32 → (Nat → Int32) → (Nat → Int32) → (Nat → Int32) → (Nat → Int32) → (Nat → Int32) → (Nat → Int32) → Prop)  : Nat → Int32 → (Nat → Int32) → (Nat → Int32) → (Nat → Int32) → (Nat → Int32) → (Nat → Int32) → (Nat → Int32) → Int64 → Int32 → Prop
  | 0, _, _, _, _, _, _, _, _, _ => False
  | n_107 + 1, th, hdone, hregister, hmemory, hsize, hplace, hvalue, L3, L5 =>
    ((4 ≤ L5 → Post th hdone hregister hmemory hsize hplace hvalue) ∧
    (¬ 4 ≤ L5 → ∀ x7 : Int32, x7 = ((L3 >>> ((42 - (14 * L5)).toInt64 &&& 63)).toInt32) &&& 16383 → vp_in L5 4 ∧ ∀ f8 : Nat → Int32, f8 = upd hsize L5.toNatClampNeg (x7 >>> (12 &&& 31)) → (∃ n_145 : Nat, wp_MO_unpack_145 Post (fun (th : Int32) (hdone : Nat → Int32) (hregister : Nat → Int32) (hmemory : Nat → Int32) (hsize : Nat → Int32) (hplace : Nat → Int32) (hvalue : Nat → Int32) (L3 : Int64) (L5 : Int32) => wp_MO_unpack_107 Post n_107 th hdone hregister hmemory hsize hplace hvalue L3 L5) n_145 th hdone hregister hmemory f8 hplace hvalue L3 L5 x7 0)))
def wp_MO_unpack_73 (Post : Int32 → (Nat → Int32) → (Nat → Int32) → (Nat → Int32) → (Nat → Int32) → (Nat → Int32) → (Nat → Int32) → Prop)  : Nat → Int32 → (Nat → Int32) → (Nat → Int32) → (Nat → Int32) → (Nat → Int32) → (Nat → Int32) → (Nat → Int32) → Int64 → Int64 → Int32 → Prop
  | 0, _, _, _, _, _, _, _, _, _, _ => False
  | n_73 + 1, th, hdone, hregister, hmemory, hsize, hplace, hvalue, L1, L3, L5 =>
    ((4 ≤ L5 → (∃ n_107 : Nat, wp_MO_unpack_107 Post n_107 th hdone hregister hmemory hsize hplace hvalue L3 0)) ∧
    (¬ 4 ≤ L5 → vp_in L5 4 ∧ ∀ f5 : Nat → Int32, f5 = upd hmemory L5.toNatClampNeg (((L1 >>> ((6 - (2 * L5)).toInt64 &&& 63)).toInt32) &&& 3) → ∀ x6 : Int32, x6 = L5 + 1 → (wp_MO_unpack_73 Post n_73) th hdone hregister f5 hsize hplace hvalue L1 L3 x6))
def wp_MO_unpack_38 (Post : Int32 → (Nat → Int32) → (Nat → Int32) → (Nat → Int32) → (Nat → Int32) → (Nat → Int32) → (Nat → Int32) → Prop)  : Nat → Int32 → (Nat → Int32) → (Nat → Int32) → (Nat → Int32) → (Nat → Int32) → (Nat → Int32) → (Nat → Int32) → Int64 → Int64 → Int32 → Prop
  | 0, _, _, _, _, _, _, _, _, _, _ => False
  | n_38 + 1, th, hdone, hregister, hmemory, hsize, hplace, hvalue, L1, L3, L5 =>
    ((16 ≤ L5 → (∃ n_73 : Nat, wp_MO_unpack_73 Post n_73 th hdone hregister hmemory hsize hplace hvalue L1 L3 0)) ∧
    (¬ 16 ≤ L5 → vp_in L5 16 ∧ ∀ f3 : Nat → Int32, f3 = upd hregister L5.toNatClampNeg (((L1 >>> ((38 - (2 * L5)).toInt64 &&& 63)).toInt32) &&& 3) → ∀ x4 : Int32, x4 = L5 + 1 → (wp_MO_unpack_38 Post n_38) th hdone f3 hmemory hsize hplace hvalue L1 L3 x4))
def wp_MO_unpack_3 (Post : Int32 → (Nat → Int32) → (Nat → Int32) → (Nat → Int32) → (Nat → Int32) → (Nat → Int32) → (Nat → Int32) → Prop)  : Nat → Int32 → (Nat → Int32) → (Nat → Int32) → (Nat → Int32) → (Nat → Int32) → (Nat → Int32) → (Nat → Int32) → Int64 → Int64 → Int32 → Prop
  | 0, _, _, _, _, _, _, _, _, _, _ => False
  | n_3 + 1, th, hdone, hregister, hmemory, hsize, hplace, hvalue, L1, L3, L5 =>
    ((4 ≤ L5 → (∃ n_38 : Nat, wp_MO_unpack_38 Post n_38 th hdone hregister hmemory hsize hplace hvalue L1 L3 0)) ∧
    (¬ 4 ≤ L5 → vp_in L5 4 ∧ ∀ f1 : Nat → Int32, f1 = upd hdone L5.toNatClampNeg (((L1 >>> ((49 - (3 * L5)).toInt64 &&& 63)).toInt32) &&& 7) → ∀ x2 : Int32, x2 = L5 + 1 → (wp_MO_unpack_3 Post n_3) th f1 hregister hmemory hsize hplace hvalue L1 L3 x2))
/-- OrderMachinesModel.unpack(JJ)V -/
def wp_MO_unpack (Post : Int32 → (Nat → Int32) → (Nat → Int32) → (Nat → Int32) → (Nat → Int32) → (Nat → Int32) → (Nat → Int32) → Prop) (th : Int32) (hdone hregister hmemory hsize hplace hvalue : Nat → Int32) (a1 a2 : Int64) : Prop :=
  (∃ n_3 : Nat, wp_MO_unpack_3 Post n_3 th hdone hregister hmemory hsize hplace hvalue a1 a2 0)
set_option maxHeartbeats 4000000 in
set_option maxRecDepth 100000 in
theorem l_MO_unpack_145 {p : Program} {l : Launch} {e : Env} {s : State} {m : MethodId} {args : Array Value} {below : List Frame} {meth : Method} {c : Code} {dC : Nat → ClassId} {dI : Nat → Nat → Nat} {cI cJ cZ cQ : ClassId} {a_mo a_gdone a_gregister a_gmemory a_gsize a_gplace a_gvalue b_actions b_what b_where b_number b_known b_tooMany b_states b_stuck b_outcomes b_front b_behind b_from b_step b_depth b_ends b_endOutcome b_cuts b_soonest b_chain b_next b_row : Nat} {A : Nat → Prop} {Post : Int32 → (Nat → Int32) → (Nat → Int32) → (Nat → Int32) → (Nat → Int32) → (Nat → Int32) → (Nat → Int32) → Prop} (C0 : jC p l s m args meth c b_MO_unpack none 9 R_MO (dC, dI) cI cJ cZ cQ A) (K107 : Int32 → (Nat → Int32) → (Nat → Int32) → (Nat → Int32) → (Nat → Int32) → (Nat → Int32) → (Nat → Int32) → Int64 → Int32 → Prop) (hK107 : ∀ (th : Int32) (hdone hregister hmemory hsize hplace hvalue : Nat → Int32) (L3 : Int64) (L5 : Int32), ∀ (H : Heap) (locs : List Loc) (ls : Array Slot), K107 th hdone hregister hmemory hsize hplace hvalue L3 L5 → va_P (dC, dI) vwCl [(a_mo, .inr (6, [.int th, .ref b_actions, .ref b_what, .ref b_where, .ref b_number, .ref a_gdone, .ref a_gregister, .ref a_gmemory, .ref a_gsize, .ref a_gplace, .ref a_gvalue, .ref b_known, .ref b_tooMany, .ref b_states, .ref b_stuck, .ref b_outcomes, .ref b_front, .ref b_behind, .ref b_from, .ref b_step, .ref b_depth, .ref b_ends, .ref b_endOutcome, .ref b_cuts, .ref b_soonest, .ref b_chain, .ref b_next, .ref b_row])), (a_gdone, .inl (cI, 4, .inl hdone)), (a_gregister, .inl (cI, 16, .inl hregister)), (a_gmemory, .inl (cI, 4, .inl hmemory)), (a_gsize, .inl (cI, 4, .inl hsize)), (a_gplace, .inl (cI, 12, .inl hplace)), (a_gvalue, .inl (cI, 12, .inl hvalue))] H → va_D A [(a_mo, .inr (6, [.int th, .ref b_actions, .ref b_what, .ref b_where, .ref b_number, .ref a_gdone, .ref a_gregister, .ref a_gmemory, .ref a_gsize, .ref a_gplace, .ref a_gvalue, .ref b_known, .ref b_tooMany, .ref b_states, .ref b_stuck, .ref b_outcomes, .ref b_front, .ref b_behind, .ref b_from, .ref b_step, .ref b_depth, .ref b_ends, .ref b_endOutcome, .ref b_cuts, .ref b_soonest, .ref b_chain, .ref b_next, .ref b_row])), (a_gdone, .inl (cI, 4, .inl hdone)), (a_gregister, .inl (cI, 16, .inl hregister)), (a_gmemory, .inl (cI, 4, .inl hmemory)), (a_gsize, .inl (cI, 4, .inl hsize)), (a_gplace, .inl (cI, 12, .inl hplace)), (a_gvalue, .inl (cI, 12, .inl hvalue))] → va_S A s.heap H locs → lv_has ls 9 [(0, .ref a_mo), (3, .long L3), (5, .int L5)] → W p l e ({ frames := 10, cells := 0, slots := 0, locals := 150 } : Room) s m args below meth c H locs 0 0 (MQ below (jQ_MO_unpack dC dI cI cJ cZ cQ A a_mo a_gdone a_gregister a_gmemory a_gsize a_gplace a_gvalue b_actions b_what b_where b_number b_known b_tooMany b_states b_stuck b_outcomes b_front b_behind b_from b_step b_depth b_ends b_endOutcome b_cuts b_soonest b_chain b_next b_row Post) args s 0 0 A) (F0 m 107 ls [])) : ∀ n9 : Nat, ∀ (th : Int32) (hdone hregister hmemory hsize hplace hvalue : Nat → Int32) (L3 : Int64) (L5 L6 L7 : Int32), ∀ (H : Heap) (locs : List Loc) (ls : Array Slot), wp_MO_unpack_145 Post K107 n9 th hdone hregister hmemory hsize hplace hvalue L3 L5 L6 L7 → va_P (dC, dI) vwCl [(a_mo, .inr (6, [.int th, .ref b_actions, .ref b_what, .ref b_where, .ref b_number, .ref a_gdone, .ref a_gregister, .ref a_gmemory, .ref a_gsize, .ref a_gplace, .ref a_gvalue, .ref b_known, .ref b_tooMany, .ref b_states, .ref b_stuck, .ref b_outcomes, .ref b_front, .ref b_behind, .ref b_from, .ref b_step, .ref b_depth, .ref b_ends, .ref b_endOutcome, .ref b_cuts, .ref b_soonest, .ref b_chain, .ref b_next, .ref b_row])), (a_gdone, .inl (cI, 4, .inl hdone)), (a_gregister, .inl (cI, 16, .inl hregister)), (a_gmemory, .inl (cI, 4, .inl hmemory)), (a_gsize, .inl (cI, 4, .inl hsize)), (a_gplace, .inl (cI, 12, .inl hplace)), (a_gvalue, .inl (cI, 12, .inl hvalue))] H → va_D A [(a_mo, .inr (6, [.int th, .ref b_actions, .ref b_what, .ref b_where, .ref b_number, .ref a_gdone, .ref a_gregister, .ref a_gmemory, .ref a_gsize, .ref a_gplace, .ref a_gvalue, .ref b_known, .ref b_tooMany, .ref b_states, .ref b_stuck, .ref b_outcomes, .ref b_front, .ref b_behind, .ref b_from, .ref b_step, .ref b_depth, .ref b_ends, .ref b_endOutcome, .ref b_cuts, .ref b_soonest, .ref b_chain, .ref b_next, .ref b_row])), (a_gdone, .inl (cI, 4, .inl hdone)), (a_gregister, .inl (cI, 16, .inl hregister)), (a_gmemory, .inl (cI, 4, .inl hmemory)), (a_gsize, .inl (cI, 4, .inl hsize)), (a_gplace, .inl (cI, 12, .inl hplace)), (a_gvalue, .inl (cI, 12, .inl hvalue))] → va_S A s.heap H locs → lv_has ls 9 [(0, .ref a_mo), (3, .long L3), (5, .int L5), (6, .int L6), (7, .int L7)] → W p l e ({ frames := 10, cells := 0, slots := 0, locals := 150 } : Room) s m args below meth c H locs 0 0 (MQ below (jQ_MO_unpack dC dI cI cJ cZ cQ A a_mo a_gdone a_gregister a_gmemory a_gsize a_gplace a_gvalue b_actions b_what b_where b_number b_known b_tooMany b_states b_stuck b_outcomes b_front b_behind b_from b_step b_depth b_ends b_endOutcome b_cuts b_soonest b_chain b_next b_row Post) args s 0 0 A) (F0 m 145 ls []) := by
  obtain ⟨hx, hb, hr, hml, hown, hts, hlocks, hK, hZ, hA, hst⟩ := id C0
  intro n9
  induction n9 with
  | zero =>
    intro th hdone hregister hmemory hsize hplace hvalue L3 L5 L6 L7 H locs ls h hP hD hS hl
    exact False.elim h
  | succ n_145 ih =>
    intro th hdone hregister hmemory hsize hplace hvalue L3 L5 L6 L7 H locs ls h hP hD hS hl
    rw [wp_MO_unpack_145] at h
    refine lv_iload hx hb d_MO_unpack_145 (lv_at hl 4 rfl) ?_
    refine lv_iconst (v := 3) hx hb d_MO_unpack_147 (by decide) ?_
    refine lv_icmp_ge (tgt := 204) hx hb d_MO_unpack_148 (by decide) (fun c148 => ?_) (fun c148 => ?_)
    · have h := h.1 c148
      obtain ⟨x9, ex9⟩ : ∃ y : Int32, y = L5 + 1 := ⟨_, rfl⟩
      have h := h x9 ex9
      refine lv_iinc (v := x9) (lv' := [(5, .int x9), (0, .ref a_mo), (3, .long L3), (6, .int L6), (7, .int L7)]) hx hb d_MO_unpack_204 hl (k := 2) rfl (by rw [ex9]; rfl) (by decide) rfl (fun ls hl => ?_)
      refine lv_goto (tgt := 107) hx hb d_MO_unpack_207 (by decide) ?_
      exact hK107 th hdone hregister hmemory hsize hplace hvalue L3 x9  H locs ls h hP hD hS (lv_sub hl [1, 2, 0] rfl)
    · have h := h.2 c148
      refine lv_iload hx hb d_MO_unpack_151 (lv_at hl 3 rfl) ?_
      refine lv_bipush (v := 8) hx hb d_MO_unpack_153 (by decide) ?_
      refine lv_iconst (v := 4) hx hb d_MO_unpack_155 (by decide) ?_
      refine lv_iload hx hb d_MO_unpack_156 (lv_at hl 4 rfl) ?_
      refine lv_imul hx hb d_MO_unpack_158 ?_
      refine lv_isub hx hb d_MO_unpack_159 ?_
      refine lv_ishr hx hb d_MO_unpack_160 ?_
      refine lv_bipush (v := 15) hx hb d_MO_unpack_161 (by decide) ?_
      refine lv_iand hx hb d_MO_unpack_163 ?_
      refine lv_topi (fun x10 ex10 => ?_)
      have h := h x10 ex10
      refine lv_istore (lv' := [(8, .int x10), (0, .ref a_mo), (3, .long L3), (5, .int L5), (6, .int L6), (7, .int L7)]) hx hb d_MO_unpack_164 hl (by decide) rfl (fun ls hl => ?_)
      refine lv_aload_n hx hb d_MO_unpack_166 rfl (lv_at hl 1 rfl) ?_
      refine va_get (D := (dC, dI)) (ci := 6) (v := .ref a_gplace) (C := R_MO) (T := T_MO) (N := 28) hx hb hts in_MO hown hK hP 0 rfl rfl 9 (by decide) (hts _ mw_872) (fun _ h9 => h9) rfl d_MO_unpack_167 ?_
      refine lv_iconst (v := 3) hx hb d_MO_unpack_170 (by decide) ?_
      refine lv_iload hx hb d_MO_unpack_171 (lv_at hl 3 rfl) ?_
      refine lv_imul hx hb d_MO_unpack_173 ?_
      refine lv_iload hx hb d_MO_unpack_174 (lv_at hl 5 rfl) ?_
      refine lv_iadd hx hb d_MO_unpack_176 ?_
      refine lv_iload hx hb d_MO_unpack_177 (lv_at hl 0 rfl) ?_
      refine lv_iconst (v := 4) hx hb d_MO_unpack_179 (by decide) ?_
      refine lv_idiv hx hb d_MO_unpack_180 (by decide) ?_
      refine va_iast hx hb hK hP hD hS 5 0 rfl rfl h.1 d_MO_unpack_181 (fun H locs hP hD hS => ?_)
      have h := h.2
      obtain ⟨f11, ef11⟩ : ∃ y : Nat → Int32, y = upd hplace ((3 * L5) + L7).toNatClampNeg (x10 / 4) := ⟨_, rfl⟩
      rw [← ef11] at hP hD
      have h := h f11 ef11
      have hP : va_P (dC, dI) vwCl [(a_mo, .inr (6, [.int th, .ref b_actions, .ref b_what, .ref b_where, .ref b_number, .ref a_gdone, .ref a_gregister, .ref a_gmemory, .ref a_gsize, .ref a_gplace, .ref a_gvalue, .ref b_known, .ref b_tooMany, .ref b_states, .ref b_stuck, .ref b_outcomes, .ref b_front, .ref b_behind, .ref b_from, .ref b_step, .ref b_depth, .ref b_ends, .ref b_endOutcome, .ref b_cuts, .ref b_soonest, .ref b_chain, .ref b_next, .ref b_row])), (a_gdone, .inl (cI, 4, .inl hdone)), (a_gregister, .inl (cI, 16, .inl hregister)), (a_gmemory, .inl (cI, 4, .inl hmemory)), (a_gsize, .inl (cI, 4, .inl hsize)), (a_gplace, .inl (cI, 12, .inl f11)), (a_gvalue, .inl (cI, 12, .inl hvalue))] H := hP
      have hD : va_D A [(a_mo, .inr (6, [.int th, .ref b_actions, .ref b_what, .ref b_where, .ref b_number, .ref a_gdone, .ref a_gregister, .ref a_gmemory, .ref a_gsize, .ref a_gplace, .ref a_gvalue, .ref b_known, .ref b_tooMany, .ref b_states, .ref b_stuck, .ref b_outcomes, .ref b_front, .ref b_behind, .ref b_from, .ref b_step, .ref b_depth, .ref b_ends, .ref b_endOutcome, .ref b_cuts, .ref b_soonest, .ref b_chain, .ref b_next, .ref b_row])), (a_gdone, .inl (cI, 4, .inl hdone)), (a_gregister, .inl (cI, 16, .inl hregister)), (a_gmemory, .inl (cI, 4, .inl hmemory)), (a_gsize, .inl (cI, 4, .inl hsize)), (a_gplace, .inl (cI, 12, .inl f11)), (a_gvalue, .inl (cI, 12, .inl hvalue))] := hD
      refine lv_aload_n hx hb d_MO_unpack_182 rfl (lv_at hl 1 rfl) ?_
      refine va_get (D := (dC, dI)) (ci := 6) (v := .ref a_gvalue) (C := R_MO) (T := T_MO) (N := 28) hx hb hts in_MO hown hK hP 0 rfl rfl 10 (by decide) (hts _ mw_873) (fun _ h9 => h9) rfl d_MO_unpack_183 ?_
      refine lv_iconst (v := 3) hx hb d_MO_unpack_186 (by decide) ?_
      refine lv_iload hx hb d_MO_unpack_187 (lv_at hl 3 rfl) ?_
      refine lv_imul hx hb d_MO_unpack_189 ?_
      refine lv_iload hx hb d_MO_unpack_190 (lv_at hl 5 rfl) ?_
      refine lv_iadd hx hb d_MO_unpack_192 ?_
      refine lv_iload hx hb d_MO_unpack_193 (lv_at hl 0 rfl) ?_
      refine lv_iconst (v := 4) hx hb d_MO_unpack_195 (by decide) ?_
      refine lv_irem hx hb d_MO_unpack_196 (by decide) ?_
      refine va_iast hx hb hK hP hD hS 6 0 rfl rfl h.1 d_MO_unpack_197 (fun H locs hP hD hS => ?_)
      have h := h.2
      obtain ⟨f12, ef12⟩ : ∃ y : Nat → Int32, y = upd hvalue ((3 * L5) + L7).toNatClampNeg (x10 - x10 / 4 * 4) := ⟨_, rfl⟩
      rw [← ef12] at hP hD
      have h := h f12 ef12
      have hP : va_P (dC, dI) vwCl [(a_mo, .inr (6, [.int th, .ref b_actions, .ref b_what, .ref b_where, .ref b_number, .ref a_gdone, .ref a_gregister, .ref a_gmemory, .ref a_gsize, .ref a_gplace, .ref a_gvalue, .ref b_known, .ref b_tooMany, .ref b_states, .ref b_stuck, .ref b_outcomes, .ref b_front, .ref b_behind, .ref b_from, .ref b_step, .ref b_depth, .ref b_ends, .ref b_endOutcome, .ref b_cuts, .ref b_soonest, .ref b_chain, .ref b_next, .ref b_row])), (a_gdone, .inl (cI, 4, .inl hdone)), (a_gregister, .inl (cI, 16, .inl hregister)), (a_gmemory, .inl (cI, 4, .inl hmemory)), (a_gsize, .inl (cI, 4, .inl hsize)), (a_gplace, .inl (cI, 12, .inl f11)), (a_gvalue, .inl (cI, 12, .inl f12))] H := hP
      have hD : va_D A [(a_mo, .inr (6, [.int th, .ref b_actions, .ref b_what, .ref b_where, .ref b_number, .ref a_gdone, .ref a_gregister, .ref a_gmemory, .ref a_gsize, .ref a_gplace, .ref a_gvalue, .ref b_known, .ref b_tooMany, .ref b_states, .ref b_stuck, .ref b_outcomes, .ref b_front, .ref b_behind, .ref b_from, .ref b_step, .ref b_depth, .ref b_ends, .ref b_endOutcome, .ref b_cuts, .ref b_soonest, .ref b_chain, .ref b_next, .ref b_row])), (a_gdone, .inl (cI, 4, .inl hdone)), (a_gregister, .inl (cI, 16, .inl hregister)), (a_gmemory, .inl (cI, 4, .inl hmemory)), (a_gsize, .inl (cI, 4, .inl hsize)), (a_gplace, .inl (cI, 12, .inl f11)), (a_gvalue, .inl (cI, 12, .inl f12))] := hD
      obtain ⟨x13, ex13⟩ : ∃ y : Int32, y = L7 + 1 := ⟨_, rfl⟩
      have h := h x13 ex13
      refine lv_iinc (v := x13) (lv' := [(7, .int x13), (8, .int x10), (0, .ref a_mo), (3, .long L3), (5, .int L5), (6, .int L6)]) hx hb d_MO_unpack_198 hl (k := 5) rfl (by rw [ex13]; rfl) (by decide) rfl (fun ls hl => ?_)
      refine lv_goto (tgt := 145) hx hb d_MO_unpack_201 (by decide) ?_
      exact ih th hdone hregister hmemory hsize f11 f12 L3 L5 L6 x13  H locs ls h hP hD hS (lv_sub hl [2, 3, 4, 5, 0] rfl)
set_option maxHeartbeats 4000000 in
set_option maxRecDepth 100000 in
theorem l_MO_unpack_107 {p : Program} {l : Launch} {e : Env} {s : State} {m : MethodId} {args : Array Value} {below : List Frame} {meth : Method} {c : Code} {dC : Nat → ClassId} {dI : Nat → Nat → Nat} {cI cJ cZ cQ : ClassId} {a_mo a_gdone a_gregister a_gmemory a_gsize a_gplace a_gvalue b_actions b_what b_where b_number b_known b_tooMany b_states b_stuck b_outcomes b_front b_behind b_from b_step b_depth b_ends b_endOutcome b_cuts b_soonest b_chain b_next b_row : Nat} {A : Nat → Prop} {Post : Int32 → (Nat → Int32) → (Nat → Int32) → (Nat → Int32) → (Nat → Int32) → (Nat → Int32) → (Nat → Int32) → Prop} (C0 : jC p l s m args meth c b_MO_unpack none 9 R_MO (dC, dI) cI cJ cZ cQ A)  : ∀ n9 : Nat, ∀ (th : Int32) (hdone hregister hmemory hsize hplace hvalue : Nat → Int32) (L3 : Int64) (L5 : Int32), ∀ (H : Heap) (locs : List Loc) (ls : Array Slot), wp_MO_unpack_107 Post  n9 th hdone hregister hmemory hsize hplace hvalue L3 L5 → va_P (dC, dI) vwCl [(a_mo, .inr (6, [.int th, .ref b_actions, .ref b_what, .ref b_where, .ref b_number, .ref a_gdone, .ref a_gregister, .ref a_gmemory, .ref a_gsize, .ref a_gplace, .ref a_gvalue, .ref b_known, .ref b_tooMany, .ref b_states, .ref b_stuck, .ref b_outcomes, .ref b_front, .ref b_behind, .ref b_from, .ref b_step, .ref b_depth, .ref b_ends, .ref b_endOutcome, .ref b_cuts, .ref b_soonest, .ref b_chain, .ref b_next, .ref b_row])), (a_gdone, .inl (cI, 4, .inl hdone)), (a_gregister, .inl (cI, 16, .inl hregister)), (a_gmemory, .inl (cI, 4, .inl hmemory)), (a_gsize, .inl (cI, 4, .inl hsize)), (a_gplace, .inl (cI, 12, .inl hplace)), (a_gvalue, .inl (cI, 12, .inl hvalue))] H → va_D A [(a_mo, .inr (6, [.int th, .ref b_actions, .ref b_what, .ref b_where, .ref b_number, .ref a_gdone, .ref a_gregister, .ref a_gmemory, .ref a_gsize, .ref a_gplace, .ref a_gvalue, .ref b_known, .ref b_tooMany, .ref b_states, .ref b_stuck, .ref b_outcomes, .ref b_front, .ref b_behind, .ref b_from, .ref b_step, .ref b_depth, .ref b_ends, .ref b_endOutcome, .ref b_cuts, .ref b_soonest, .ref b_chain, .ref b_next, .ref b_row])), (a_gdone, .inl (cI, 4, .inl hdone)), (a_gregister, .inl (cI, 16, .inl hregister)), (a_gmemory, .inl (cI, 4, .inl hmemory)), (a_gsize, .inl (cI, 4, .inl hsize)), (a_gplace, .inl (cI, 12, .inl hplace)), (a_gvalue, .inl (cI, 12, .inl hvalue))] → va_S A s.heap H locs → lv_has ls 9 [(0, .ref a_mo), (3, .long L3), (5, .int L5)] → W p l e ({ frames := 10, cells := 0, slots := 0, locals := 150 } : Room) s m args below meth c H locs 0 0 (MQ below (jQ_MO_unpack dC dI cI cJ cZ cQ A a_mo a_gdone a_gregister a_gmemory a_gsize a_gplace a_gvalue b_actions b_what b_where b_number b_known b_tooMany b_states b_stuck b_outcomes b_front b_behind b_from b_step b_depth b_ends b_endOutcome b_cuts b_soonest b_chain b_next b_row Post) args s 0 0 A) (F0 m 107 ls []) := by
  obtain ⟨hx, hb, hr, hml, hown, hts, hlocks, hK, hZ, hA, hst⟩ := id C0
  intro n9
  induction n9 with
  | zero =>
    intro th hdone hregister hmemory hsize hplace hvalue L3 L5 H locs ls h hP hD hS hl
    exact False.elim h
  | succ n_107 ih =>
    intro th hdone hregister hmemory hsize hplace hvalue L3 L5 H locs ls h hP hD hS hl
    rw [wp_MO_unpack_107] at h
    refine lv_iload hx hb d_MO_unpack_107 (lv_at hl 2 rfl) ?_
    refine lv_iconst (v := 4) hx hb d_MO_unpack_109 (by decide) ?_
    refine lv_icmp_ge (tgt := 210) hx hb d_MO_unpack_110 (by decide) (fun c110 => ?_) (fun c110 => ?_)
    · have h := h.1 c110
      have hP9 := hP
      have hD9 := hD
      exact W.vret hx hb hr (fun t ht hW => ⟨⟨(th, hdone, hregister, hmemory, hsize, hplace, hvalue), rfl, h, by rw [ht]; exact hP9, va_K.moved hW.alike hK, hD9⟩, hS.F ht⟩) hS.2.2 d_MO_unpack_210
    · have h := h.2 c110
      refine lv_lload_n hx hb d_MO_unpack_113 rfl (lv_at hl 1 rfl) ?_
      refine lv_bipush (v := 42) hx hb d_MO_unpack_114 (by decide) ?_
      refine lv_bipush (v := 14) hx hb d_MO_unpack_116 (by decide) ?_
      refine lv_iload hx hb d_MO_unpack_118 (lv_at hl 2 rfl) ?_
      refine lv_imul hx hb d_MO_unpack_120 ?_
      refine lv_isub hx hb d_MO_unpack_121 ?_
      refine lv_lshr hx hb d_MO_unpack_122 rfl ?_
      refine lv_l2i hx hb d_MO_unpack_123 rfl ?_
      refine lv_sipush (v := 16383) hx hb d_MO_unpack_124 (by decide) ?_
      refine lv_iand hx hb d_MO_unpack_127 ?_
      refine lv_topi (fun x7 ex7 => ?_)
      have h := h x7 ex7
      refine lv_istore (lv' := [(6, .int x7), (0, .ref a_mo), (3, .long L3), (5, .int L5)]) hx hb d_MO_unpack_128 hl (by decide) rfl (fun ls hl => ?_)
      refine lv_aload_n hx hb d_MO_unpack_130 rfl (lv_at hl 1 rfl) ?_
      refine va_get (D := (dC, dI)) (ci := 6) (v := .ref a_gsize) (C := R_MO) (T := T_MO) (N := 28) hx hb hts in_MO hown hK hP 0 rfl rfl 8 (by decide) (hts _ mw_871) (fun _ h9 => h9) rfl d_MO_unpack_131 ?_
      refine lv_iload hx hb d_MO_unpack_134 (lv_at hl 3 rfl) ?_
      refine lv_iload hx hb d_MO_unpack_136 (lv_at hl 0 rfl) ?_
      refine lv_bipush (v := 12) hx hb d_MO_unpack_138 (by decide) ?_
      refine lv_ishr hx hb d_MO_unpack_140 ?_
      refine va_iast hx hb hK hP hD hS 4 0 rfl rfl h.1 d_MO_unpack_141 (fun H locs hP hD hS => ?_)
      have h := h.2
      obtain ⟨f8, ef8⟩ : ∃ y : Nat → Int32, y = upd hsize L5.toNatClampNeg (x7 >>> (12 &&& 31)) := ⟨_, rfl⟩
      rw [← ef8] at hP hD
      have h := h f8 ef8
      have hP : va_P (dC, dI) vwCl [(a_mo, .inr (6, [.int th, .ref b_actions, .ref b_what, .ref b_where, .ref b_number, .ref a_gdone, .ref a_gregister, .ref a_gmemory, .ref a_gsize, .ref a_gplace, .ref a_gvalue, .ref b_known, .ref b_tooMany, .ref b_states, .ref b_stuck, .ref b_outcomes, .ref b_front, .ref b_behind, .ref b_from, .ref b_step, .ref b_depth, .ref b_ends, .ref b_endOutcome, .ref b_cuts, .ref b_soonest, .ref b_chain, .ref b_next, .ref b_row])), (a_gdone, .inl (cI, 4, .inl hdone)), (a_gregister, .inl (cI, 16, .inl hregister)), (a_gmemory, .inl (cI, 4, .inl hmemory)), (a_gsize, .inl (cI, 4, .inl f8)), (a_gplace, .inl (cI, 12, .inl hplace)), (a_gvalue, .inl (cI, 12, .inl hvalue))] H := hP
      have hD : va_D A [(a_mo, .inr (6, [.int th, .ref b_actions, .ref b_what, .ref b_where, .ref b_number, .ref a_gdone, .ref a_gregister, .ref a_gmemory, .ref a_gsize, .ref a_gplace, .ref a_gvalue, .ref b_known, .ref b_tooMany, .ref b_states, .ref b_stuck, .ref b_outcomes, .ref b_front, .ref b_behind, .ref b_from, .ref b_step, .ref b_depth, .ref b_ends, .ref b_endOutcome, .ref b_cuts, .ref b_soonest, .ref b_chain, .ref b_next, .ref b_row])), (a_gdone, .inl (cI, 4, .inl hdone)), (a_gregister, .inl (cI, 16, .inl hregister)), (a_gmemory, .inl (cI, 4, .inl hmemory)), (a_gsize, .inl (cI, 4, .inl f8)), (a_gplace, .inl (cI, 12, .inl hplace)), (a_gvalue, .inl (cI, 12, .inl hvalue))] := hD
      refine lv_iconst (v := 0) hx hb d_MO_unpack_142 (by decide) ?_
      refine lv_istore (lv' := [(7, .int 0), (6, .int x7), (0, .ref a_mo), (3, .long L3), (5, .int L5)]) hx hb d_MO_unpack_143 hl (by decide) rfl (fun ls hl => ?_)
      obtain ⟨n_145, h⟩ := h
      exact l_MO_unpack_145 C0 (fun (th : Int32) (hdone : Nat → Int32) (hregister : Nat → Int32) (hmemory : Nat → Int32) (hsize : Nat → Int32) (hplace : Nat → Int32) (hvalue : Nat → Int32) (L3 : Int64) (L5 : Int32) => wp_MO_unpack_107 Post n_107 th hdone hregister hmemory hsize hplace hvalue L3 L5) ih n_145 th hdone hregister hmemory f8 hplace hvalue L3 L5 x7 0  H locs ls h hP hD hS (lv_sub hl [2, 3, 4, 1, 0] rfl)
set_option maxHeartbeats 4000000 in
set_option maxRecDepth 100000 in
theorem l_MO_unpack_73 {p : Program} {l : Launch} {e : Env} {s : State} {m : MethodId} {args : Array Value} {below : List Frame} {meth : Method} {c : Code} {dC : Nat → ClassId} {dI : Nat → Nat → Nat} {cI cJ cZ cQ : ClassId} {a_mo a_gdone a_gregister a_gmemory a_gsize a_gplace a_gvalue b_actions b_what b_where b_number b_known b_tooMany b_states b_stuck b_outcomes b_front b_behind b_from b_step b_depth b_ends b_endOutcome b_cuts b_soonest b_chain b_next b_row : Nat} {A : Nat → Prop} {Post : Int32 → (Nat → Int32) → (Nat → Int32) → (Nat → Int32) → (Nat → Int32) → (Nat → Int32) → (Nat → Int32) → Prop} (C0 : jC p l s m args meth c b_MO_unpack none 9 R_MO (dC, dI) cI cJ cZ cQ A)  : ∀ n9 : Nat, ∀ (th : Int32) (hdone hregister hmemory hsize hplace hvalue : Nat → Int32) (L1 L3 : Int64) (L5 : Int32), ∀ (H : Heap) (locs : List Loc) (ls : Array Slot), wp_MO_unpack_73 Post  n9 th hdone hregister hmemory hsize hplace hvalue L1 L3 L5 → va_P (dC, dI) vwCl [(a_mo, .inr (6, [.int th, .ref b_actions, .ref b_what, .ref b_where, .ref b_number, .ref a_gdone, .ref a_gregister, .ref a_gmemory, .ref a_gsize, .ref a_gplace, .ref a_gvalue, .ref b_known, .ref b_tooMany, .ref b_states, .ref b_stuck, .ref b_outcomes, .ref b_front, .ref b_behind, .ref b_from, .ref b_step, .ref b_depth, .ref b_ends, .ref b_endOutcome, .ref b_cuts, .ref b_soonest, .ref b_chain, .ref b_next, .ref b_row])), (a_gdone, .inl (cI, 4, .inl hdone)), (a_gregister, .inl (cI, 16, .inl hregister)), (a_gmemory, .inl (cI, 4, .inl hmemory)), (a_gsize, .inl (cI, 4, .inl hsize)), (a_gplace, .inl (cI, 12, .inl hplace)), (a_gvalue, .inl (cI, 12, .inl hvalue))] H → va_D A [(a_mo, .inr (6, [.int th, .ref b_actions, .ref b_what, .ref b_where, .ref b_number, .ref a_gdone, .ref a_gregister, .ref a_gmemory, .ref a_gsize, .ref a_gplace, .ref a_gvalue, .ref b_known, .ref b_tooMany, .ref b_states, .ref b_stuck, .ref b_outcomes, .ref b_front, .ref b_behind, .ref b_from, .ref b_step, .ref b_depth, .ref b_ends, .ref b_endOutcome, .ref b_cuts, .ref b_soonest, .ref b_chain, .ref b_next, .ref b_row])), (a_gdone, .inl (cI, 4, .inl hdone)), (a_gregister, .inl (cI, 16, .inl hregister)), (a_gmemory, .inl (cI, 4, .inl hmemory)), (a_gsize, .inl (cI, 4, .inl hsize)), (a_gplace, .inl (cI, 12, .inl hplace)), (a_gvalue, .inl (cI, 12, .inl hvalue))] → va_S A s.heap H locs → lv_has ls 9 [(0, .ref a_mo), (1, .long L1), (3, .long L3), (5, .int L5)] → W p l e ({ frames := 10, cells := 0, slots := 0, locals := 150 } : Room) s m args below meth c H locs 0 0 (MQ below (jQ_MO_unpack dC dI cI cJ cZ cQ A a_mo a_gdone a_gregister a_gmemory a_gsize a_gplace a_gvalue b_actions b_what b_where b_number b_known b_tooMany b_states b_stuck b_outcomes b_front b_behind b_from b_step b_depth b_ends b_endOutcome b_cuts b_soonest b_chain b_next b_row Post) args s 0 0 A) (F0 m 73 ls []) := by
  obtain ⟨hx, hb, hr, hml, hown, hts, hlocks, hK, hZ, hA, hst⟩ := id C0
  intro n9
  induction n9 with
  | zero =>
    intro th hdone hregister hmemory hsize hplace hvalue L1 L3 L5 H locs ls h hP hD hS hl
    exact False.elim h
  | succ n_73 ih =>
    intro th hdone hregister hmemory hsize hplace hvalue L1 L3 L5 H locs ls h hP hD hS hl
    rw [wp_MO_unpack_73] at h
    refine lv_iload hx hb d_MO_unpack_73 (lv_at hl 3 rfl) ?_
    refine lv_iconst (v := 4) hx hb d_MO_unpack_75 (by decide) ?_
    refine lv_icmp_ge (tgt := 104) hx hb d_MO_unpack_76 (by decide) (fun c76 => ?_) (fun c76 => ?_)
    · have h := h.1 c76
      refine lv_iconst (v := 0) hx hb d_MO_unpack_104 (by decide) ?_
      refine lv_istore (lv' := [(5, .int 0), (0, .ref a_mo), (1, .long L1), (3, .long L3)]) hx hb d_MO_unpack_105 hl (by decide) rfl (fun ls hl => ?_)
      obtain ⟨n_107, h⟩ := h
      exact l_MO_unpack_107 C0  n_107 th hdone hregister hmemory hsize hplace hvalue L3 0  H locs ls h hP hD hS (lv_sub hl [1, 3, 0] rfl)
    · have h := h.2 c76
      refine lv_aload_n hx hb d_MO_unpack_79 rfl (lv_at hl 0 rfl) ?_
      refine va_get (D := (dC, dI)) (ci := 6) (v := .ref a_gmemory) (C := R_MO) (T := T_MO) (N := 28) hx hb hts in_MO hown hK hP 0 rfl rfl 7 (by decide) (hts _ mw_870) (fun _ h9 => h9) rfl d_MO_unpack_80 ?_
      refine lv_iload hx hb d_MO_unpack_83 (lv_at hl 3 rfl) ?_
      refine lv_lload_n hx hb d_MO_unpack_85 rfl (lv_at hl 1 rfl) ?_
      refine lv_bipush (v := 6) hx hb d_MO_unpack_86 (by decide) ?_
      refine lv_iconst (v := 2) hx hb d_MO_unpack_88 (by decide) ?_
      refine lv_iload hx hb d_MO_unpack_89 (lv_at hl 3 rfl) ?_
      refine lv_imul hx hb d_MO_unpack_91 ?_
      refine lv_isub hx hb d_MO_unpack_92 ?_
      refine lv_lshr hx hb d_MO_unpack_93 rfl ?_
      refine lv_l2i hx hb d_MO_unpack_94 rfl ?_
      refine lv_iconst (v := 3) hx hb d_MO_unpack_95 (by decide) ?_
      refine lv_iand hx hb d_MO_unpack_96 ?_
      refine va_iast hx hb hK hP hD hS 3 0 rfl rfl h.1 d_MO_unpack_97 (fun H locs hP hD hS => ?_)
      have h := h.2
      obtain ⟨f5, ef5⟩ : ∃ y : Nat → Int32, y = upd hmemory L5.toNatClampNeg (((L1 >>> ((6 - (2 * L5)).toInt64 &&& 63)).toInt32) &&& 3) := ⟨_, rfl⟩
      rw [← ef5] at hP hD
      have h := h f5 ef5
      have hP : va_P (dC, dI) vwCl [(a_mo, .inr (6, [.int th, .ref b_actions, .ref b_what, .ref b_where, .ref b_number, .ref a_gdone, .ref a_gregister, .ref a_gmemory, .ref a_gsize, .ref a_gplace, .ref a_gvalue, .ref b_known, .ref b_tooMany, .ref b_states, .ref b_stuck, .ref b_outcomes, .ref b_front, .ref b_behind, .ref b_from, .ref b_step, .ref b_depth, .ref b_ends, .ref b_endOutcome, .ref b_cuts, .ref b_soonest, .ref b_chain, .ref b_next, .ref b_row])), (a_gdone, .inl (cI, 4, .inl hdone)), (a_gregister, .inl (cI, 16, .inl hregister)), (a_gmemory, .inl (cI, 4, .inl f5)), (a_gsize, .inl (cI, 4, .inl hsize)), (a_gplace, .inl (cI, 12, .inl hplace)), (a_gvalue, .inl (cI, 12, .inl hvalue))] H := hP
      have hD : va_D A [(a_mo, .inr (6, [.int th, .ref b_actions, .ref b_what, .ref b_where, .ref b_number, .ref a_gdone, .ref a_gregister, .ref a_gmemory, .ref a_gsize, .ref a_gplace, .ref a_gvalue, .ref b_known, .ref b_tooMany, .ref b_states, .ref b_stuck, .ref b_outcomes, .ref b_front, .ref b_behind, .ref b_from, .ref b_step, .ref b_depth, .ref b_ends, .ref b_endOutcome, .ref b_cuts, .ref b_soonest, .ref b_chain, .ref b_next, .ref b_row])), (a_gdone, .inl (cI, 4, .inl hdone)), (a_gregister, .inl (cI, 16, .inl hregister)), (a_gmemory, .inl (cI, 4, .inl f5)), (a_gsize, .inl (cI, 4, .inl hsize)), (a_gplace, .inl (cI, 12, .inl hplace)), (a_gvalue, .inl (cI, 12, .inl hvalue))] := hD
      obtain ⟨x6, ex6⟩ : ∃ y : Int32, y = L5 + 1 := ⟨_, rfl⟩
      have h := h x6 ex6
      refine lv_iinc (v := x6) (lv' := [(5, .int x6), (0, .ref a_mo), (1, .long L1), (3, .long L3)]) hx hb d_MO_unpack_98 hl (k := 3) rfl (by rw [ex6]; rfl) (by decide) rfl (fun ls hl => ?_)
      refine lv_goto (tgt := 73) hx hb d_MO_unpack_101 (by decide) ?_
      exact ih th hdone hregister f5 hsize hplace hvalue L1 L3 x6  H locs ls h hP hD hS (lv_sub hl [1, 2, 3, 0] rfl)
set_option maxHeartbeats 4000000 in
set_option maxRecDepth 100000 in
theorem l_MO_unpack_38 {p : Program} {l : Launch} {e : Env} {s : State} {m : MethodId} {args : Array Value} {below : List Frame} {meth : Method} {c : Code} {dC : Nat → ClassId} {dI : Nat → Nat → Nat} {cI cJ cZ cQ : ClassId} {a_mo a_gdone a_gregister a_gmemory a_gsize a_gplace a_gvalue b_actions b_what b_where b_number b_known b_tooMany b_states b_stuck b_outcomes b_front b_behind b_from b_step b_depth b_ends b_endOutcome b_cuts b_soonest b_chain b_next b_row : Nat} {A : Nat → Prop} {Post : Int32 → (Nat → Int32) → (Nat → Int32) → (Nat → Int32) → (Nat → Int32) → (Nat → Int32) → (Nat → Int32) → Prop} (C0 : jC p l s m args meth c b_MO_unpack none 9 R_MO (dC, dI) cI cJ cZ cQ A)  : ∀ n9 : Nat, ∀ (th : Int32) (hdone hregister hmemory hsize hplace hvalue : Nat → Int32) (L1 L3 : Int64) (L5 : Int32), ∀ (H : Heap) (locs : List Loc) (ls : Array Slot), wp_MO_unpack_38 Post  n9 th hdone hregister hmemory hsize hplace hvalue L1 L3 L5 → va_P (dC, dI) vwCl [(a_mo, .inr (6, [.int th, .ref b_actions, .ref b_what, .ref b_where, .ref b_number, .ref a_gdone, .ref a_gregister, .ref a_gmemory, .ref a_gsize, .ref a_gplace, .ref a_gvalue, .ref b_known, .ref b_tooMany, .ref b_states, .ref b_stuck, .ref b_outcomes, .ref b_front, .ref b_behind, .ref b_from, .ref b_step, .ref b_depth, .ref b_ends, .ref b_endOutcome, .ref b_cuts, .ref b_soonest, .ref b_chain, .ref b_next, .ref b_row])), (a_gdone, .inl (cI, 4, .inl hdone)), (a_gregister, .inl (cI, 16, .inl hregister)), (a_gmemory, .inl (cI, 4, .inl hmemory)), (a_gsize, .inl (cI, 4, .inl hsize)), (a_gplace, .inl (cI, 12, .inl hplace)), (a_gvalue, .inl (cI, 12, .inl hvalue))] H → va_D A [(a_mo, .inr (6, [.int th, .ref b_actions, .ref b_what, .ref b_where, .ref b_number, .ref a_gdone, .ref a_gregister, .ref a_gmemory, .ref a_gsize, .ref a_gplace, .ref a_gvalue, .ref b_known, .ref b_tooMany, .ref b_states, .ref b_stuck, .ref b_outcomes, .ref b_front, .ref b_behind, .ref b_from, .ref b_step, .ref b_depth, .ref b_ends, .ref b_endOutcome, .ref b_cuts, .ref b_soonest, .ref b_chain, .ref b_next, .ref b_row])), (a_gdone, .inl (cI, 4, .inl hdone)), (a_gregister, .inl (cI, 16, .inl hregister)), (a_gmemory, .inl (cI, 4, .inl hmemory)), (a_gsize, .inl (cI, 4, .inl hsize)), (a_gplace, .inl (cI, 12, .inl hplace)), (a_gvalue, .inl (cI, 12, .inl hvalue))] → va_S A s.heap H locs → lv_has ls 9 [(0, .ref a_mo), (1, .long L1), (3, .long L3), (5, .int L5)] → W p l e ({ frames := 10, cells := 0, slots := 0, locals := 150 } : Room) s m args below meth c H locs 0 0 (MQ below (jQ_MO_unpack dC dI cI cJ cZ cQ A a_mo a_gdone a_gregister a_gmemory a_gsize a_gplace a_gvalue b_actions b_what b_where b_number b_known b_tooMany b_states b_stuck b_outcomes b_front b_behind b_from b_step b_depth b_ends b_endOutcome b_cuts b_soonest b_chain b_next b_row Post) args s 0 0 A) (F0 m 38 ls []) := by
  obtain ⟨hx, hb, hr, hml, hown, hts, hlocks, hK, hZ, hA, hst⟩ := id C0
  intro n9
  induction n9 with
  | zero =>
    intro th hdone hregister hmemory hsize hplace hvalue L1 L3 L5 H locs ls h hP hD hS hl
    exact False.elim h
  | succ n_38 ih =>
    intro th hdone hregister hmemory hsize hplace hvalue L1 L3 L5 H locs ls h hP hD hS hl
    rw [wp_MO_unpack_38] at h
    refine lv_iload hx hb d_MO_unpack_38 (lv_at hl 3 rfl) ?_
    refine lv_bipush (v := 16) hx hb d_MO_unpack_40 (by decide) ?_
    refine lv_icmp_ge (tgt := 70) hx hb d_MO_unpack_42 (by decide) (fun c42 => ?_) (fun c42 => ?_)
    · have h := h.1 c42
      refine lv_iconst (v := 0) hx hb d_MO_unpack_70 (by decide) ?_
      refine lv_istore (lv' := [(5, .int 0), (0, .ref a_mo), (1, .long L1), (3, .long L3)]) hx hb d_MO_unpack_71 hl (by decide) rfl (fun ls hl => ?_)
      obtain ⟨n_73, h⟩ := h
      exact l_MO_unpack_73 C0  n_73 th hdone hregister hmemory hsize hplace hvalue L1 L3 0  H locs ls h hP hD hS (lv_sub hl [1, 2, 3, 0] rfl)
    · have h := h.2 c42
      refine lv_aload_n hx hb d_MO_unpack_45 rfl (lv_at hl 0 rfl) ?_
      refine va_get (D := (dC, dI)) (ci := 6) (v := .ref a_gregister) (C := R_MO) (T := T_MO) (N := 28) hx hb hts in_MO hown hK hP 0 rfl rfl 6 (by decide) (hts _ mw_869) (fun _ h9 => h9) rfl d_MO_unpack_46 ?_
      refine lv_iload hx hb d_MO_unpack_49 (lv_at hl 3 rfl) ?_
      refine lv_lload_n hx hb d_MO_unpack_51 rfl (lv_at hl 1 rfl) ?_
      refine lv_bipush (v := 38) hx hb d_MO_unpack_52 (by decide) ?_
      refine lv_iconst (v := 2) hx hb d_MO_unpack_54 (by decide) ?_
      refine lv_iload hx hb d_MO_unpack_55 (lv_at hl 3 rfl) ?_
      refine lv_imul hx hb d_MO_unpack_57 ?_
      refine lv_isub hx hb d_MO_unpack_58 ?_
      refine lv_lshr hx hb d_MO_unpack_59 rfl ?_
      refine lv_l2i hx hb d_MO_unpack_60 rfl ?_
      refine lv_iconst (v := 3) hx hb d_MO_unpack_61 (by decide) ?_
      refine lv_iand hx hb d_MO_unpack_62 ?_
      refine va_iast hx hb hK hP hD hS 2 0 rfl rfl h.1 d_MO_unpack_63 (fun H locs hP hD hS => ?_)
      have h := h.2
      obtain ⟨f3, ef3⟩ : ∃ y : Nat → Int32, y = upd hregister L5.toNatClampNeg (((L1 >>> ((38 - (2 * L5)).toInt64 &&& 63)).toInt32) &&& 3) := ⟨_, rfl⟩
      rw [← ef3] at hP hD
      have h := h f3 ef3
      have hP : va_P (dC, dI) vwCl [(a_mo, .inr (6, [.int th, .ref b_actions, .ref b_what, .ref b_where, .ref b_number, .ref a_gdone, .ref a_gregister, .ref a_gmemory, .ref a_gsize, .ref a_gplace, .ref a_gvalue, .ref b_known, .ref b_tooMany, .ref b_states, .ref b_stuck, .ref b_outcomes, .ref b_front, .ref b_behind, .ref b_from, .ref b_step, .ref b_depth, .ref b_ends, .ref b_endOutcome, .ref b_cuts, .ref b_soonest, .ref b_chain, .ref b_next, .ref b_row])), (a_gdone, .inl (cI, 4, .inl hdone)), (a_gregister, .inl (cI, 16, .inl f3)), (a_gmemory, .inl (cI, 4, .inl hmemory)), (a_gsize, .inl (cI, 4, .inl hsize)), (a_gplace, .inl (cI, 12, .inl hplace)), (a_gvalue, .inl (cI, 12, .inl hvalue))] H := hP
      have hD : va_D A [(a_mo, .inr (6, [.int th, .ref b_actions, .ref b_what, .ref b_where, .ref b_number, .ref a_gdone, .ref a_gregister, .ref a_gmemory, .ref a_gsize, .ref a_gplace, .ref a_gvalue, .ref b_known, .ref b_tooMany, .ref b_states, .ref b_stuck, .ref b_outcomes, .ref b_front, .ref b_behind, .ref b_from, .ref b_step, .ref b_depth, .ref b_ends, .ref b_endOutcome, .ref b_cuts, .ref b_soonest, .ref b_chain, .ref b_next, .ref b_row])), (a_gdone, .inl (cI, 4, .inl hdone)), (a_gregister, .inl (cI, 16, .inl f3)), (a_gmemory, .inl (cI, 4, .inl hmemory)), (a_gsize, .inl (cI, 4, .inl hsize)), (a_gplace, .inl (cI, 12, .inl hplace)), (a_gvalue, .inl (cI, 12, .inl hvalue))] := hD
      obtain ⟨x4, ex4⟩ : ∃ y : Int32, y = L5 + 1 := ⟨_, rfl⟩
      have h := h x4 ex4
      refine lv_iinc (v := x4) (lv' := [(5, .int x4), (0, .ref a_mo), (1, .long L1), (3, .long L3)]) hx hb d_MO_unpack_64 hl (k := 3) rfl (by rw [ex4]; rfl) (by decide) rfl (fun ls hl => ?_)
      refine lv_goto (tgt := 38) hx hb d_MO_unpack_67 (by decide) ?_
      exact ih th hdone f3 hmemory hsize hplace hvalue L1 L3 x4  H locs ls h hP hD hS (lv_sub hl [1, 2, 3, 0] rfl)
set_option maxHeartbeats 4000000 in
set_option maxRecDepth 100000 in
theorem l_MO_unpack_3 {p : Program} {l : Launch} {e : Env} {s : State} {m : MethodId} {args : Array Value} {below : List Frame} {meth : Method} {c : Code} {dC : Nat → ClassId} {dI : Nat → Nat → Nat} {cI cJ cZ cQ : ClassId} {a_mo a_gdone a_gregister a_gmemory a_gsize a_gplace a_gvalue b_actions b_what b_where b_number b_known b_tooMany b_states b_stuck b_outcomes b_front b_behind b_from b_step b_depth b_ends b_endOutcome b_cuts b_soonest b_chain b_next b_row : Nat} {A : Nat → Prop} {Post : Int32 → (Nat → Int32) → (Nat → Int32) → (Nat → Int32) → (Nat → Int32) → (Nat → Int32) → (Nat → Int32) → Prop} (C0 : jC p l s m args meth c b_MO_unpack none 9 R_MO (dC, dI) cI cJ cZ cQ A)  : ∀ n9 : Nat, ∀ (th : Int32) (hdone hregister hmemory hsize hplace hvalue : Nat → Int32) (L1 L3 : Int64) (L5 : Int32), ∀ (H : Heap) (locs : List Loc) (ls : Array Slot), wp_MO_unpack_3 Post  n9 th hdone hregister hmemory hsize hplace hvalue L1 L3 L5 → va_P (dC, dI) vwCl [(a_mo, .inr (6, [.int th, .ref b_actions, .ref b_what, .ref b_where, .ref b_number, .ref a_gdone, .ref a_gregister, .ref a_gmemory, .ref a_gsize, .ref a_gplace, .ref a_gvalue, .ref b_known, .ref b_tooMany, .ref b_states, .ref b_stuck, .ref b_outcomes, .ref b_front, .ref b_behind, .ref b_from, .ref b_step, .ref b_depth, .ref b_ends, .ref b_endOutcome, .ref b_cuts, .ref b_soonest, .ref b_chain, .ref b_next, .ref b_row])), (a_gdone, .inl (cI, 4, .inl hdone)), (a_gregister, .inl (cI, 16, .inl hregister)), (a_gmemory, .inl (cI, 4, .inl hmemory)), (a_gsize, .inl (cI, 4, .inl hsize)), (a_gplace, .inl (cI, 12, .inl hplace)), (a_gvalue, .inl (cI, 12, .inl hvalue))] H → va_D A [(a_mo, .inr (6, [.int th, .ref b_actions, .ref b_what, .ref b_where, .ref b_number, .ref a_gdone, .ref a_gregister, .ref a_gmemory, .ref a_gsize, .ref a_gplace, .ref a_gvalue, .ref b_known, .ref b_tooMany, .ref b_states, .ref b_stuck, .ref b_outcomes, .ref b_front, .ref b_behind, .ref b_from, .ref b_step, .ref b_depth, .ref b_ends, .ref b_endOutcome, .ref b_cuts, .ref b_soonest, .ref b_chain, .ref b_next, .ref b_row])), (a_gdone, .inl (cI, 4, .inl hdone)), (a_gregister, .inl (cI, 16, .inl hregister)), (a_gmemory, .inl (cI, 4, .inl hmemory)), (a_gsize, .inl (cI, 4, .inl hsize)), (a_gplace, .inl (cI, 12, .inl hplace)), (a_gvalue, .inl (cI, 12, .inl hvalue))] → va_S A s.heap H locs → lv_has ls 9 [(0, .ref a_mo), (1, .long L1), (3, .long L3), (5, .int L5)] → W p l e ({ frames := 10, cells := 0, slots := 0, locals := 150 } : Room) s m args below meth c H locs 0 0 (MQ below (jQ_MO_unpack dC dI cI cJ cZ cQ A a_mo a_gdone a_gregister a_gmemory a_gsize a_gplace a_gvalue b_actions b_what b_where b_number b_known b_tooMany b_states b_stuck b_outcomes b_front b_behind b_from b_step b_depth b_ends b_endOutcome b_cuts b_soonest b_chain b_next b_row Post) args s 0 0 A) (F0 m 3 ls []) := by
  obtain ⟨hx, hb, hr, hml, hown, hts, hlocks, hK, hZ, hA, hst⟩ := id C0
  intro n9
  induction n9 with
  | zero =>
    intro th hdone hregister hmemory hsize hplace hvalue L1 L3 L5 H locs ls h hP hD hS hl
    exact False.elim h
  | succ n_3 ih =>
    intro th hdone hregister hmemory hsize hplace hvalue L1 L3 L5 H locs ls h hP hD hS hl
    rw [wp_MO_unpack_3] at h
    refine lv_iload hx hb d_MO_unpack_3 (lv_at hl 3 rfl) ?_
    refine lv_iconst (v := 4) hx hb d_MO_unpack_5 (by decide) ?_
    refine lv_icmp_ge (tgt := 35) hx hb d_MO_unpack_6 (by decide) (fun c6 => ?_) (fun c6 => ?_)
    · have h := h.1 c6
      refine lv_iconst (v := 0) hx hb d_MO_unpack_35 (by decide) ?_
      refine lv_istore (lv' := [(5, .int 0), (0, .ref a_mo), (1, .long L1), (3, .long L3)]) hx hb d_MO_unpack_36 hl (by decide) rfl (fun ls hl => ?_)
      obtain ⟨n_38, h⟩ := h
      exact l_MO_unpack_38 C0  n_38 th hdone hregister hmemory hsize hplace hvalue L1 L3 0  H locs ls h hP hD hS (lv_sub hl [1, 2, 3, 0] rfl)
    · have h := h.2 c6
      refine lv_aload_n hx hb d_MO_unpack_9 rfl (lv_at hl 0 rfl) ?_
      refine va_get (D := (dC, dI)) (ci := 6) (v := .ref a_gdone) (C := R_MO) (T := T_MO) (N := 28) hx hb hts in_MO hown hK hP 0 rfl rfl 5 (by decide) (hts _ mw_868) (fun _ h9 => h9) rfl d_MO_unpack_10 ?_
      refine lv_iload hx hb d_MO_unpack_13 (lv_at hl 3 rfl) ?_
      refine lv_lload_n hx hb d_MO_unpack_15 rfl (lv_at hl 1 rfl) ?_
      refine lv_bipush (v := 49) hx hb d_MO_unpack_16 (by decide) ?_
      refine lv_iconst (v := 3) hx hb d_MO_unpack_18 (by decide) ?_
      refine lv_iload hx hb d_MO_unpack_19 (lv_at hl 3 rfl) ?_
      refine lv_imul hx hb d_MO_unpack_21 ?_
      refine lv_isub hx hb d_MO_unpack_22 ?_
      refine lv_lshr hx hb d_MO_unpack_23 rfl ?_
      refine lv_l2i hx hb d_MO_unpack_24 rfl ?_
      refine lv_bipush (v := 7) hx hb d_MO_unpack_25 (by decide) ?_
      refine lv_iand hx hb d_MO_unpack_27 ?_
      refine va_iast hx hb hK hP hD hS 1 0 rfl rfl h.1 d_MO_unpack_28 (fun H locs hP hD hS => ?_)
      have h := h.2
      obtain ⟨f1, ef1⟩ : ∃ y : Nat → Int32, y = upd hdone L5.toNatClampNeg (((L1 >>> ((49 - (3 * L5)).toInt64 &&& 63)).toInt32) &&& 7) := ⟨_, rfl⟩
      rw [← ef1] at hP hD
      have h := h f1 ef1
      have hP : va_P (dC, dI) vwCl [(a_mo, .inr (6, [.int th, .ref b_actions, .ref b_what, .ref b_where, .ref b_number, .ref a_gdone, .ref a_gregister, .ref a_gmemory, .ref a_gsize, .ref a_gplace, .ref a_gvalue, .ref b_known, .ref b_tooMany, .ref b_states, .ref b_stuck, .ref b_outcomes, .ref b_front, .ref b_behind, .ref b_from, .ref b_step, .ref b_depth, .ref b_ends, .ref b_endOutcome, .ref b_cuts, .ref b_soonest, .ref b_chain, .ref b_next, .ref b_row])), (a_gdone, .inl (cI, 4, .inl f1)), (a_gregister, .inl (cI, 16, .inl hregister)), (a_gmemory, .inl (cI, 4, .inl hmemory)), (a_gsize, .inl (cI, 4, .inl hsize)), (a_gplace, .inl (cI, 12, .inl hplace)), (a_gvalue, .inl (cI, 12, .inl hvalue))] H := hP
      have hD : va_D A [(a_mo, .inr (6, [.int th, .ref b_actions, .ref b_what, .ref b_where, .ref b_number, .ref a_gdone, .ref a_gregister, .ref a_gmemory, .ref a_gsize, .ref a_gplace, .ref a_gvalue, .ref b_known, .ref b_tooMany, .ref b_states, .ref b_stuck, .ref b_outcomes, .ref b_front, .ref b_behind, .ref b_from, .ref b_step, .ref b_depth, .ref b_ends, .ref b_endOutcome, .ref b_cuts, .ref b_soonest, .ref b_chain, .ref b_next, .ref b_row])), (a_gdone, .inl (cI, 4, .inl f1)), (a_gregister, .inl (cI, 16, .inl hregister)), (a_gmemory, .inl (cI, 4, .inl hmemory)), (a_gsize, .inl (cI, 4, .inl hsize)), (a_gplace, .inl (cI, 12, .inl hplace)), (a_gvalue, .inl (cI, 12, .inl hvalue))] := hD
      obtain ⟨x2, ex2⟩ : ∃ y : Int32, y = L5 + 1 := ⟨_, rfl⟩
      have h := h x2 ex2
      refine lv_iinc (v := x2) (lv' := [(5, .int x2), (0, .ref a_mo), (1, .long L1), (3, .long L3)]) hx hb d_MO_unpack_29 hl (k := 3) rfl (by rw [ex2]; rfl) (by decide) rfl (fun ls hl => ?_)
      refine lv_goto (tgt := 3) hx hb d_MO_unpack_32 (by decide) ?_
      exact ih th f1 hregister hmemory hsize hplace hvalue L1 L3 x2  H locs ls h hP hD hS (lv_sub hl [1, 2, 3, 0] rfl)
set_option maxHeartbeats 4000000 in
set_option maxRecDepth 100000 in
theorem c_MO_unpack (l : Launch) (dC : Nat → ClassId) (dI : Nat → Nat → Nat) (cI cJ cZ cQ : ClassId) (a_mo a_gdone a_gregister a_gmemory a_gsize a_gplace a_gvalue b_actions b_what b_where b_number b_known b_tooMany b_states b_stuck b_outcomes b_front b_behind b_from b_step b_depth b_ends b_endOutcome b_cuts b_soonest b_chain b_next b_row : Nat) (sz : Nat) (th : Int32) (hdone hregister hmemory hsize hplace hvalue : Nat → Int32) (a1 a2 : Int64) (Post : Int32 → (Nat → Int32) → (Nat → Int32) → (Nat → Int32) → (Nat → Int32) → (Nat → Int32) → (Nat → Int32) → Prop) (h : wp_MO_unpack Post th hdone hregister hmemory hsize hplace hvalue a1 a2) : Met l y_MO_unpack (.code y_MO_unpack b_MO_unpack 9 none :: jW) ({ frames := 10, cells := 0, slots := 0, locals := 150 } : Room) (jPre l (dC, dI) cI cJ cZ cQ [(a_mo, .inr (6, [.int th, .ref b_actions, .ref b_what, .ref b_where, .ref b_number, .ref a_gdone, .ref a_gregister, .ref a_gmemory, .ref a_gsize, .ref a_gplace, .ref a_gvalue, .ref b_known, .ref b_tooMany, .ref b_states, .ref b_stuck, .ref b_outcomes, .ref b_front, .ref b_behind, .ref b_from, .ref b_step, .ref b_depth, .ref b_ends, .ref b_endOutcome, .ref b_cuts, .ref b_soonest, .ref b_chain, .ref b_next, .ref b_row])), (a_gdone, .inl (cI, 4, .inl hdone)), (a_gregister, .inl (cI, 16, .inl hregister)), (a_gmemory, .inl (cI, 4, .inl hmemory)), (a_gsize, .inl (cI, 4, .inl hsize)), (a_gplace, .inl (cI, 12, .inl hplace)), (a_gvalue, .inl (cI, 12, .inl hvalue))] sz [.ref a_mo, .long a1, .long a2]) (jQ_MO_unpack dC dI cI cJ cZ cQ (va_A [(a_mo, .inr (6, [.int th, .ref b_actions, .ref b_what, .ref b_where, .ref b_number, .ref a_gdone, .ref a_gregister, .ref a_gmemory, .ref a_gsize, .ref a_gplace, .ref a_gvalue, .ref b_known, .ref b_tooMany, .ref b_states, .ref b_stuck, .ref b_outcomes, .ref b_front, .ref b_behind, .ref b_from, .ref b_step, .ref b_depth, .ref b_ends, .ref b_endOutcome, .ref b_cuts, .ref b_soonest, .ref b_chain, .ref b_next, .ref b_row])), (a_gdone, .inl (cI, 4, .inl hdone)), (a_gregister, .inl (cI, 16, .inl hregister)), (a_gmemory, .inl (cI, 4, .inl hmemory)), (a_gsize, .inl (cI, 4, .inl hsize)), (a_gplace, .inl (cI, 12, .inl hplace)), (a_gvalue, .inl (cI, 12, .inl hvalue))] sz) a_mo a_gdone a_gregister a_gmemory a_gsize a_gplace a_gvalue b_actions b_what b_where b_number b_known b_tooMany b_states b_stuck b_outcomes b_front b_behind b_from b_step b_depth b_ends b_endOutcome b_cuts b_soonest b_chain b_next b_row Post) 0 0 (va_A [(a_mo, .inr (6, [.int th, .ref b_actions, .ref b_what, .ref b_where, .ref b_number, .ref a_gdone, .ref a_gregister, .ref a_gmemory, .ref a_gsize, .ref a_gplace, .ref a_gvalue, .ref b_known, .ref b_tooMany, .ref b_states, .ref b_stuck, .ref b_outcomes, .ref b_front, .ref b_behind, .ref b_from, .ref b_step, .ref b_depth, .ref b_ends, .ref b_endOutcome, .ref b_cuts, .ref b_soonest, .ref b_chain, .ref b_next, .ref b_row])), (a_gdone, .inl (cI, 4, .inl hdone)), (a_gregister, .inl (cI, 16, .inl hregister)), (a_gmemory, .inl (cI, 4, .inl hmemory)), (a_gsize, .inl (cI, 4, .inl hsize)), (a_gplace, .inl (cI, 12, .inl hplace)), (a_gvalue, .inl (cI, 12, .inl hvalue))] sz) := by
  refine Met.ofW (cc := b_MO_unpack) (maxL := 9) (ret := none) (by decide) rfl ?_
  intro p e s m args below meth c s₁ B hml hv
  obtain ⟨rfl, hsz, hP, hK, hD0, hZ, hst⟩ := hv
  subst hsz
  have hD := hD0.self (sz := s.heap.size)
  generalize hAe : va_A [(a_mo, .inr (6, [.int th, .ref b_actions, .ref b_what, .ref b_where, .ref b_number, .ref a_gdone, .ref a_gregister, .ref a_gmemory, .ref a_gsize, .ref a_gplace, .ref a_gvalue, .ref b_known, .ref b_tooMany, .ref b_states, .ref b_stuck, .ref b_outcomes, .ref b_front, .ref b_behind, .ref b_from, .ref b_step, .ref b_depth, .ref b_ends, .ref b_endOutcome, .ref b_cuts, .ref b_soonest, .ref b_chain, .ref b_next, .ref b_row])), (a_gdone, .inl (cI, 4, .inl hdone)), (a_gregister, .inl (cI, 16, .inl hregister)), (a_gmemory, .inl (cI, 4, .inl hmemory)), (a_gsize, .inl (cI, 4, .inl hsize)), (a_gplace, .inl (cI, 12, .inl hplace)), (a_gvalue, .inl (cI, 12, .inl hvalue))] s.heap.size = A at hD hZ ⊢
  have hA : ∀ q : Nat, s.heap.size ≤ q → A q := fun q h => by rw [← hAe]; exact Or.inr h
  have C0 : jC p l s m ([.ref a_mo, .long a1, .long a2] : List Value).toArray meth c b_MO_unpack none 9 R_MO (dC, dI) cI cJ cZ cQ A := ⟨B.exec, B.bytes, B.returns, hml, findClass_of_methodNamed B.named, fun w hw => atoms_spec (ws := (.code y_MO_unpack b_MO_unpack 9 none :: jW)) B.pre w (List.mem_cons_of_mem _ hw), B.notSynchronized, hK, hZ, hA, hst⟩
  obtain ⟨hx, hb, hr, hml, hown, hts, hlocks, hK, hZ, hA, hst⟩ := id C0
  have hS : va_S A s.heap s.heap [] := va_S.rf
  have hl := lv_entry ([.ref a_mo, .long a1, .long a2]) (n := 9) (Nat.le_of_ble_eq_true rfl)
  rw [lg_entry_eq]
  generalize (lg_sl ([.ref a_mo, .long a1, .long a2]) ++ List.replicate (9 - (lg_sl ([.ref a_mo, .long a1, .long a2])).length) Slot.unset).toArray = ls at hl ⊢
  have hl : lv_has ls 9 [(0, .ref a_mo), (1, .long a1), (3, .long a2)] := hl
  obtain ⟨H, hH⟩ : ∃ H : Heap, H = s.heap := ⟨_, rfl⟩
  obtain ⟨locs, hlc⟩ : ∃ L : List Loc, L = [] := ⟨_, rfl⟩
  have hP : va_P (dC, dI) vwCl [(a_mo, .inr (6, [.int th, .ref b_actions, .ref b_what, .ref b_where, .ref b_number, .ref a_gdone, .ref a_gregister, .ref a_gmemory, .ref a_gsize, .ref a_gplace, .ref a_gvalue, .ref b_known, .ref b_tooMany, .ref b_states, .ref b_stuck, .ref b_outcomes, .ref b_front, .ref b_behind, .ref b_from, .ref b_step, .ref b_depth, .ref b_ends, .ref b_endOutcome, .ref b_cuts, .ref b_soonest, .ref b_chain, .ref b_next, .ref b_row])), (a_gdone, .inl (cI, 4, .inl hdone)), (a_gregister, .inl (cI, 16, .inl hregister)), (a_gmemory, .inl (cI, 4, .inl hmemory)), (a_gsize, .inl (cI, 4, .inl hsize)), (a_gplace, .inl (cI, 12, .inl hplace)), (a_gvalue, .inl (cI, 12, .inl hvalue))] H := by rw [hH]; exact hP
  have hS : va_S A s.heap H locs := by rw [hH, hlc]; exact hS
  suffices hW9 : W p l e ({ frames := 10, cells := 0, slots := 0, locals := 150 } : Room) s m ([.ref a_mo, .long a1, .long a2] : List Value).toArray below meth c H locs 0 0 (MQ below (jQ_MO_unpack dC dI cI cJ cZ cQ A a_mo a_gdone a_gregister a_gmemory a_gsize a_gplace a_gvalue b_actions b_what b_where b_number b_known b_tooMany b_states b_stuck b_outcomes b_front b_behind b_from b_step b_depth b_ends b_endOutcome b_cuts b_soonest b_chain b_next b_row Post) ([.ref a_mo, .long a1, .long a2] : List Value).toArray s 0 0 A) (F0 m 0 ls []) by rw [hH, hlc] at hW9; exact hW9
  clear hH hlc
  rw [wp_MO_unpack] at h
  refine lv_iconst (v := 0) hx hb d_MO_unpack_0 (by decide) ?_
  refine lv_istore (lv' := [(5, .int 0), (0, .ref a_mo), (1, .long a1), (3, .long a2)]) hx hb d_MO_unpack_1 hl (by decide) rfl (fun ls hl => ?_)
  obtain ⟨n_3, h⟩ := h
  exact l_MO_unpack_3 C0  n_3 th hdone hregister hmemory hsize hplace hvalue a1 a2 0  H locs ls h hP hD hS (lv_sub hl [1, 2, 3, 0] rfl)

/-- what OrderMachinesModel.bufferOf(II)I leaves -/
abbrev jQ_MO_bufferOf (dC : Nat → ClassId) (dI : Nat → Nat → Nat) (cI cJ cZ cQ : ClassId) (A : Nat → Prop) (a_mo b_actions b_what b_where b_number b_done b_register b_memory b_size b_place b_value b_known b_tooMany b_states b_stuck b_outcomes b_front b_behind b_from b_step b_depth b_ends b_endOutcome b_cuts b_soonest b_chain b_next b_row : Nat) (Post : Int32 → Int32 → Prop) : Array Value → State → Outcome → State → Prop := va_Qi (fun (r : Int32) (u : Int32) => Post r u) (fun (u : Int32) (t : State) => match u with
  | th => jPost (dC, dI) (jT cI cJ cZ cQ) A [(a_mo, .inr (6, [.int th, .ref b_actions, .ref b_what, .ref b_where, .ref b_number, .ref b_done, .ref b_register, .ref b_memory, .ref b_size, .ref b_place, .ref b_value, .ref b_known, .ref b_tooMany, .ref b_states, .ref b_stuck, .ref b_outcomes, .ref b_front, .ref b_behind, .ref b_from, .ref b_step, .ref b_depth, .ref b_ends, .ref b_endOutcome, .ref b_cuts, .ref b_soonest, .ref b_chain, .ref b_next, .ref b_row]))] t) A
/-- OrderMachinesModel.bufferOf(II)I -/
def wp_MO_bufferOf (Post : Int32 → Int32 → Prop) (th a1 a2 : Int32) : Prop :=
  ((¬ a1 = 3 → Post a2 th) ∧
  (a1 = 3 → Post (a2 / 2) th))
set_option maxHeartbeats 4000000 in
set_option maxRecDepth 100000 in
theorem c_MO_bufferOf (l : Launch) (dC : Nat → ClassId) (dI : Nat → Nat → Nat) (cI cJ cZ cQ : ClassId) (a_mo b_actions b_what b_where b_number b_done b_register b_memory b_size b_place b_value b_known b_tooMany b_states b_stuck b_outcomes b_front b_behind b_from b_step b_depth b_ends b_endOutcome b_cuts b_soonest b_chain b_next b_row : Nat) (sz : Nat) (th a1 a2 : Int32) (Post : Int32 → Int32 → Prop) (h : wp_MO_bufferOf Post th a1 a2) : Met l y_MO_bufferOf (.code y_MO_bufferOf b_MO_bufferOf 3 (some .int) :: jW) ({ frames := 10, cells := 0, slots := 0, locals := 150 } : Room) (jPre l (dC, dI) cI cJ cZ cQ [(a_mo, .inr (6, [.int th, .ref b_actions, .ref b_what, .ref b_where, .ref b_number, .ref b_done, .ref b_register, .ref b_memory, .ref b_size, .ref b_place, .ref b_value, .ref b_known, .ref b_tooMany, .ref b_states, .ref b_stuck, .ref b_outcomes, .ref b_front, .ref b_behind, .ref b_from, .ref b_step, .ref b_depth, .ref b_ends, .ref b_endOutcome, .ref b_cuts, .ref b_soonest, .ref b_chain, .ref b_next, .ref b_row]))] sz [.ref a_mo, .int a1, .int a2]) (jQ_MO_bufferOf dC dI cI cJ cZ cQ (va_A [(a_mo, .inr (6, [.int th, .ref b_actions, .ref b_what, .ref b_where, .ref b_number, .ref b_done, .ref b_register, .ref b_memory, .ref b_size, .ref b_place, .ref b_value, .ref b_known, .ref b_tooMany, .ref b_states, .ref b_stuck, .ref b_outcomes, .ref b_front, .ref b_behind, .ref b_from, .ref b_step, .ref b_depth, .ref b_ends, .ref b_endOutcome, .ref b_cuts, .ref b_soonest, .ref b_chain, .ref b_next, .ref b_row]))] sz) a_mo b_actions b_what b_where b_number b_done b_register b_memory b_size b_place b_value b_known b_tooMany b_states b_stuck b_outcomes b_front b_behind b_from b_step b_depth b_ends b_endOutcome b_cuts b_soonest b_chain b_next b_row Post) 0 0 (va_A [(a_mo, .inr (6, [.int th, .ref b_actions, .ref b_what, .ref b_where, .ref b_number, .ref b_done, .ref b_register, .ref b_memory, .ref b_size, .ref b_place, .ref b_value, .ref b_known, .ref b_tooMany, .ref b_states, .ref b_stuck, .ref b_outcomes, .ref b_front, .ref b_behind, .ref b_from, .ref b_step, .ref b_depth, .ref b_ends, .ref b_endOutcome, .ref b_cuts, .ref b_soonest, .ref b_chain, .ref b_next, .ref b_row]))] sz) := by
  refine Met.ofW (cc := b_MO_bufferOf) (maxL := 3) (ret := (some .int)) (by decide) rfl ?_
  intro p e s m args below meth c s₁ B hml hv
  obtain ⟨rfl, hsz, hP, hK, hD0, hZ, hst⟩ := hv
  subst hsz
  have hD := hD0.self (sz := s.heap.size)
  generalize hAe : va_A [(a_mo, .inr (6, [.int th, .ref b_actions, .ref b_what, .ref b_where, .ref b_number, .ref b_done, .ref b_register, .ref b_memory, .ref b_size, .ref b_place, .ref b_value, .ref b_known, .ref b_tooMany, .ref b_states, .ref b_stuck, .ref b_outcomes, .ref b_front, .ref b_behind, .ref b_from, .ref b_step, .ref b_depth, .ref b_ends, .ref b_endOutcome, .ref b_cuts, .ref b_soonest, .ref b_chain, .ref b_next, .ref b_row]))] s.heap.size = A at hD hZ ⊢
  have hA : ∀ q : Nat, s.heap.size ≤ q → A q := fun q h => by rw [← hAe]; exact Or.inr h
  have C0 : jC p l s m ([.ref a_mo, .int a1, .int a2] : List Value).toArray meth c b_MO_bufferOf (some .int) 3 R_MO (dC, dI) cI cJ cZ cQ A := ⟨B.exec, B.bytes, B.returns, hml, findClass_of_methodNamed B.named, fun w hw => atoms_spec (ws := (.code y_MO_bufferOf b_MO_bufferOf 3 (some .int) :: jW)) B.pre w (List.mem_cons_of_mem _ hw), B.notSynchronized, hK, hZ, hA, hst⟩
  obtain ⟨hx, hb, hr, hml, hown, hts, hlocks, hK, hZ, hA, hst⟩ := id C0
  have hS : va_S A s.heap s.heap [] := va_S.rf
  have hl := lv_entry ([.ref a_mo, .int a1, .int a2]) (n := 3) (Nat.le_of_ble_eq_true rfl)
  rw [lg_entry_eq]
  generalize (lg_sl ([.ref a_mo, .int a1, .int a2]) ++ List.replicate (3 - (lg_sl ([.ref a_mo, .int a1, .int a2])).length) Slot.unset).toArray = ls at hl ⊢
  have hl : lv_has ls 3 [(0, .ref a_mo), (1, .int a1), (2, .int a2)] := hl
  obtain ⟨H, hH⟩ : ∃ H : Heap, H = s.heap := ⟨_, rfl⟩
  obtain ⟨locs, hlc⟩ : ∃ L : List Loc, L = [] := ⟨_, rfl⟩
  have hP : va_P (dC, dI) vwCl [(a_mo, .inr (6, [.int th, .ref b_actions, .ref b_what, .ref b_where, .ref b_number, .ref b_done, .ref b_register, .ref b_memory, .ref b_size, .ref b_place, .ref b_value, .ref b_known, .ref b_tooMany, .ref b_states, .ref b_stuck, .ref b_outcomes, .ref b_front, .ref b_behind, .ref b_from, .ref b_step, .ref b_depth, .ref b_ends, .ref b_endOutcome, .ref b_cuts, .ref b_soonest, .ref b_chain, .ref b_next, .ref b_row]))] H := by rw [hH]; exact hP
  have hS : va_S A s.heap H locs := by rw [hH, hlc]; exact hS
  suffices hW9 : W p l e ({ frames := 10, cells := 0, slots := 0, locals := 150 } : Room) s m ([.ref a_mo, .int a1, .int a2] : List Value).toArray below meth c H locs 0 0 (MQ below (jQ_MO_bufferOf dC dI cI cJ cZ cQ A a_mo b_actions b_what b_where b_number b_done b_register b_memory b_size b_place b_value b_known b_tooMany b_states b_stuck b_outcomes b_front b_behind b_from b_step b_depth b_ends b_endOutcome b_cuts b_soonest b_chain b_next b_row Post) ([.ref a_mo, .int a1, .int a2] : List Value).toArray s 0 0 A) (F0 m 0 ls []) by rw [hH, hlc] at hW9; exact hW9
  clear hH hlc
  rw [wp_MO_bufferOf] at h
  refine lv_iload_n hx hb d_MO_bufferOf_0 rfl (lv_at hl 1 rfl) ?_
  refine lv_iconst (v := 3) hx hb d_MO_bufferOf_1 (by decide) ?_
  refine lv_icmp_ne (tgt := 11) hx hb d_MO_bufferOf_2 (by decide) (fun c2 => ?_) (fun c2 => ?_)
  · have h := h.1 c2
    refine lv_iload_n hx hb d_MO_bufferOf_11 rfl (lv_at hl 2 rfl) ?_
    have hP9 := hP
    have hD9 := hD
    exact W.iret (v := a2) hx hb hr (fun t ht hW => ⟨⟨a2, th, rfl, h, by rw [ht]; exact hP9, va_K.moved hW.alike hK, hD9⟩, hS.F ht⟩) hS.2.2 d_MO_bufferOf_12
  · have h := h.2 c2
    refine lv_iload_n hx hb d_MO_bufferOf_5 rfl (lv_at hl 2 rfl) ?_
    refine lv_iconst (v := 2) hx hb d_MO_bufferOf_6 (by decide) ?_
    refine lv_idiv hx hb d_MO_bufferOf_7 (by decide) ?_
    refine lv_goto (tgt := 12) hx hb d_MO_bufferOf_8 (by decide) ?_
    have hP9 := hP
    have hD9 := hD
    exact W.iret (v := a2 / 2) hx hb hr (fun t ht hW => ⟨⟨a2 / 2, th, rfl, h, by rw [ht]; exact hP9, va_K.moved hW.alike hK, hD9⟩, hS.F ht⟩) hS.2.2 d_MO_bufferOf_12

/-- what OrderMachinesModel.seen(II)I leaves -/
abbrev jQ_MO_seen (dC : Nat → ClassId) (dI : Nat → Nat → Nat) (cI cJ cZ cQ : ClassId) (A : Nat → Prop) (a_mo a_gmemory a_gsize a_gplace a_gvalue b_actions b_what b_where b_number b_done b_register b_known b_tooMany b_states b_stuck b_outcomes b_front b_behind b_from b_step b_depth b_ends b_endOutcome b_cuts b_soonest b_chain b_next b_row : Nat) (Post : Int32 → Int32 → (Nat → Int32) → (Nat → Int32) → (Nat → Int32) → (Nat → Int32) → Prop) : Array Value → State → Outcome → State → Prop := va_Qi (fun (r : Int32) (u : Int32 × (Nat → Int32) × (Nat → Int32) × (Nat → Int32) × (Nat → Int32)) => Post r u.1 u.2.1 u.2.2.1 u.2.2.2.1 u.2.2.2.2) (fun (u : Int32 × (Nat → Int32) × (Nat → Int32) × (Nat → Int32) × (Nat → Int32)) (t : State) => match u with
  | (th, hmemory, hsize, hplace, hvalue) => jPost (dC, dI) (jT cI cJ cZ cQ) A [(a_mo, .inr (6, [.int th, .ref b_actions, .ref b_what, .ref b_where, .ref b_number, .ref b_done, .ref b_register, .ref a_gmemory, .ref a_gsize, .ref a_gplace, .ref a_gvalue, .ref b_known, .ref b_tooMany, .ref b_states, .ref b_stuck, .ref b_outcomes, .ref b_front, .ref b_behind, .ref b_from, .ref b_step, .ref b_depth, .ref b_ends, .ref b_endOutcome, .ref b_cuts, .ref b_soonest, .ref b_chain, .ref b_next, .ref b_row])), (a_gmemory, .inl (cI, 4, .inl hmemory)), (a_gsize, .inl (cI, 4, .inl hsize)), (a_gplace, .inl (cI, 12, .inl hplace)), (a_gvalue, .inl (cI, 12, .inl hvalue))] t) A
def wp_MO_seen_51 (Post : Int32 → Int32 → (Nat → Int32) → (Nat → Int32) → (Nat → Int32) → (Nat → Int32) → Prop) (K10 : Int32 → (Nat → Int32) → (Nat → Int32) → (Nat → Int32) → (Nat → Int32) → Int32 → Int32 → Int32 → Int32 → Prop) (th : Int32) (hmemory hsize hplace hvalue : Nat → Int32) (L1 L2 L4 S0 : Int32) : Prop :=
    ∀ x2 : Int32, x2 = L4 + 1 → K10 th hmemory hsize hplace hvalue L1 L2 S0 x2
def wp_MO_seen_10 (Post : Int32 → Int32 → (Nat → Int32) → (Nat → Int32) → (Nat → Int32) → (Nat → Int32) → Prop)  : Nat → Int32 → (Nat → Int32) → (Nat → Int32) → (Nat → Int32) → (Nat → Int32) → Int32 → Int32 → Int32 → Int32 → Prop
  | 0, _, _, _, _, _, _, _, _, _ => False
  | n_10 + 1, th, hmemory, hsize, hplace, hvalue, L1, L2, L3, L4 =>
    vp_in L1 4 ∧ (((hsize L1.toNatClampNeg) ≤ L4 → Post L3 th hmemory hsize hplace hvalue) ∧
    (¬ (hsize L1.toNatClampNeg) ≤ L4 → vp_in ((3 * L1) + L4) 12 ∧ ((¬ (hplace ((3 * L1) + L4).toNatClampNeg) = L2 → wp_MO_seen_51 Post (fun (th : Int32) (hmemory : Nat → Int32) (hsize : Nat → Int32) (hplace : Nat → Int32) (hvalue : Nat → Int32) (L1 : Int32) (L2 : Int32) (L3 : Int32) (L4 : Int32) => wp_MO_seen_10 Post n_10 th hmemory hsize hplace hvalue L1 L2 L3 L4) th hmemory hsize hplace hvalue L1 L2 L4 L3) ∧
      ((hplace ((3 * L1) + L4).toNatClampNeg) = L2 → vp_in ((3 * L1) + L4) 12 ∧ wp_MO_seen_51 Post (fun (th : Int32) (hmemory : Nat → Int32) (hsize : Nat → Int32) (hplace : Nat → Int32) (hvalue : Nat → Int32) (L1 : Int32) (L2 : Int32) (L3 : Int32) (L4 : Int32) => wp_MO_seen_10 Post n_10 th hmemory hsize hplace hvalue L1 L2 L3 L4) th hmemory hsize hplace hvalue L1 L2 L4 (hvalue ((3 * L1) + L4).toNatClampNeg)))))
/-- OrderMachinesModel.seen(II)I -/
def wp_MO_seen (Post : Int32 → Int32 → (Nat → Int32) → (Nat → Int32) → (Nat → Int32) → (Nat → Int32) → Prop) (th : Int32) (hmemory hsize hplace hvalue : Nat → Int32) (a1 a2 : Int32) : Prop :=
  vp_in a2 4 ∧ ∀ x1 : Int32, x1 = hmemory a2.toNatClampNeg → (∃ n_10 : Nat, wp_MO_seen_10 Post n_10 th hmemory hsize hplace hvalue a1 a2 x1 0)
set_option maxHeartbeats 4000000 in
set_option maxRecDepth 100000 in
theorem l_MO_seen_51 {p : Program} {l : Launch} {e : Env} {s : State} {m : MethodId} {args : Array Value} {below : List Frame} {meth : Method} {c : Code} {dC : Nat → ClassId} {dI : Nat → Nat → Nat} {cI cJ cZ cQ : ClassId} {a_mo a_gmemory a_gsize a_gplace a_gvalue b_actions b_what b_where b_number b_done b_register b_known b_tooMany b_states b_stuck b_outcomes b_front b_behind b_from b_step b_depth b_ends b_endOutcome b_cuts b_soonest b_chain b_next b_row : Nat} {A : Nat → Prop} {Post : Int32 → Int32 → (Nat → Int32) → (Nat → Int32) → (Nat → Int32) → (Nat → Int32) → Prop} (C0 : jC p l s m args meth c b_MO_seen (some .int) 5 R_MO (dC, dI) cI cJ cZ cQ A) (K10 : Int32 → (Nat → Int32) → (Nat → Int32) → (Nat → Int32) → (Nat → Int32) → Int32 → Int32 → Int32 → Int32 → Prop) (hK10 : ∀ (th : Int32) (hmemory hsize hplace hvalue : Nat → Int32) (L1 L2 L3 L4 : Int32), ∀ (H : Heap) (locs : List Loc) (ls : Array Slot), K10 th hmemory hsize hplace hvalue L1 L2 L3 L4 → va_P (dC, dI) vwCl [(a_mo, .inr (6, [.int th, .ref b_actions, .ref b_what, .ref b_where, .ref b_number, .ref b_done, .ref b_register, .ref a_gmemory, .ref a_gsize, .ref a_gplace, .ref a_gvalue, .ref b_known, .ref b_tooMany, .ref b_states, .ref b_stuck, .ref b_outcomes, .ref b_front, .ref b_behind, .ref b_from, .ref b_step, .ref b_depth, .ref b_ends, .ref b_endOutcome, .ref b_cuts, .ref b_soonest, .ref b_chain, .ref b_next, .ref b_row])), (a_gmemory, .inl (cI, 4, .inl hmemory)), (a_gsize, .inl (cI, 4, .inl hsize)), (a_gplace, .inl (cI, 12, .inl hplace)), (a_gvalue, .inl (cI, 12, .inl hvalue))] H → va_D A [(a_mo, .inr (6, [.int th, .ref b_actions, .ref b_what, .ref b_where, .ref b_number, .ref b_done, .ref b_register, .ref a_gmemory, .ref a_gsize, .ref a_gplace, .ref a_gvalue, .ref b_known, .ref b_tooMany, .ref b_states, .ref b_stuck, .ref b_outcomes, .ref b_front, .ref b_behind, .ref b_from, .ref b_step, .ref b_depth, .ref b_ends, .ref b_endOutcome, .ref b_cuts, .ref b_soonest, .ref b_chain, .ref b_next, .ref b_row])), (a_gmemory, .inl (cI, 4, .inl hmemory)), (a_gsize, .inl (cI, 4, .inl hsize)), (a_gplace, .inl (cI, 12, .inl hplace)), (a_gvalue, .inl (cI, 12, .inl hvalue))] → va_S A s.heap H locs → lv_has ls 5 [(0, .ref a_mo), (1, .int L1), (2, .int L2), (3, .int L3), (4, .int L4)] → W p l e ({ frames := 10, cells := 0, slots := 0, locals := 150 } : Room) s m args below meth c H locs 0 0 (MQ below (jQ_MO_seen dC dI cI cJ cZ cQ A a_mo a_gmemory a_gsize a_gplace a_gvalue b_actions b_what b_where b_number b_done b_register b_known b_tooMany b_states b_stuck b_outcomes b_front b_behind b_from b_step b_depth b_ends b_endOutcome b_cuts b_soonest b_chain b_next b_row Post) args s 0 0 A) (F0 m 10 ls [])) : ∀ (th : Int32) (hmemory hsize hplace hvalue : Nat → Int32) (L1 L2 L4 S0 : Int32), ∀ (H : Heap) (locs : List Loc) (ls : Array Slot), wp_MO_seen_51 Post K10 th hmemory hsize hplace hvalue L1 L2 L4 S0 → va_P (dC, dI) vwCl [(a_mo, .inr (6, [.int th, .ref b_actions, .ref b_what, .ref b_where, .ref b_number, .ref b_done, .ref b_register, .ref a_gmemory, .ref a_gsize, .ref a_gplace, .ref a_gvalue, .ref b_known, .ref b_tooMany, .ref b_states, .ref b_stuck, .ref b_outcomes, .ref b_front, .ref b_behind, .ref b_from, .ref b_step, .ref b_depth, .ref b_ends, .ref b_endOutcome, .ref b_cuts, .ref b_soonest, .ref b_chain, .ref b_next, .ref b_row])), (a_gmemory, .inl (cI, 4, .inl hmemory)), (a_gsize, .inl (cI, 4, .inl hsize)), (a_gplace, .inl (cI, 12, .inl hplace)), (a_gvalue, .inl (cI, 12, .inl hvalue))] H → va_D A [(a_mo, .inr (6, [.int th, .ref b_actions, .ref b_what, .ref b_where, .ref b_number, .ref b_done, .ref b_register, .ref a_gmemory, .ref a_gsize, .ref a_gplace, .ref a_gvalue, .ref b_known, .ref b_tooMany, .ref b_states, .ref b_stuck, .ref b_outcomes, .ref b_front, .ref b_behind, .ref b_from, .ref b_step, .ref b_depth, .ref b_ends, .ref b_endOutcome, .ref b_cuts, .ref b_soonest, .ref b_chain, .ref b_next, .ref b_row])), (a_gmemory, .inl (cI, 4, .inl hmemory)), (a_gsize, .inl (cI, 4, .inl hsize)), (a_gplace, .inl (cI, 12, .inl hplace)), (a_gvalue, .inl (cI, 12, .inl hvalue))] → va_S A s.heap H locs → lv_has ls 5 [(0, .ref a_mo), (1, .int L1), (2, .int L2), (4, .int L4)] → W p l e ({ frames := 10, cells := 0, slots := 0, locals := 150 } : Room) s m args below meth c H locs 0 0 (MQ below (jQ_MO_seen dC dI cI cJ cZ cQ A a_mo a_gmemory a_gsize a_gplace a_gvalue b_actions b_what b_where b_number b_done b_register b_known b_tooMany b_states b_stuck b_outcomes b_front b_behind b_from b_step b_depth b_ends b_endOutcome b_cuts b_soonest b_chain b_next b_row Post) args s 0 0 A) (F0 m 51 ls [.int S0]) := by
  obtain ⟨hx, hb, hr, hml, hown, hts, hlocks, hK, hZ, hA, hst⟩ := id C0
  intro th hmemory hsize hplace hvalue L1 L2 L4 S0 H locs ls h hP hD hS hl
  rw [wp_MO_seen_51] at h
  refine lv_istore_n (lv' := [(3, .int S0), (0, .ref a_mo), (1, .int L1), (2, .int L2), (4, .int L4)]) hx hb d_MO_seen_51 rfl hl (by decide) rfl (fun ls hl => ?_)
  obtain ⟨x2, ex2⟩ : ∃ y : Int32, y = L4 + 1 := ⟨_, rfl⟩
  have h := h x2 ex2
  refine lv_iinc (v := x2) (lv' := [(4, .int x2), (3, .int S0), (0, .ref a_mo), (1, .int L1), (2, .int L2)]) hx hb d_MO_seen_52 hl (k := 4) rfl (by rw [ex2]; rfl) (by decide) rfl (fun ls hl => ?_)
  refine lv_goto (tgt := 10) hx hb d_MO_seen_55 (by decide) ?_
  exact hK10 th hmemory hsize hplace hvalue L1 L2 S0 x2  H locs ls h hP hD hS (lv_sub hl [2, 3, 4, 1, 0] rfl)
set_option maxHeartbeats 4000000 in
set_option maxRecDepth 100000 in
theorem l_MO_seen_10 {p : Program} {l : Launch} {e : Env} {s : State} {m : MethodId} {args : Array Value} {below : List Frame} {meth : Method} {c : Code} {dC : Nat → ClassId} {dI : Nat → Nat → Nat} {cI cJ cZ cQ : ClassId} {a_mo a_gmemory a_gsize a_gplace a_gvalue b_actions b_what b_where b_number b_done b_register b_known b_tooMany b_states b_stuck b_outcomes b_front b_behind b_from b_step b_depth b_ends b_endOutcome b_cuts b_soonest b_chain b_next b_row : Nat} {A : Nat → Prop} {Post : Int32 → Int32 → (Nat → Int32) → (Nat → Int32) → (Nat → Int32) → (Nat → Int32) → Prop} (C0 : jC p l s m args meth c b_MO_seen (some .int) 5 R_MO (dC, dI) cI cJ cZ cQ A)  : ∀ n9 : Nat, ∀ (th : Int32) (hmemory hsize hplace hvalue : Nat → Int32) (L1 L2 L3 L4 : Int32), ∀ (H : Heap) (locs : List Loc) (ls : Array Slot), wp_MO_seen_10 Post  n9 th hmemory hsize hplace hvalue L1 L2 L3 L4 → va_P (dC, dI) vwCl [(a_mo, .inr (6, [.int th, .ref b_actions, .ref b_what, .ref b_where, .ref b_number, .ref b_done, .ref b_register, .ref a_gmemory, .ref a_gsize, .ref a_gplace, .ref a_gvalue, .ref b_known, .ref b_tooMany, .ref b_states, .ref b_stuck, .ref b_outcomes, .ref b_front, .ref b_behind, .ref b_from, .ref b_step, .ref b_depth, .ref b_ends, .ref b_endOutcome, .ref b_cuts, .ref b_soonest, .ref b_chain, .ref b_next, .ref b_row])), (a_gmemory, .inl (cI, 4, .inl hmemory)), (a_gsize, .inl (cI, 4, .inl hsize)), (a_gplace, .inl (cI, 12, .inl hplace)), (a_gvalue, .inl (cI, 12, .inl hvalue))] H → va_D A [(a_mo, .inr (6, [.int th, .ref b_actions, .ref b_what, .ref b_where, .ref b_number, .ref b_done, .ref b_register, .ref a_gmemory, .ref a_gsize, .ref a_gplace, .ref a_gvalue, .ref b_known, .ref b_tooMany, .ref b_states, .ref b_stuck, .ref b_outcomes, .ref b_front, .ref b_behind, .ref b_from, .ref b_step, .ref b_depth, .ref b_ends, .ref b_endOutcome, .ref b_cuts, .ref b_soonest, .ref b_chain, .ref b_next, .ref b_row])), (a_gmemory, .inl (cI, 4, .inl hmemory)), (a_gsize, .inl (cI, 4, .inl hsize)), (a_gplace, .inl (cI, 12, .inl hplace)), (a_gvalue, .inl (cI, 12, .inl hvalue))] → va_S A s.heap H locs → lv_has ls 5 [(0, .ref a_mo), (1, .int L1), (2, .int L2), (3, .int L3), (4, .int L4)] → W p l e ({ frames := 10, cells := 0, slots := 0, locals := 150 } : Room) s m args below meth c H locs 0 0 (MQ below (jQ_MO_seen dC dI cI cJ cZ cQ A a_mo a_gmemory a_gsize a_gplace a_gvalue b_actions b_what b_where b_number b_done b_register b_known b_tooMany b_states b_stuck b_outcomes b_front b_behind b_from b_step b_depth b_ends b_endOutcome b_cuts b_soonest b_chain b_next b_row Post) args s 0 0 A) (F0 m 10 ls []) := by
  obtain ⟨hx, hb, hr, hml, hown, hts, hlocks, hK, hZ, hA, hst⟩ := id C0
  intro n9
  induction n9 with
  | zero =>
    intro th hmemory hsize hplace hvalue L1 L2 L3 L4 H locs ls h hP hD hS hl
    exact False.elim h
  | succ n_10 ih =>
    intro th hmemory hsize hplace hvalue L1 L2 L3 L4 H locs ls h hP hD hS hl
    rw [wp_MO_seen_10] at h
    refine lv_iload hx hb d_MO_seen_10 (lv_at hl 4 rfl) ?_
    refine lv_aload_n hx hb d_MO_seen_12 rfl (lv_at hl 0 rfl) ?_
    refine va_get (D := (dC, dI)) (ci := 6) (v := .ref a_gsize) (C := R_MO) (T := T_MO) (N := 28) hx hb hts in_MO hown hK hP 0 rfl rfl 8 (by decide) (hts _ mw_871) (fun _ h9 => h9) rfl d_MO_seen_13 ?_
    refine lv_iload_n hx hb d_MO_seen_16 rfl (lv_at hl 1 rfl) ?_
    refine va_iald hx hb hK hP 2 0 rfl rfl h.1 d_MO_seen_17 ?_
    have h := h.2
    refine lv_icmp_ge (tgt := 58) hx hb d_MO_seen_18 (by decide) (fun c18 => ?_) (fun c18 => ?_)
    · have h := h.1 c18
      refine lv_iload_n hx hb d_MO_seen_58 rfl (lv_at hl 3 rfl) ?_
      have hP9 := hP
      have hD9 := hD
      exact W.iret (v := L3) hx hb hr (fun t ht hW => ⟨⟨L3, (th, hmemory, hsize, hplace, hvalue), rfl, h, by rw [ht]; exact hP9, va_K.moved hW.alike hK, hD9⟩, hS.F ht⟩) hS.2.2 d_MO_seen_59
    · have h := h.2 c18
      refine lv_aload_n hx hb d_MO_seen_21 rfl (lv_at hl 0 rfl) ?_
      refine va_get (D := (dC, dI)) (ci := 6) (v := .ref a_gplace) (C := R_MO) (T := T_MO) (N := 28) hx hb hts in_MO hown hK hP 0 rfl rfl 9 (by decide) (hts _ mw_872) (fun _ h9 => h9) rfl d_MO_seen_22 ?_
      refine lv_iconst (v := 3) hx hb d_MO_seen_25 (by decide) ?_
      refine lv_iload_n hx hb d_MO_seen_26 rfl (lv_at hl 1 rfl) ?_
      refine lv_imul hx hb d_MO_seen_27 ?_
      refine lv_iload hx hb d_MO_seen_28 (lv_at hl 4 rfl) ?_
      refine lv_iadd hx hb d_MO_seen_30 ?_
      refine va_iald hx hb hK hP 3 0 rfl rfl h.1 d_MO_seen_31 ?_
      have h := h.2
      refine lv_iload_n hx hb d_MO_seen_32 rfl (lv_at hl 2 rfl) ?_
      refine lv_icmp_ne (tgt := 50) hx hb d_MO_seen_33 (by decide) (fun c33 => ?_) (fun c33 => ?_)
      · have h := h.1 c33
        refine lv_iload_n hx hb d_MO_seen_50 rfl (lv_at hl 3 rfl) ?_
        exact l_MO_seen_51 C0 (fun (th : Int32) (hmemory : Nat → Int32) (hsize : Nat → Int32) (hplace : Nat → Int32) (hvalue : Nat → Int32) (L1 : Int32) (L2 : Int32) (L3 : Int32) (L4 : Int32) => wp_MO_seen_10 Post n_10 th hmemory hsize hplace hvalue L1 L2 L3 L4) ih th hmemory hsize hplace hvalue L1 L2 L4 L3  H locs ls h hP hD hS (lv_sub hl [0, 1, 2, 4] rfl)
      · have h := h.2 c33
        refine lv_aload_n hx hb d_MO_seen_36 rfl (lv_at hl 0 rfl) ?_
        refine va_get (D := (dC, dI)) (ci := 6) (v := .ref a_gvalue) (C := R_MO) (T := T_MO) (N := 28) hx hb hts in_MO hown hK hP 0 rfl rfl 10 (by decide) (hts _ mw_873) (fun _ h9 => h9) rfl d_MO_seen_37 ?_
        refine lv_iconst (v := 3) hx hb d_MO_seen_40 (by decide) ?_
        refine lv_iload_n hx hb d_MO_seen_41 rfl (lv_at hl 1 rfl) ?_
        refine lv_imul hx hb d_MO_seen_42 ?_
        refine lv_iload hx hb d_MO_seen_43 (lv_at hl 4 rfl) ?_
        refine lv_iadd hx hb d_MO_seen_45 ?_
        refine va_iald hx hb hK hP 4 0 rfl rfl h.1 d_MO_seen_46 ?_
        have h := h.2
        refine lv_goto (tgt := 51) hx hb d_MO_seen_47 (by decide) ?_
        exact l_MO_seen_51 C0 (fun (th : Int32) (hmemory : Nat → Int32) (hsize : Nat → Int32) (hplace : Nat → Int32) (hvalue : Nat → Int32) (L1 : Int32) (L2 : Int32) (L3 : Int32) (L4 : Int32) => wp_MO_seen_10 Post n_10 th hmemory hsize hplace hvalue L1 L2 L3 L4) ih th hmemory hsize hplace hvalue L1 L2 L4 (hvalue ((3 * L1) + L4).toNatClampNeg)  H locs ls h hP hD hS (lv_sub hl [0, 1, 2, 4] rfl)
set_option maxHeartbeats 4000000 in
set_option maxRecDepth 100000 in
theorem c_MO_seen (l : Launch) (dC : Nat → ClassId) (dI : Nat → Nat → Nat) (cI cJ cZ cQ : ClassId) (a_mo a_gmemory a_gsize a_gplace a_gvalue b_actions b_what b_where b_number b_done b_register b_known b_tooMany b_states b_stuck b_outcomes b_front b_behind b_from b_step b_depth b_ends b_endOutcome b_cuts b_soonest b_chain b_next b_row : Nat) (sz : Nat) (th : Int32) (hmemory hsize hplace hvalue : Nat → Int32) (a1 a2 : Int32) (Post : Int32 → Int32 → (Nat → Int32) → (Nat → Int32) → (Nat → Int32) → (Nat → Int32) → Prop) (h : wp_MO_seen Post th hmemory hsize hplace hvalue a1 a2) : Met l y_MO_seen (.code y_MO_seen b_MO_seen 5 (some .int) :: jW) ({ frames := 10, cells := 0, slots := 0, locals := 150 } : Room) (jPre l (dC, dI) cI cJ cZ cQ [(a_mo, .inr (6, [.int th, .ref b_actions, .ref b_what, .ref b_where, .ref b_number, .ref b_done, .ref b_register, .ref a_gmemory, .ref a_gsize, .ref a_gplace, .ref a_gvalue, .ref b_known, .ref b_tooMany, .ref b_states, .ref b_stuck, .ref b_outcomes, .ref b_front, .ref b_behind, .ref b_from, .ref b_step, .ref b_depth, .ref b_ends, .ref b_endOutcome, .ref b_cuts, .ref b_soonest, .ref b_chain, .ref b_next, .ref b_row])), (a_gmemory, .inl (cI, 4, .inl hmemory)), (a_gsize, .inl (cI, 4, .inl hsize)), (a_gplace, .inl (cI, 12, .inl hplace)), (a_gvalue, .inl (cI, 12, .inl hvalue))] sz [.ref a_mo, .int a1, .int a2]) (jQ_MO_seen dC dI cI cJ cZ cQ (va_A [(a_mo, .inr (6, [.int th, .ref b_actions, .ref b_what, .ref b_where, .ref b_number, .ref b_done, .ref b_register, .ref a_gmemory, .ref a_gsize, .ref a_gplace, .ref a_gvalue, .ref b_known, .ref b_tooMany, .ref b_states, .ref b_stuck, .ref b_outcomes, .ref b_front, .ref b_behind, .ref b_from, .ref b_step, .ref b_depth, .ref b_ends, .ref b_endOutcome, .ref b_cuts, .ref b_soonest, .ref b_chain, .ref b_next, .ref b_row])), (a_gmemory, .inl (cI, 4, .inl hmemory)), (a_gsize, .inl (cI, 4, .inl hsize)), (a_gplace, .inl (cI, 12, .inl hplace)), (a_gvalue, .inl (cI, 12, .inl hvalue))] sz) a_mo a_gmemory a_gsize a_gplace a_gvalue b_actions b_what b_where b_number b_done b_register b_known b_tooMany b_states b_stuck b_outcomes b_front b_behind b_from b_step b_depth b_ends b_endOutcome b_cuts b_soonest b_chain b_next b_row Post) 0 0 (va_A [(a_mo, .inr (6, [.int th, .ref b_actions, .ref b_what, .ref b_where, .ref b_number, .ref b_done, .ref b_register, .ref a_gmemory, .ref a_gsize, .ref a_gplace, .ref a_gvalue, .ref b_known, .ref b_tooMany, .ref b_states, .ref b_stuck, .ref b_outcomes, .ref b_front, .ref b_behind, .ref b_from, .ref b_step, .ref b_depth, .ref b_ends, .ref b_endOutcome, .ref b_cuts, .ref b_soonest, .ref b_chain, .ref b_next, .ref b_row])), (a_gmemory, .inl (cI, 4, .inl hmemory)), (a_gsize, .inl (cI, 4, .inl hsize)), (a_gplace, .inl (cI, 12, .inl hplace)), (a_gvalue, .inl (cI, 12, .inl hvalue))] sz) := by
  refine Met.ofW (cc := b_MO_seen) (maxL := 5) (ret := (some .int)) (by decide) rfl ?_
  intro p e s m args below meth c s₁ B hml hv
  obtain ⟨rfl, hsz, hP, hK, hD0, hZ, hst⟩ := hv
  subst hsz
  have hD := hD0.self (sz := s.heap.size)
  generalize hAe : va_A [(a_mo, .inr (6, [.int th, .ref b_actions, .ref b_what, .ref b_where, .ref b_number, .ref b_done, .ref b_register, .ref a_gmemory, .ref a_gsize, .ref a_gplace, .ref a_gvalue, .ref b_known, .ref b_tooMany, .ref b_states, .ref b_stuck, .ref b_outcomes, .ref b_front, .ref b_behind, .ref b_from, .ref b_step, .ref b_depth, .ref b_ends, .ref b_endOutcome, .ref b_cuts, .ref b_soonest, .ref b_chain, .ref b_next, .ref b_row])), (a_gmemory, .inl (cI, 4, .inl hmemory)), (a_gsize, .inl (cI, 4, .inl hsize)), (a_gplace, .inl (cI, 12, .inl hplace)), (a_gvalue, .inl (cI, 12, .inl hvalue))] s.heap.size = A at hD hZ ⊢
  have hA : ∀ q : Nat, s.heap.size ≤ q → A q := fun q h => by rw [← hAe]; exact Or.inr h
  have C0 : jC p l s m ([.ref a_mo, .int a1, .int a2] : List Value).toArray meth c b_MO_seen (some .int) 5 R_MO (dC, dI) cI cJ cZ cQ A := ⟨B.exec, B.bytes, B.returns, hml, findClass_of_methodNamed B.named, fun w hw => atoms_spec (ws := (.code y_MO_seen b_MO_seen 5 (some .int) :: jW)) B.pre w (List.mem_cons_of_mem _ hw), B.notSynchronized, hK, hZ, hA, hst⟩
  obtain ⟨hx, hb, hr, hml, hown, hts, hlocks, hK, hZ, hA, hst⟩ := id C0
  have hS : va_S A s.heap s.heap [] := va_S.rf
  have hl := lv_entry ([.ref a_mo, .int a1, .int a2]) (n := 5) (Nat.le_of_ble_eq_true rfl)
  rw [lg_entry_eq]
  generalize (lg_sl ([.ref a_mo, .int a1, .int a2]) ++ List.replicate (5 - (lg_sl ([.ref a_mo, .int a1, .int a2])).length) Slot.unset).toArray = ls at hl ⊢
  have hl : lv_has ls 5 [(0, .ref a_mo), (1, .int a1), (2, .int a2)] := hl
  obtain ⟨H, hH⟩ : ∃ H : Heap, H = s.heap := ⟨_, rfl⟩
  obtain ⟨locs, hlc⟩ : ∃ L : List Loc, L = [] := ⟨_, rfl⟩
  have hP : va_P (dC, dI) vwCl [(a_mo, .inr (6, [.int th, .ref b_actions, .ref b_what, .ref b_where, .ref b_number, .ref b_done, .ref b_register, .ref a_gmemory, .ref a_gsize, .ref a_gplace, .ref a_gvalue, .ref b_known, .ref b_tooMany, .ref b_states, .ref b_stuck, .ref b_outcomes, .ref b_front, .ref b_behind, .ref b_from, .ref b_step, .ref b_depth, .ref b_ends, .ref b_endOutcome, .ref b_cuts, .ref b_soonest, .ref b_chain, .ref b_next, .ref b_row])), (a_gmemory, .inl (cI, 4, .inl hmemory)), (a_gsize, .inl (cI, 4, .inl hsize)), (a_gplace, .inl (cI, 12, .inl hplace)), (a_gvalue, .inl (cI, 12, .inl hvalue))] H := by rw [hH]; exact hP
  have hS : va_S A s.heap H locs := by rw [hH, hlc]; exact hS
  suffices hW9 : W p l e ({ frames := 10, cells := 0, slots := 0, locals := 150 } : Room) s m ([.ref a_mo, .int a1, .int a2] : List Value).toArray below meth c H locs 0 0 (MQ below (jQ_MO_seen dC dI cI cJ cZ cQ A a_mo a_gmemory a_gsize a_gplace a_gvalue b_actions b_what b_where b_number b_done b_register b_known b_tooMany b_states b_stuck b_outcomes b_front b_behind b_from b_step b_depth b_ends b_endOutcome b_cuts b_soonest b_chain b_next b_row Post) ([.ref a_mo, .int a1, .int a2] : List Value).toArray s 0 0 A) (F0 m 0 ls []) by rw [hH, hlc] at hW9; exact hW9
  clear hH hlc
  rw [wp_MO_seen] at h
  refine lv_aload_n hx hb d_MO_seen_0 rfl (lv_at hl 0 rfl) ?_
  refine va_get (D := (dC, dI)) (ci := 6) (v := .ref a_gmemory) (C := R_MO) (T := T_MO) (N := 28) hx hb hts in_MO hown hK hP 0 rfl rfl 7 (by decide) (hts _ mw_870) (fun _ h9 => h9) rfl d_MO_seen_1 ?_
  refine lv_iload_n hx hb d_MO_seen_4 rfl (lv_at hl 2 rfl) ?_
  refine va_iald hx hb hK hP 1 0 rfl rfl h.1 d_MO_seen_5 ?_
  have h := h.2
  refine lv_topi (fun x1 ex1 => ?_)
  have h := h x1 ex1
  refine lv_istore_n (lv' := [(3, .int x1), (0, .ref a_mo), (1, .int a1), (2, .int a2)]) hx hb d_MO_seen_6 rfl hl (by decide) rfl (fun ls hl => ?_)
  refine lv_iconst (v := 0) hx hb d_MO_seen_7 (by decide) ?_
  refine lv_istore (lv' := [(4, .int 0), (3, .int x1), (0, .ref a_mo), (1, .int a1), (2, .int a2)]) hx hb d_MO_seen_8 hl (by decide) rfl (fun ls hl => ?_)
  obtain ⟨n_10, h⟩ := h
  exact l_MO_seen_10 C0  n_10 th hmemory hsize hplace hvalue a1 a2 x1 0  H locs ls h hP hD hS (lv_sub hl [2, 3, 4, 1, 0] rfl)

/-- what OrderMachinesModel.act(II)Z leaves -/
abbrev jQ_MO_act (dC : Nat → ClassId) (dI : Nat → Nat → Nat) (cI cJ cZ cQ : ClassId) (A : Nat → Prop) (a_mo a_gactions a_gwhat a_gwhere a_gnumber a_gdone a_gregister a_gmemory a_gsize a_gplace a_gvalue b_known b_tooMany b_states b_stuck b_outcomes b_front b_behind b_from b_step b_depth b_ends b_endOutcome b_cuts b_soonest b_chain b_next b_row : Nat) (Post : Int32 → Int32 → (Nat → Int32) → (Nat → Int32) → (Nat → Int32) → (Nat → Int32) → (Nat → Int32) → (Nat → Int32) → (Nat → Int32) → (Nat → Int32) → (Nat → Int32) → (Nat → Int32) → Prop) : Array Value → State → Outcome → State → Prop := va_Qi (fun (r : Int32) (u : Int32 × (Nat → Int32) × (Nat → Int32) × (Nat → Int32) × (Nat → Int32) × (Nat → Int32) × (Nat → Int32) × (Nat → Int32) × (Nat → Int32) × (Nat → Int32) × (Nat → Int32)) => Post r u.1 u.2.1 u.2.2.1 u.2.2.2.1 u.2.2.2.2.1 u.2.2.2.2.2.1 u.2.2.2.2.2.2.1 u.2.2.2.2.2.2.2.1 u.2.2.2.2.2.2.2.2.1 u.2.2.2.2.2.2.2.2.2.1 u.2.2.2.2.2.2.2.2.2.2) (fun (u : Int32 × (Nat → Int32) × (Nat → Int32) × (Nat → Int32) × (Nat → Int32) × (Nat → Int32) × (Nat → Int32) × (Nat → Int32) × (Nat → Int32) × (Nat → Int32) × (Nat → Int32)) (t : State) => match u with
  | (th, hactions, hwhat, hwhere, hnumber, hdone, hregister, hmemory, hsize, hplace, hvalue) => jPost (dC, dI) (jT cI cJ cZ cQ) A [(a_mo, .inr (6, [.int th, .ref a_gactions, .ref a_gwhat, .ref a_gwhere, .ref a_gnumber, .ref a_gdone, .ref a_gregister, .ref a_gmemory, .ref a_gsize, .ref a_gplace, .ref a_gvalue, .ref b_known, .ref b_tooMany, .ref b_states, .ref b_stuck, .ref b_outcomes, .ref b_front, .ref b_behind, .ref b_from, .ref b_step, .ref b_depth, .ref b_ends, .ref b_endOutcome, .ref b_cuts, .ref b_soonest, .ref b_chain, .ref b_next, .ref b_row])), (a_gactions, .inl (cI, 4, .inl hactions)), (a_gwhat, .inl (cI, 20, .inl hwhat)), (a_gwhere, .inl (cI, 20, .inl hwhere)), (a_gnumber, .inl (cI, 20, .inl hnumber)), (a_gdone, .inl (cI, 4, .inl hdone)), (a_gregister, .inl (cI, 16, .inl hregister)), (a_gmemory, .inl (cI, 4, .inl hmemory)), (a_gsize, .inl (cI, 4, .inl hsize)), (a_gplace, .inl (cI, 12, .inl hplace)), (a_gvalue, .inl (cI, 12, .inl hvalue))] t) A
def wp_MO_act_222 (Post : Int32 → Int32 → (Nat → Int32) → (Nat → Int32) → (Nat → Int32) → (Nat → Int32) → (Nat → Int32) → (Nat → Int32) → (Nat → Int32) → (Nat → Int32) → (Nat → Int32) → (Nat → Int32) → Prop)  (th : Int32) (hactions hwhat hwhere hnumber hdone hregister hmemory hsize hplace hvalue : Nat → Int32) (L2 : Int32) : Prop :=
    vp_in L2 4 ∧ vp_in L2 4 ∧ ∀ f14 : Nat → Int32, f14 = upd hdone L2.toNatClampNeg ((hdone L2.toNatClampNeg) + 1) → Post 1 th hactions hwhat hwhere hnumber f14 hregister hmemory hsize hplace hvalue
def wp_MO_act_195 (Post : Int32 → Int32 → (Nat → Int32) → (Nat → Int32) → (Nat → Int32) → (Nat → Int32) → (Nat → Int32) → (Nat → Int32) → (Nat → Int32) → (Nat → Int32) → (Nat → Int32) → (Nat → Int32) → Prop)  (th : Int32) (hactions hwhat hwhere hnumber hdone hregister hmemory hsize hplace hvalue : Nat → Int32) (L2 L3 : Int32) : Prop :=
    vp_in L3 20 ∧ (((hwhat L3.toNatClampNeg) = 2 → wp_MO_act_222 Post th hactions hwhat hwhere hnumber hdone hregister hmemory hsize hplace hvalue L2) ∧
  (¬ (hwhat L3.toNatClampNeg) = 2 → vp_in L3 20 ∧ vp_in L3 20 ∧ vp_in (hwhere L3.toNatClampNeg) 4 ∧ ∀ f15 : Nat → Int32, f15 = upd hmemory (hwhere L3.toNatClampNeg).toNatClampNeg (hnumber L3.toNatClampNeg) → wp_MO_act_222 Post th hactions hwhat hwhere hnumber hdone hregister f15 hsize hplace hvalue L2))
def wp_MO_act_179 (Post : Int32 → Int32 → (Nat → Int32) → (Nat → Int32) → (Nat → Int32) → (Nat → Int32) → (Nat → Int32) → (Nat → Int32) → (Nat → Int32) → (Nat → Int32) → (Nat → Int32) → (Nat → Int32) → Prop)  (th : Int32) (hactions hwhat hwhere hnumber hdone hregister hmemory hsize hplace hvalue : Nat → Int32) (L2 L3 L5 : Int32) : Prop :=
    vp_in L3 20 ∧ (((hwhat L3.toNatClampNeg) = 0 → wp_MO_act_195 Post th hactions hwhat hwhere hnumber hdone hregister hmemory hsize hplace hvalue L2 L3) ∧
  (¬ (hwhat L3.toNatClampNeg) = 0 → ((¬ L5 = 0 → wp_MO_act_195 Post th hactions hwhat hwhere hnumber hdone hregister hmemory hsize hplace hvalue L2 L3) ∧
    (L5 = 0 → Post 0 th hactions hwhat hwhere hnumber hdone hregister hmemory hsize hplace hvalue))))
def wp_MO_act_51 (Post : Int32 → Int32 → (Nat → Int32) → (Nat → Int32) → (Nat → Int32) → (Nat → Int32) → (Nat → Int32) → (Nat → Int32) → (Nat → Int32) → (Nat → Int32) → (Nat → Int32) → (Nat → Int32) → Prop)  (th : Int32) (hactions hwhat hwhere hnumber hdone hregister hmemory hsize hplace hvalue : Nat → Int32) (L1 L2 L3 L4 S0 : Int32) : Prop :=
    vp_in L3 20 ∧ ((¬ (hwhat L3.toNatClampNeg) = 1 → vp_in L3 20 ∧ ((¬ (hwhat L3.toNatClampNeg) = 0 → wp_MO_act_179 Post th hactions hwhat hwhere hnumber hdone hregister hmemory hsize hplace hvalue L2 L3 S0) ∧
    ((hwhat L3.toNatClampNeg) = 0 → ((L1 = 0 → wp_MO_act_179 Post th hactions hwhat hwhere hnumber hdone hregister hmemory hsize hplace hvalue L2 L3 S0) ∧
      (¬ L1 = 0 → vp_in L4 4 ∧ ((¬ (hsize L4.toNatClampNeg) = 3 → vp_in L4 4 ∧ vp_in L3 20 ∧ vp_in ((3 * L4) + (hsize L4.toNatClampNeg)) 12 ∧ ∀ f4 : Nat → Int32, f4 = upd hplace ((3 * L4) + (hsize L4.toNatClampNeg)).toNatClampNeg (hwhere L3.toNatClampNeg) → vp_in L4 4 ∧ vp_in L3 20 ∧ vp_in ((3 * L4) + (hsize L4.toNatClampNeg)) 12 ∧ ∀ f5 : Nat → Int32, f5 = upd hvalue ((3 * L4) + (hsize L4.toNatClampNeg)).toNatClampNeg (hnumber L3.toNatClampNeg) → vp_in L4 4 ∧ vp_in L4 4 ∧ ∀ f6 : Nat → Int32, f6 = upd hsize L4.toNatClampNeg ((hsize L4.toNatClampNeg) + 1) → wp_MO_act_222 Post th hactions hwhat hwhere hnumber hdone hregister hmemory f6 f4 f5 L2) ∧
        ((hsize L4.toNatClampNeg) = 3 → Post 0 th hactions hwhat hwhere hnumber hdone hregister hmemory hsize hplace hvalue))))))) ∧
  ((hwhat L3.toNatClampNeg) = 1 → vp_in L3 20 ∧ vp_in L3 20 ∧ wp_MO_seen (fun (r7 : Int32) (u8 : Int32) (u9 : Nat → Int32) (u10 : Nat → Int32) (u11 : Nat → Int32) (u12 : Nat → Int32) => vp_in ((4 * L2) + (hnumber L3.toNatClampNeg)) 16 ∧ ∀ f13 : Nat → Int32, f13 = upd hregister ((4 * L2) + (hnumber L3.toNatClampNeg)).toNatClampNeg r7 → wp_MO_act_222 Post u8 hactions hwhat hwhere hnumber hdone f13 u9 u10 u11 u12 L2) th hmemory hsize hplace hvalue L4 (hwhere L3.toNatClampNeg)))
/-- OrderMachinesModel.act(II)Z -/
def wp_MO_act (Post : Int32 → Int32 → (Nat → Int32) → (Nat → Int32) → (Nat → Int32) → (Nat → Int32) → (Nat → Int32) → (Nat → Int32) → (Nat → Int32) → (Nat → Int32) → (Nat → Int32) → (Nat → Int32) → Prop) (th : Int32) (hactions hwhat hwhere hnumber hdone hregister hmemory hsize hplace hvalue : Nat → Int32) (a1 a2 : Int32) : Prop :=
  vp_in a2 4 ∧ vp_in a2 4 ∧ (((hdone a2.toNatClampNeg) < (hactions a2.toNatClampNeg) → vp_in a2 4 ∧ ∀ x1 : Int32, x1 = (5 * a2) + (hdone a2.toNatClampNeg) → wp_MO_bufferOf (fun (r2 : Int32) (u3 : Int32) => vp_in r2 4 ∧ ((¬ (hsize r2.toNatClampNeg) = 0 → wp_MO_act_51 Post u3 hactions hwhat hwhere hnumber hdone hregister hmemory hsize hplace hvalue a1 a2 x1 r2 0) ∧
    ((hsize r2.toNatClampNeg) = 0 → wp_MO_act_51 Post u3 hactions hwhat hwhere hnumber hdone hregister hmemory hsize hplace hvalue a1 a2 x1 r2 1))) th a1 a2) ∧
  (¬ (hdone a2.toNatClampNeg) < (hactions a2.toNatClampNeg) → Post 0 th hactions hwhat hwhere hnumber hdone hregister hmemory hsize hplace hvalue))
set_option maxHeartbeats 4000000 in
set_option maxRecDepth 100000 in
theorem l_MO_act_222 {p : Program} {l : Launch} {e : Env} {s : State} {m : MethodId} {args : Array Value} {below : List Frame} {meth : Method} {c : Code} {dC : Nat → ClassId} {dI : Nat → Nat → Nat} {cI cJ cZ cQ : ClassId} {a_mo a_gactions a_gwhat a_gwhere a_gnumber a_gdone a_gregister a_gmemory a_gsize a_gplace a_gvalue b_known b_tooMany b_states b_stuck b_outcomes b_front b_behind b_from b_step b_depth b_ends b_endOutcome b_cuts b_soonest b_chain b_next b_row : Nat} {A : Nat → Prop} {Post : Int32 → Int32 → (Nat → Int32) → (Nat → Int32) → (Nat → Int32) → (Nat → Int32) → (Nat → Int32) → (Nat → Int32) → (Nat → Int32) → (Nat → Int32) → (Nat → Int32) → (Nat → Int32) → Prop} (C0 : jC p l s m args meth c b_MO_act (some .boolean) 6 R_MO (dC, dI) cI cJ cZ cQ A)  : ∀ (th : Int32) (hactions hwhat hwhere hnumber hdone hregister hmemory hsize hplace hvalue : Nat → Int32) (L2 : Int32), ∀ (H : Heap) (locs : List Loc) (ls : Array Slot), wp_MO_act_222 Post  th hactions hwhat hwhere hnumber hdone hregister hmemory hsize hplace hvalue L2 → va_P (dC, dI) vwCl [(a_mo, .inr (6, [.int th, .ref a_gactions, .ref a_gwhat, .ref a_gwhere, .ref a_gnumber, .ref a_gdone, .ref a_gregister, .ref a_gmemory, .ref a_gsize, .ref a_gplace, .ref a_gvalue, .ref b_known, .ref b_tooMany, .ref b_states, .ref b_stuck, .ref b_outcomes, .ref b_front, .ref b_behind, .ref b_from, .ref b_step, .ref b_depth, .ref b_ends, .ref b_endOutcome, .ref b_cuts, .ref b_soonest, .ref b_chain, .ref b_next, .ref b_row])), (a_gactions, .inl (cI, 4, .inl hactions)), (a_gwhat, .inl (cI, 20, .inl hwhat)), (a_gwhere, .inl (cI, 20, .inl hwhere)), (a_gnumber, .inl (cI, 20, .inl hnumber)), (a_gdone, .inl (cI, 4, .inl hdone)), (a_gregister, .inl (cI, 16, .inl hregister)), (a_gmemory, .inl (cI, 4, .inl hmemory)), (a_gsize, .inl (cI, 4, .inl hsize)), (a_gplace, .inl (cI, 12, .inl hplace)), (a_gvalue, .inl (cI, 12, .inl hvalue))] H → va_D A [(a_mo, .inr (6, [.int th, .ref a_gactions, .ref a_gwhat, .ref a_gwhere, .ref a_gnumber, .ref a_gdone, .ref a_gregister, .ref a_gmemory, .ref a_gsize, .ref a_gplace, .ref a_gvalue, .ref b_known, .ref b_tooMany, .ref b_states, .ref b_stuck, .ref b_outcomes, .ref b_front, .ref b_behind, .ref b_from, .ref b_step, .ref b_depth, .ref b_ends, .ref b_endOutcome, .ref b_cuts, .ref b_soonest, .ref b_chain, .ref b_next, .ref b_row])), (a_gactions, .inl (cI, 4, .inl hactions)), (a_gwhat, .inl (cI, 20, .inl hwhat)), (a_gwhere, .inl (cI, 20, .inl hwhere)), (a_gnumber, .inl (cI, 20, .inl hnumber)), (a_gdone, .inl (cI, 4, .inl hdone)), (a_gregister, .inl (cI, 16, .inl hregister)), (a_gmemory, .inl (cI, 4, .inl hmemory)), (a_gsize, .inl (cI, 4, .inl hsize)), (a_gplace, .inl (cI, 12, .inl hplace)), (a_gvalue, .inl (cI, 12, .inl hvalue))] → va_S A s.heap H locs → lv_has ls 6 [(0, .ref a_mo), (2, .int L2)] → W p l e ({ frames := 11, cells := 0, slots := 0, locals := 174 } : Room) s m args below meth c H locs 0 0 (MQ below (jQ_MO_act dC dI cI cJ cZ cQ A a_mo a_gactions a_gwhat a_gwhere a_gnumber a_gdone a_gregister a_gmemory a_gsize a_gplace a_gvalue b_known b_tooMany b_states b_stuck b_outcomes b_front b_behind b_from b_step b_depth b_ends b_endOutcome b_cuts b_soonest b_chain b_next b_row Post) args s 0 0 A) (F0 m 222 ls []) := by
  obtain ⟨hx, hb, hr, hml, hown, hts, hlocks, hK, hZ, hA, hst⟩ := id C0
  intro th hactions hwhat hwhere hnumber hdone hregister hmemory hsize hplace hvalue L2 H locs ls h hP hD hS hl
  rw [wp_MO_act_222] at h
  refine lv_aload_n hx hb d_MO_act_222 rfl (lv_at hl 0 rfl) ?_
  refine va_get (D := (dC, dI)) (ci := 6) (v := .ref a_gdone) (C := R_MO) (T := T_MO) (N := 28) hx hb hts in_MO hown hK hP 0 rfl rfl 5 (by decide) (hts _ mw_868) (fun _ h9 => h9) rfl d_MO_act_223 ?_
  refine lv_iload_n hx hb d_MO_act_226 rfl (lv_at hl 1 rfl) ?_
  refine lv_dup2_11 hx hb d_MO_act_227 rfl rfl ?_
  refine va_iald hx hb hK hP 5 0 rfl rfl h.1 d_MO_act_228 ?_
  have h := h.2
  refine lv_iconst (v := 1) hx hb d_MO_act_229 (by decide) ?_
  refine lv_iadd hx hb d_MO_act_230 ?_
  refine va_iast hx hb hK hP hD hS 5 0 rfl rfl h.1 d_MO_act_231 (fun H locs hP hD hS => ?_)
  have h := h.2
  obtain ⟨f14, ef14⟩ : ∃ y : Nat → Int32, y = upd hdone L2.toNatClampNeg ((hdone L2.toNatClampNeg) + 1) := ⟨_, rfl⟩
  rw [← ef14] at hP hD
  have h := h f14 ef14
  have hP : va_P (dC, dI) vwCl [(a_mo, .inr (6, [.int th, .ref a_gactions, .ref a_gwhat, .ref a_gwhere, .ref a_gnumber, .ref a_gdone, .ref a_gregister, .ref a_gmemory, .ref a_gsize, .ref a_gplace, .ref a_gvalue, .ref b_known, .ref b_tooMany, .ref b_states, .ref b_stuck, .ref b_outcomes, .ref b_front, .ref b_behind, .ref b_from, .ref b_step, .ref b_depth, .ref b_ends, .ref b_endOutcome, .ref b_cuts, .ref b_soonest, .ref b_chain, .ref b_next, .ref b_row])), (a_gactions, .inl (cI, 4, .inl hactions)), (a_gwhat, .inl (cI, 20, .inl hwhat)), (a_gwhere, .inl (cI, 20, .inl hwhere)), (a_gnumber, .inl (cI, 20, .inl hnumber)), (a_gdone, .inl (cI, 4, .inl f14)), (a_gregister, .inl (cI, 16, .inl hregister)), (a_gmemory, .inl (cI, 4, .inl hmemory)), (a_gsize, .inl (cI, 4, .inl hsize)), (a_gplace, .inl (cI, 12, .inl hplace)), (a_gvalue, .inl (cI, 12, .inl hvalue))] H := hP
  have hD : va_D A [(a_mo, .inr (6, [.int th, .ref a_gactions, .ref a_gwhat, .ref a_gwhere, .ref a_gnumber, .ref a_gdone, .ref a_gregister, .ref a_gmemory, .ref a_gsize, .ref a_gplace, .ref a_gvalue, .ref b_known, .ref b_tooMany, .ref b_states, .ref b_stuck, .ref b_outcomes, .ref b_front, .ref b_behind, .ref b_from, .ref b_step, .ref b_depth, .ref b_ends, .ref b_endOutcome, .ref b_cuts, .ref b_soonest, .ref b_chain, .ref b_next, .ref b_row])), (a_gactions, .inl (cI, 4, .inl hactions)), (a_gwhat, .inl (cI, 20, .inl hwhat)), (a_gwhere, .inl (cI, 20, .inl hwhere)), (a_gnumber, .inl (cI, 20, .inl hnumber)), (a_gdone, .inl (cI, 4, .inl f14)), (a_gregister, .inl (cI, 16, .inl hregister)), (a_gmemory, .inl (cI, 4, .inl hmemory)), (a_gsize, .inl (cI, 4, .inl hsize)), (a_gplace, .inl (cI, 12, .inl hplace)), (a_gvalue, .inl (cI, 12, .inl hvalue))] := hD
  refine lv_iconst (v := 1) hx hb d_MO_act_232 (by decide) ?_
  have hP9 := hP
  have hD9 := hD
  exact W.zret (v := 1) hx hb hr rfl (fun t ht hW => ⟨⟨1, (th, hactions, hwhat, hwhere, hnumber, f14, hregister, hmemory, hsize, hplace, hvalue), rfl, h, by rw [ht]; exact hP9, va_K.moved hW.alike hK, hD9⟩, hS.F ht⟩) hS.2.2 d_MO_act_233
set_option maxHeartbeats 4000000 in
set_option maxRecDepth 100000 in
theorem l_MO_act_195 {p : Program} {l : Launch} {e : Env} {s : State} {m : MethodId} {args : Array Value} {below : List Frame} {meth : Method} {c : Code} {dC : Nat → ClassId} {dI : Nat → Nat → Nat} {cI cJ cZ cQ : ClassId} {a_mo a_gactions a_gwhat a_gwhere a_gnumber a_gdone a_gregister a_gmemory a_gsize a_gplace a_gvalue b_known b_tooMany b_states b_stuck b_outcomes b_front b_behind b_from b_step b_depth b_ends b_endOutcome b_cuts b_soonest b_chain b_next b_row : Nat} {A : Nat → Prop} {Post : Int32 → Int32 → (Nat → Int32) → (Nat → Int32) → (Nat → Int32) → (Nat → Int32) → (Nat → Int32) → (Nat → Int32) → (Nat → Int32) → (Nat → Int32) → (Nat → Int32) → (Nat → Int32) → Prop} (C0 : jC p l s m args meth c b_MO_act (some .boolean) 6 R_MO (dC, dI) cI cJ cZ cQ A)  : ∀ (th : Int32) (hactions hwhat hwhere hnumber hdone hregister hmemory hsize hplace hvalue : Nat → Int32) (L2 L3 : Int32), ∀ (H : Heap) (locs : List Loc) (ls : Array Slot), wp_MO_act_195 Post  th hactions hwhat hwhere hnumber hdone hregister hmemory hsize hplace hvalue L2 L3 → va_P (dC, dI) vwCl [(a_mo, .inr (6, [.int th, .ref a_gactions, .ref a_gwhat, .ref a_gwhere, .ref a_gnumber, .ref a_gdone, .ref a_gregister, .ref a_gmemory, .ref a_gsize, .ref a_gplace, .ref a_gvalue, .ref b_known, .ref b_tooMany, .ref b_states, .ref b_stuck, .ref b_outcomes, .ref b_front, .ref b_behind, .ref b_from, .ref b_step, .ref b_depth, .ref b_ends, .ref b_endOutcome, .ref b_cuts, .ref b_soonest, .ref b_chain, .ref b_next, .ref b_row])), (a_gactions, .inl (cI, 4, .inl hactions)), (a_gwhat, .inl (cI, 20, .inl hwhat)), (a_gwhere, .inl (cI, 20, .inl hwhere)), (a_gnumber, .inl (cI, 20, .inl hnumber)), (a_gdone, .inl (cI, 4, .inl hdone)), (a_gregister, .inl (cI, 16, .inl hregister)), (a_gmemory, .inl (cI, 4, .inl hmemory)), (a_gsize, .inl (cI, 4, .inl hsize)), (a_gplace, .inl (cI, 12, .inl hplace)), (a_gvalue, .inl (cI, 12, .inl hvalue))] H → va_D A [(a_mo, .inr (6, [.int th, .ref a_gactions, .ref a_gwhat, .ref a_gwhere, .ref a_gnumber, .ref a_gdone, .ref a_gregister, .ref a_gmemory, .ref a_gsize, .ref a_gplace, .ref a_gvalue, .ref b_known, .ref b_tooMany, .ref b_states, .ref b_stuck, .ref b_outcomes, .ref b_front, .ref b_behind, .ref b_from, .ref b_step, .ref b_depth, .ref b_ends, .ref b_endOutcome, .ref b_cuts, .ref b_soonest, .ref b_chain, .ref b_next, .ref b_row])), (a_gactions, .inl (cI, 4, .inl hactions)), (a_gwhat, .inl (cI, 20, .inl hwhat)), (a_gwhere, .inl (cI, 20, .inl hwhere)), (a_gnumber, .inl (cI, 20, .inl hnumber)), (a_gdone, .inl (cI, 4, .inl hdone)), (a_gregister, .inl (cI, 16, .inl hregister)), (a_gmemory, .inl (cI, 4, .inl hmemory)), (a_gsize, .inl (cI, 4, .inl hsize)), (a_gplace, .inl (cI, 12, .inl hplace)), (a_gvalue, .inl (cI, 12, .inl hvalue))] → va_S A s.heap H locs → lv_has ls 6 [(0, .ref a_mo), (2, .int L2), (3, .int L3)] → W p l e ({ frames := 11, cells := 0, slots := 0, locals := 174 } : Room) s m args below meth c H locs 0 0 (MQ below (jQ_MO_act dC dI cI cJ cZ cQ A a_mo a_gactions a_gwhat a_gwhere a_gnumber a_gdone a_gregister a_gmemory a_gsize a_gplace a_gvalue b_known b_tooMany b_states b_stuck b_outcomes b_front b_behind b_from b_step b_depth b_ends b_endOutcome b_cuts b_soonest b_chain b_next b_row Post) args s 0 0 A) (F0 m 195 ls []) := by
  obtain ⟨hx, hb, hr, hml, hown, hts, hlocks, hK, hZ, hA, hst⟩ := id C0
  intro th hactions hwhat hwhere hnumber hdone hregister hmemory hsize hplace hvalue L2 L3 H locs ls h hP hD hS hl
  rw [wp_MO_act_195] at h
  refine lv_aload_n hx hb d_MO_act_195 rfl (lv_at hl 0 rfl) ?_
  refine va_get (D := (dC, dI)) (ci := 6) (v := .ref a_gwhat) (C := R_MO) (T := T_MO) (N := 28) hx hb hts in_MO hown hK hP 0 rfl rfl 2 (by decide) (hts _ mw_865) (fun _ h9 => h9) rfl d_MO_act_196 ?_
  refine lv_iload_n hx hb d_MO_act_199 rfl (lv_at hl 2 rfl) ?_
  refine va_iald hx hb hK hP 2 0 rfl rfl h.1 d_MO_act_200 ?_
  have h := h.2
  refine lv_iconst (v := 2) hx hb d_MO_act_201 (by decide) ?_
  refine lv_icmp_eq (tgt := 222) hx hb d_MO_act_202 (by decide) (fun c202 => ?_) (fun c202 => ?_)
  · have h := h.1 c202
    exact l_MO_act_222 C0  th hactions hwhat hwhere hnumber hdone hregister hmemory hsize hplace hvalue L2  H locs ls h hP hD hS (lv_sub hl [0, 1] rfl)
  · have h := h.2 c202
    refine lv_aload_n hx hb d_MO_act_205 rfl (lv_at hl 0 rfl) ?_
    refine va_get (D := (dC, dI)) (ci := 6) (v := .ref a_gmemory) (C := R_MO) (T := T_MO) (N := 28) hx hb hts in_MO hown hK hP 0 rfl rfl 7 (by decide) (hts _ mw_870) (fun _ h9 => h9) rfl d_MO_act_206 ?_
    refine lv_aload_n hx hb d_MO_act_209 rfl (lv_at hl 0 rfl) ?_
    refine va_get (D := (dC, dI)) (ci := 6) (v := .ref a_gwhere) (C := R_MO) (T := T_MO) (N := 28) hx hb hts in_MO hown hK hP 0 rfl rfl 3 (by decide) (hts _ mw_866) (fun _ h9 => h9) rfl d_MO_act_210 ?_
    refine lv_iload_n hx hb d_MO_act_213 rfl (lv_at hl 2 rfl) ?_
    refine va_iald hx hb hK hP 3 0 rfl rfl h.1 d_MO_act_214 ?_
    have h := h.2
    refine lv_aload_n hx hb d_MO_act_215 rfl (lv_at hl 0 rfl) ?_
    refine va_get (D := (dC, dI)) (ci := 6) (v := .ref a_gnumber) (C := R_MO) (T := T_MO) (N := 28) hx hb hts in_MO hown hK hP 0 rfl rfl 4 (by decide) (hts _ mw_867) (fun _ h9 => h9) rfl d_MO_act_216 ?_
    refine lv_iload_n hx hb d_MO_act_219 rfl (lv_at hl 2 rfl) ?_
    refine va_iald hx hb hK hP 4 0 rfl rfl h.1 d_MO_act_220 ?_
    have h := h.2
    refine va_iast hx hb hK hP hD hS 7 0 rfl rfl h.1 d_MO_act_221 (fun H locs hP hD hS => ?_)
    have h := h.2
    obtain ⟨f15, ef15⟩ : ∃ y : Nat → Int32, y = upd hmemory (hwhere L3.toNatClampNeg).toNatClampNeg (hnumber L3.toNatClampNeg) := ⟨_, rfl⟩
    rw [← ef15] at hP hD
    have h := h f15 ef15
    have hP : va_P (dC, dI) vwCl [(a_mo, .inr (6, [.int th, .ref a_gactions, .ref a_gwhat, .ref a_gwhere, .ref a_gnumber, .ref a_gdone, .ref a_gregister, .ref a_gmemory, .ref a_gsize, .ref a_gplace, .ref a_gvalue, .ref b_known, .ref b_tooMany, .ref b_states, .ref b_stuck, .ref b_outcomes, .ref b_front, .ref b_behind, .ref b_from, .ref b_step, .ref b_depth, .ref b_ends, .ref b_endOutcome, .ref b_cuts, .ref b_soonest, .ref b_chain, .ref b_next, .ref b_row])), (a_gactions, .inl (cI, 4, .inl hactions)), (a_gwhat, .inl (cI, 20, .inl hwhat)), (a_gwhere, .inl (cI, 20, .inl hwhere)), (a_gnumber, .inl (cI, 20, .inl hnumber)), (a_gdone, .inl (cI, 4, .inl hdone)), (a_gregister, .inl (cI, 16, .inl hregister)), (a_gmemory, .inl (cI, 4, .inl f15)), (a_gsize, .inl (cI, 4, .inl hsize)), (a_gplace, .inl (cI, 12, .inl hplace)), (a_gvalue, .inl (cI, 12, .inl hvalue))] H := hP
    have hD : va_D A [(a_mo, .inr (6, [.int th, .ref a_gactions, .ref a_gwhat, .ref a_gwhere, .ref a_gnumber, .ref a_gdone, .ref a_gregister, .ref a_gmemory, .ref a_gsize, .ref a_gplace, .ref a_gvalue, .ref b_known, .ref b_tooMany, .ref b_states, .ref b_stuck, .ref b_outcomes, .ref b_front, .ref b_behind, .ref b_from, .ref b_step, .ref b_depth, .ref b_ends, .ref b_endOutcome, .ref b_cuts, .ref b_soonest, .ref b_chain, .ref b_next, .ref b_row])), (a_gactions, .inl (cI, 4, .inl hactions)), (a_gwhat, .inl (cI, 20, .inl hwhat)), (a_gwhere, .inl (cI, 20, .inl hwhere)), (a_gnumber, .inl (cI, 20, .inl hnumber)), (a_gdone, .inl (cI, 4, .inl hdone)), (a_gregister, .inl (cI, 16, .inl hregister)), (a_gmemory, .inl (cI, 4, .inl f15)), (a_gsize, .inl (cI, 4, .inl hsize)), (a_gplace, .inl (cI, 12, .inl hplace)), (a_gvalue, .inl (cI, 12, .inl hvalue))] := hD
    exact l_MO_act_222 C0  th hactions hwhat hwhere hnumber hdone hregister f15 hsize hplace hvalue L2  H locs ls h hP hD hS (lv_sub hl [0, 1] rfl)
set_option maxHeartbeats 4000000 in
set_option maxRecDepth 100000 in
theorem l_MO_act_179 {p : Program} {l : Launch} {e : Env} {s : State} {m : MethodId} {args : Array Value} {below : List Frame} {meth : Method} {c : Code} {dC : Nat → ClassId} {dI : Nat → Nat → Nat} {cI cJ cZ cQ : ClassId} {a_mo a_gactions a_gwhat a_gwhere a_gnumber a_gdone a_gregister a_gmemory a_gsize a_gplace a_gvalue b_known b_tooMany b_states b_stuck b_outcomes b_front b_behind b_from b_step b_depth b_ends b_endOutcome b_cuts b_soonest b_chain b_next b_row : Nat} {A : Nat → Prop} {Post : Int32 → Int32 → (Nat → Int32) → (Nat → Int32) → (Nat → Int32) → (Nat → Int32) → (Nat → Int32) → (Nat → Int32) → (Nat → Int32) → (Nat → Int32) → (Nat → Int32) → (Nat → Int32) → Prop} (C0 : jC p l s m args meth c b_MO_act (some .boolean) 6 R_MO (dC, dI) cI cJ cZ cQ A)  : ∀ (th : Int32) (hactions hwhat hwhere hnumber hdone hregister hmemory hsize hplace hvalue : Nat → Int32) (L2 L3 L5 : Int32), ∀ (H : Heap) (locs : List Loc) (ls : Array Slot), wp_MO_act_179 Post  th hactions hwhat hwhere hnumber hdone hregister hmemory hsize hplace hvalue L2 L3 L5 → va_P (dC, dI) vwCl [(a_mo, .inr (6, [.int th, .ref a_gactions, .ref a_gwhat, .ref a_gwhere, .ref a_gnumber, .ref a_gdone, .ref a_gregister, .ref a_gmemory, .ref a_gsize, .ref a_gplace, .ref a_gvalue, .ref b_known, .ref b_tooMany, .ref b_states, .ref b_stuck, .ref b_outcomes, .ref b_front, .ref b_behind, .ref b_from, .ref b_step, .ref b_depth, .ref b_ends, .ref b_endOutcome, .ref b_cuts, .ref b_soonest, .ref b_chain, .ref b_next, .ref b_row])), (a_gactions, .inl (cI, 4, .inl hactions)), (a_gwhat, .inl (cI, 20, .inl hwhat)), (a_gwhere, .inl (cI, 20, .inl hwhere)), (a_gnumber, .inl (cI, 20, .inl hnumber)), (a_gdone, .inl (cI, 4, .inl hdone)), (a_gregister, .inl (cI, 16, .inl hregister)), (a_gmemory, .inl (cI, 4, .inl hmemory)), (a_gsize, .inl (cI, 4, .inl hsize)), (a_gplace, .inl (cI, 12, .inl hplace)), (a_gvalue, .inl (cI, 12, .inl hvalue))] H → va_D A [(a_mo, .inr (6, [.int th, .ref a_gactions, .ref a_gwhat, .ref a_gwhere, .ref a_gnumber, .ref a_gdone, .ref a_gregister, .ref a_gmemory, .ref a_gsize, .ref a_gplace, .ref a_gvalue, .ref b_known, .ref b_tooMany, .ref b_states, .ref b_stuck, .ref b_outcomes, .ref b_front, .ref b_behind, .ref b_from, .ref b_step, .ref b_depth, .ref b_ends, .ref b_endOutcome, .ref b_cuts, .ref b_soonest, .ref b_chain, .ref b_next, .ref b_row])), (a_gactions, .inl (cI, 4, .inl hactions)), (a_gwhat, .inl (cI, 20, .inl hwhat)), (a_gwhere, .inl (cI, 20, .inl hwhere)), (a_gnumber, .inl (cI, 20, .inl hnumber)), (a_gdone, .inl (cI, 4, .inl hdone)), (a_gregister, .inl (cI, 16, .inl hregister)), (a_gmemory, .inl (cI, 4, .inl hmemory)), (a_gsize, .inl (cI, 4, .inl hsize)), (a_gplace, .inl (cI, 12, .inl hplace)), (a_gvalue, .inl (cI, 12, .inl hvalue))] → va_S A s.heap H locs → lv_has ls 6 [(0, .ref a_mo), (2, .int L2), (3, .int L3), (5, .int L5)] → W p l e ({ frames := 11, cells := 0, slots := 0, locals := 174 } : Room) s m args below meth c H locs 0 0 (MQ below (jQ_MO_act dC dI cI cJ cZ cQ A a_mo a_gactions a_gwhat a_gwhere a_gnumber a_gdone a_gregister a_gmemory a_gsize a_gplace a_gvalue b_known b_tooMany b_states b_stuck b_outcomes b_front b_behind b_from b_step b_depth b_ends b_endOutcome b_cuts b_soonest b_chain b_next b_row Post) args s 0 0 A) (F0 m 179 ls []) := by
  obtain ⟨hx, hb, hr, hml, hown, hts, hlocks, hK, hZ, hA, hst⟩ := id C0
  intro th hactions hwhat hwhere hnumber hdone hregister hmemory hsize hplace hvalue L2 L3 L5 H locs ls h hP hD hS hl
  rw [wp_MO_act_179] at h
  refine lv_aload_n hx hb d_MO_act_179 rfl (lv_at hl 0 rfl) ?_
  refine va_get (D := (dC, dI)) (ci := 6) (v := .ref a_gwhat) (C := R_MO) (T := T_MO) (N := 28) hx hb hts in_MO hown hK hP 0 rfl rfl 2 (by decide) (hts _ mw_865) (fun _ h9 => h9) rfl d_MO_act_180 ?_
  refine lv_iload_n hx hb d_MO_act_183 rfl (lv_at hl 2 rfl) ?_
  refine va_iald hx hb hK hP 2 0 rfl rfl h.1 d_MO_act_184 ?_
  have h := h.2
  refine lv_if_eq (tgt := 195) hx hb d_MO_act_185 (by decide) (fun c185 => ?_) (fun c185 => ?_)
  · have h := h.1 c185
    exact l_MO_act_195 C0  th hactions hwhat hwhere hnumber hdone hregister hmemory hsize hplace hvalue L2 L3  H locs ls h hP hD hS (lv_sub hl [0, 1, 2] rfl)
  · have h := h.2 c185
    refine lv_iload hx hb d_MO_act_188 (lv_at hl 3 rfl) ?_
    refine lv_if_ne (tgt := 195) hx hb d_MO_act_190 (by decide) (fun c190 => ?_) (fun c190 => ?_)
    · have h := h.1 c190
      exact l_MO_act_195 C0  th hactions hwhat hwhere hnumber hdone hregister hmemory hsize hplace hvalue L2 L3  H locs ls h hP hD hS (lv_sub hl [0, 1, 2] rfl)
    · have h := h.2 c190
      refine lv_iconst (v := 0) hx hb d_MO_act_193 (by decide) ?_
      have hP9 := hP
      have hD9 := hD
      exact W.zret (v := 0) hx hb hr rfl (fun t ht hW => ⟨⟨0, (th, hactions, hwhat, hwhere, hnumber, hdone, hregister, hmemory, hsize, hplace, hvalue), rfl, h, by rw [ht]; exact hP9, va_K.moved hW.alike hK, hD9⟩, hS.F ht⟩) hS.2.2 d_MO_act_194
set_option maxHeartbeats 4000000 in
set_option maxRecDepth 100000 in
theorem l_MO_act_51 {p : Program} {l : Launch} {e : Env} {s : State} {m : MethodId} {args : Array Value} {below : List Frame} {meth : Method} {c : Code} {dC : Nat → ClassId} {dI : Nat → Nat → Nat} {cI cJ cZ cQ : ClassId} {a_mo a_gactions a_gwhat a_gwhere a_gnumber a_gdone a_gregister a_gmemory a_gsize a_gplace a_gvalue b_known b_tooMany b_states b_stuck b_outcomes b_front b_behind b_from b_step b_depth b_ends b_endOutcome b_cuts b_soonest b_chain b_next b_row : Nat} {A : Nat → Prop} {Post : Int32 → Int32 → (Nat → Int32) → (Nat → Int32) → (Nat → Int32) → (Nat → Int32) → (Nat → Int32) → (Nat → Int32) → (Nat → Int32) → (Nat → Int32) → (Nat → Int32) → (Nat → Int32) → Prop} (C0 : jC p l s m args meth c b_MO_act (some .boolean) 6 R_MO (dC, dI) cI cJ cZ cQ A)  : ∀ (th : Int32) (hactions hwhat hwhere hnumber hdone hregister hmemory hsize hplace hvalue : Nat → Int32) (L1 L2 L3 L4 S0 : Int32), ∀ (H : Heap) (locs : List Loc) (ls : Array Slot), wp_MO_act_51 Post  th hactions hwhat hwhere hnumber hdone hregister hmemory hsize hplace hvalue L1 L2 L3 L4 S0 → va_P (dC, dI) vwCl [(a_mo, .inr (6, [.int th, .ref a_gactions, .ref a_gwhat, .ref a_gwhere, .ref a_gnumber, .ref a_gdone, .ref a_gregister, .ref a_gmemory, .ref a_gsize, .ref a_gplace, .ref a_gvalue, .ref b_known, .ref b_tooMany, .ref b_states, .ref b_stuck, .ref b_outcomes, .ref b_front, .ref b_behind, .ref b_from, .ref b_step, .ref b_depth, .ref b_ends, .ref b_endOutcome, .ref b_cuts, .ref b_soonest, .ref b_chain, .ref b_next, .ref b_row])), (a_gactions, .inl (cI, 4, .inl hactions)), (a_gwhat, .inl (cI, 20, .inl hwhat)), (a_gwhere, .inl (cI, 20, .inl hwhere)), (a_gnumber, .inl (cI, 20, .inl hnumber)), (a_gdone, .inl (cI, 4, .inl hdone)), (a_gregister, .inl (cI, 16, .inl hregister)), (a_gmemory, .inl (cI, 4, .inl hmemory)), (a_gsize, .inl (cI, 4, .inl hsize)), (a_gplace, .inl (cI, 12, .inl hplace)), (a_gvalue, .inl (cI, 12, .inl hvalue))] H → va_D A [(a_mo, .inr (6, [.int th, .ref a_gactions, .ref a_gwhat, .ref a_gwhere, .ref a_gnumber, .ref a_gdone, .ref a_gregister, .ref a_gmemory, .ref a_gsize, .ref a_gplace, .ref a_gvalue, .ref b_known, .ref b_tooMany, .ref b_states, .ref b_stuck, .ref b_outcomes, .ref b_front, .ref b_behind, .ref b_from, .ref b_step, .ref b_depth, .ref b_ends, .ref b_endOutcome, .ref b_cuts, .ref b_soonest, .ref b_chain, .ref b_next, .ref b_row])), (a_gactions, .inl (cI, 4, .inl hactions)), (a_gwhat, .inl (cI, 20, .inl hwhat)), (a_gwhere, .inl (cI, 20, .inl hwhere)), (a_gnumber, .inl (cI, 20, .inl hnumber)), (a_gdone, .inl (cI, 4, .inl hdone)), (a_gregister, .inl (cI, 16, .inl hregister)), (a_gmemory, .inl (cI, 4, .inl hmemory)), (a_gsize, .inl (cI, 4, .inl hsize)), (a_gplace, .inl (cI, 12, .inl hplace)), (a_gvalue, .inl (cI, 12, .inl hvalue))] → va_S A s.heap H locs → lv_has ls 6 [(0, .ref a_mo), (1, .int L1), (2, .int L2), (3, .int L3), (4, .int L4)] → W p l e ({ frames := 11, cells := 0, slots := 0, locals := 174 } : Room) s m args below meth c H locs 0 0 (MQ below (jQ_MO_act dC dI cI cJ cZ cQ A a_mo a_gactions a_gwhat a_gwhere a_gnumber a_gdone a_gregister a_gmemory a_gsize a_gplace a_gvalue b_known b_tooMany b_states b_stuck b_outcomes b_front b_behind b_from b_step b_depth b_ends b_endOutcome b_cuts b_soonest b_chain b_next b_row Post) args s 0 0 A) (F0 m 51 ls [.int S0]) := by
  obtain ⟨hx, hb, hr, hml, hown, hts, hlocks, hK, hZ, hA, hst⟩ := id C0
  intro th hactions hwhat hwhere hnumber hdone hregister hmemory hsize hplace hvalue L1 L2 L3 L4 S0 H locs ls h hP hD hS hl
  rw [wp_MO_act_51] at h
  refine lv_istore (lv' := [(5, .int S0), (0, .ref a_mo), (1, .int L1), (2, .int L2), (3, .int L3), (4, .int L4)]) hx hb d_MO_act_51 hl (by decide) rfl (fun ls hl => ?_)
  refine lv_aload_n hx hb d_MO_act_53 rfl (lv_at hl 1 rfl) ?_
  refine va_get (D := (dC, dI)) (ci := 6) (v := .ref a_gwhat) (C := R_MO) (T := T_MO) (N := 28) hx hb hts in_MO hown hK hP 0 rfl rfl 2 (by decide) (hts _ mw_865) (fun _ h9 => h9) rfl d_MO_act_54 ?_
  refine lv_iload_n hx hb d_MO_act_57 rfl (lv_at hl 4 rfl) ?_
  refine va_iald hx hb hK hP 2 0 rfl rfl h.1 d_MO_act_58 ?_
  have h := h.2
  refine lv_iconst (v := 1) hx hb d_MO_act_59 (by decide) ?_
  refine lv_icmp_ne (tgt := 93) hx hb d_MO_act_60 (by decide) (fun c60 => ?_) (fun c60 => ?_)
  · have h := h.1 c60
    refine lv_aload_n hx hb d_MO_act_93 rfl (lv_at hl 1 rfl) ?_
    refine va_get (D := (dC, dI)) (ci := 6) (v := .ref a_gwhat) (C := R_MO) (T := T_MO) (N := 28) hx hb hts in_MO hown hK hP 0 rfl rfl 2 (by decide) (hts _ mw_865) (fun _ h9 => h9) rfl d_MO_act_94 ?_
    refine lv_iload_n hx hb d_MO_act_97 rfl (lv_at hl 4 rfl) ?_
    refine va_iald hx hb hK hP 2 0 rfl rfl h.1 d_MO_act_98 ?_
    have h := h.2
    refine lv_if_ne (tgt := 179) hx hb d_MO_act_99 (by decide) (fun c99 => ?_) (fun c99 => ?_)
    · have h := h.1 c99
      exact l_MO_act_179 C0  th hactions hwhat hwhere hnumber hdone hregister hmemory hsize hplace hvalue L2 L3 S0  H locs ls h hP hD hS (lv_sub hl [1, 3, 4, 0] rfl)
    · have h := h.2 c99
      refine lv_iload_n hx hb d_MO_act_102 rfl (lv_at hl 2 rfl) ?_
      refine lv_if_eq (tgt := 179) hx hb d_MO_act_103 (by decide) (fun c103 => ?_) (fun c103 => ?_)
      · have h := h.1 c103
        exact l_MO_act_179 C0  th hactions hwhat hwhere hnumber hdone hregister hmemory hsize hplace hvalue L2 L3 S0  H locs ls h hP hD hS (lv_sub hl [1, 3, 4, 0] rfl)
      · have h := h.2 c103
        refine lv_aload_n hx hb d_MO_act_106 rfl (lv_at hl 1 rfl) ?_
        refine va_get (D := (dC, dI)) (ci := 6) (v := .ref a_gsize) (C := R_MO) (T := T_MO) (N := 28) hx hb hts in_MO hown hK hP 0 rfl rfl 8 (by decide) (hts _ mw_871) (fun _ h9 => h9) rfl d_MO_act_107 ?_
        refine lv_iload hx hb d_MO_act_110 (lv_at hl 5 rfl) ?_
        refine va_iald hx hb hK hP 8 0 rfl rfl h.1 d_MO_act_112 ?_
        have h := h.2
        refine lv_iconst (v := 3) hx hb d_MO_act_113 (by decide) ?_
        refine lv_icmp_ne (tgt := 119) hx hb d_MO_act_114 (by decide) (fun c114 => ?_) (fun c114 => ?_)
        · have h := h.1 c114
          refine lv_aload_n hx hb d_MO_act_119 rfl (lv_at hl 1 rfl) ?_
          refine va_get (D := (dC, dI)) (ci := 6) (v := .ref a_gplace) (C := R_MO) (T := T_MO) (N := 28) hx hb hts in_MO hown hK hP 0 rfl rfl 9 (by decide) (hts _ mw_872) (fun _ h9 => h9) rfl d_MO_act_120 ?_
          refine lv_iconst (v := 3) hx hb d_MO_act_123 (by decide) ?_
          refine lv_iload hx hb d_MO_act_124 (lv_at hl 5 rfl) ?_
          refine lv_imul hx hb d_MO_act_126 ?_
          refine lv_aload_n hx hb d_MO_act_127 rfl (lv_at hl 1 rfl) ?_
          refine va_get (D := (dC, dI)) (ci := 6) (v := .ref a_gsize) (C := R_MO) (T := T_MO) (N := 28) hx hb hts in_MO hown hK hP 0 rfl rfl 8 (by decide) (hts _ mw_871) (fun _ h9 => h9) rfl d_MO_act_128 ?_
          refine lv_iload hx hb d_MO_act_131 (lv_at hl 5 rfl) ?_
          refine va_iald hx hb hK hP 8 0 rfl rfl h.1 d_MO_act_133 ?_
          have h := h.2
          refine lv_iadd hx hb d_MO_act_134 ?_
          refine lv_aload_n hx hb d_MO_act_135 rfl (lv_at hl 1 rfl) ?_
          refine va_get (D := (dC, dI)) (ci := 6) (v := .ref a_gwhere) (C := R_MO) (T := T_MO) (N := 28) hx hb hts in_MO hown hK hP 0 rfl rfl 3 (by decide) (hts _ mw_866) (fun _ h9 => h9) rfl d_MO_act_136 ?_
          refine lv_iload_n hx hb d_MO_act_139 rfl (lv_at hl 4 rfl) ?_
          refine va_iald hx hb hK hP 3 0 rfl rfl h.1 d_MO_act_140 ?_
          have h := h.2
          refine va_iast hx hb hK hP hD hS 9 0 rfl rfl h.1 d_MO_act_141 (fun H locs hP hD hS => ?_)
          have h := h.2
          obtain ⟨f4, ef4⟩ : ∃ y : Nat → Int32, y = upd hplace ((3 * L4) + (hsize L4.toNatClampNeg)).toNatClampNeg (hwhere L3.toNatClampNeg) := ⟨_, rfl⟩
          rw [← ef4] at hP hD
          have h := h f4 ef4
          have hP : va_P (dC, dI) vwCl [(a_mo, .inr (6, [.int th, .ref a_gactions, .ref a_gwhat, .ref a_gwhere, .ref a_gnumber, .ref a_gdone, .ref a_gregister, .ref a_gmemory, .ref a_gsize, .ref a_gplace, .ref a_gvalue, .ref b_known, .ref b_tooMany, .ref b_states, .ref b_stuck, .ref b_outcomes, .ref b_front, .ref b_behind, .ref b_from, .ref b_step, .ref b_depth, .ref b_ends, .ref b_endOutcome, .ref b_cuts, .ref b_soonest, .ref b_chain, .ref b_next, .ref b_row])), (a_gactions, .inl (cI, 4, .inl hactions)), (a_gwhat, .inl (cI, 20, .inl hwhat)), (a_gwhere, .inl (cI, 20, .inl hwhere)), (a_gnumber, .inl (cI, 20, .inl hnumber)), (a_gdone, .inl (cI, 4, .inl hdone)), (a_gregister, .inl (cI, 16, .inl hregister)), (a_gmemory, .inl (cI, 4, .inl hmemory)), (a_gsize, .inl (cI, 4, .inl hsize)), (a_gplace, .inl (cI, 12, .inl f4)), (a_gvalue, .inl (cI, 12, .inl hvalue))] H := hP
          have hD : va_D A [(a_mo, .inr (6, [.int th, .ref a_gactions, .ref a_gwhat, .ref a_gwhere, .ref a_gnumber, .ref a_gdone, .ref a_gregister, .ref a_gmemory, .ref a_gsize, .ref a_gplace, .ref a_gvalue, .ref b_known, .ref b_tooMany, .ref b_states, .ref b_stuck, .ref b_outcomes, .ref b_front, .ref b_behind, .ref b_from, .ref b_step, .ref b_depth, .ref b_ends, .ref b_endOutcome, .ref b_cuts, .ref b_soonest, .ref b_chain, .ref b_next, .ref b_row])), (a_gactions, .inl (cI, 4, .inl hactions)), (a_gwhat, .inl (cI, 20, .inl hwhat)), (a_gwhere, .inl (cI, 20, .inl hwhere)), (a_gnumber, .inl (cI, 20, .inl hnumber)), (a_gdone, .inl (cI, 4, .inl hdone)), (a_gregister, .inl (cI, 16, .inl hregister)), (a_gmemory, .inl (cI, 4, .inl hmemory)), (a_gsize, .inl (cI, 4, .inl hsize)), (a_gplace, .inl (cI, 12, .inl f4)), (a_gvalue, .inl (cI, 12, .inl hvalue))] := hD
          refine lv_aload_n hx hb d_MO_act_142 rfl (lv_at hl 1 rfl) ?_
          refine va_get (D := (dC, dI)) (ci := 6) (v := .ref a_gvalue) (C := R_MO) (T := T_MO) (N := 28) hx hb hts in_MO hown hK hP 0 rfl rfl 10 (by decide) (hts _ mw_873) (fun _ h9 => h9) rfl d_MO_act_143 ?_
          refine lv_iconst (v := 3) hx hb d_MO_act_146 (by decide) ?_
          refine lv_iload hx hb d_MO_act_147 (lv_at hl 5 rfl) ?_
          refine lv_imul hx hb d_MO_act_149 ?_
          refine lv_aload_n hx hb d_MO_act_150 rfl (lv_at hl 1 rfl) ?_
          refine va_get (D := (dC, dI)) (ci := 6) (v := .ref a_gsize) (C := R_MO) (T := T_MO) (N := 28) hx hb hts in_MO hown hK hP 0 rfl rfl 8 (by decide) (hts _ mw_871) (fun _ h9 => h9) rfl d_MO_act_151 ?_
          refine lv_iload hx hb d_MO_act_154 (lv_at hl 5 rfl) ?_
          refine va_iald hx hb hK hP 8 0 rfl rfl h.1 d_MO_act_156 ?_
          have h := h.2
          refine lv_iadd hx hb d_MO_act_157 ?_
          refine lv_aload_n hx hb d_MO_act_158 rfl (lv_at hl 1 rfl) ?_
          refine va_get (D := (dC, dI)) (ci := 6) (v := .ref a_gnumber) (C := R_MO) (T := T_MO) (N := 28) hx hb hts in_MO hown hK hP 0 rfl rfl 4 (by decide) (hts _ mw_867) (fun _ h9 => h9) rfl d_MO_act_159 ?_
          refine lv_iload_n hx hb d_MO_act_162 rfl (lv_at hl 4 rfl) ?_
          refine va_iald hx hb hK hP 4 0 rfl rfl h.1 d_MO_act_163 ?_
          have h := h.2
          refine va_iast hx hb hK hP hD hS 10 0 rfl rfl h.1 d_MO_act_164 (fun H locs hP hD hS => ?_)
          have h := h.2
          obtain ⟨f5, ef5⟩ : ∃ y : Nat → Int32, y = upd hvalue ((3 * L4) + (hsize L4.toNatClampNeg)).toNatClampNeg (hnumber L3.toNatClampNeg) := ⟨_, rfl⟩
          rw [← ef5] at hP hD
          have h := h f5 ef5
          have hP : va_P (dC, dI) vwCl [(a_mo, .inr (6, [.int th, .ref a_gactions, .ref a_gwhat, .ref a_gwhere, .ref a_gnumber, .ref a_gdone, .ref a_gregister, .ref a_gmemory, .ref a_gsize, .ref a_gplace, .ref a_gvalue, .ref b_known, .ref b_tooMany, .ref b_states, .ref b_stuck, .ref b_outcomes, .ref b_front, .ref b_behind, .ref b_from, .ref b_step, .ref b_depth, .ref b_ends, .ref b_endOutcome, .ref b_cuts, .ref b_soonest, .ref b_chain, .ref b_next, .ref b_row])), (a_gactions, .inl (cI, 4, .inl hactions)), (a_gwhat, .inl (cI, 20, .inl hwhat)), (a_gwhere, .inl (cI, 20, .inl hwhere)), (a_gnumber, .inl (cI, 20, .inl hnumber)), (a_gdone, .inl (cI, 4, .inl hdone)), (a_gregister, .inl (cI, 16, .inl hregister)), (a_gmemory, .inl (cI, 4, .inl hmemory)), (a_gsize, .inl (cI, 4, .inl hsize)), (a_gplace, .inl (cI, 12, .inl f4)), (a_gvalue, .inl (cI, 12, .inl f5))] H := hP
          have hD : va_D A [(a_mo, .inr (6, [.int th, .ref a_gactions, .ref a_gwhat, .ref a_gwhere, .ref a_gnumber, .ref a_gdone, .ref a_gregister, .ref a_gmemory, .ref a_gsize, .ref a_gplace, .ref a_gvalue, .ref b_known, .ref b_tooMany, .ref b_states, .ref b_stuck, .ref b_outcomes, .ref b_front, .ref b_behind, .ref b_from, .ref b_step, .ref b_depth, .ref b_ends, .ref b_endOutcome, .ref b_cuts, .ref b_soonest, .ref b_chain, .ref b_next, .ref b_row])), (a_gactions, .inl (cI, 4, .inl hactions)), (a_gwhat, .inl (cI, 20, .inl hwhat)), (a_gwhere, .inl (cI, 20, .inl hwhere)), (a_gnumber, .inl (cI, 20, .inl hnumber)), (a_gdone, .inl (cI, 4, .inl hdone)), (a_gregister, .inl (cI, 16, .inl hregister)), (a_gmemory, .inl (cI, 4, .inl hmemory)), (a_gsize, .inl (cI, 4, .inl hsize)), (a_gplace, .inl (cI, 12, .inl f4)), (a_gvalue, .inl (cI, 12, .inl f5))] := hD
          refine lv_aload_n hx hb d_MO_act_165 rfl (lv_at hl 1 rfl) ?_
          refine va_get (D := (dC, dI)) (ci := 6) (v := .ref a_gsize) (C := R_MO) (T := T_MO) (N := 28) hx hb hts in_MO hown hK hP 0 rfl rfl 8 (by decide) (hts _ mw_871) (fun _ h9 => h9) rfl d_MO_act_166 ?_
          refine lv_iload hx hb d_MO_act_169 (lv_at hl 5 rfl) ?_
          refine lv_dup2_11 hx hb d_MO_act_171 rfl rfl ?_
          refine va_iald hx hb hK hP 8 0 rfl rfl h.1 d_MO_act_172 ?_
          have h := h.2
          refine lv_iconst (v := 1) hx hb d_MO_act_173 (by decide) ?_
          refine lv_iadd hx hb d_MO_act_174 ?_
          refine va_iast hx hb hK hP hD hS 8 0 rfl rfl h.1 d_MO_act_175 (fun H locs hP hD hS => ?_)
          have h := h.2
          obtain ⟨f6, ef6⟩ : ∃ y : Nat → Int32, y = upd hsize L4.toNatClampNeg ((hsize L4.toNatClampNeg) + 1) := ⟨_, rfl⟩
          rw [← ef6] at hP hD
          have h := h f6 ef6
          have hP : va_P (dC, dI) vwCl [(a_mo, .inr (6, [.int th, .ref a_gactions, .ref a_gwhat, .ref a_gwhere, .ref a_gnumber, .ref a_gdone, .ref a_gregister, .ref a_gmemory, .ref a_gsize, .ref a_gplace, .ref a_gvalue, .ref b_known, .ref b_tooMany, .ref b_states, .ref b_stuck, .ref b_outcomes, .ref b_front, .ref b_behind, .ref b_from, .ref b_step, .ref b_depth, .ref b_ends, .ref b_endOutcome, .ref b_cuts, .ref b_soonest, .ref b_chain, .ref b_next, .ref b_row])), (a_gactions, .inl (cI, 4, .inl hactions)), (a_gwhat, .inl (cI, 20, .inl hwhat)), (a_gwhere, .inl (cI, 20, .inl hwhere)), (a_gnumber, .inl (cI, 20, .inl hnumber)), (a_gdone, .inl (cI, 4, .inl hdone)), (a_gregister, .inl (cI, 16, .inl hregister)), (a_gmemory, .inl (cI, 4, .inl hmemory)), (a_gsize, .inl (cI, 4, .inl f6)), (a_gplace, .inl (cI, 12, .inl f4)), (a_gvalue, .inl (cI, 12, .inl f5))] H := hP
          have hD : va_D A [(a_mo, .inr (6, [.int th, .ref a_gactions, .ref a_gwhat, .ref a_gwhere, .ref a_gnumber, .ref a_gdone, .ref a_gregister, .ref a_gmemory, .ref a_gsize, .ref a_gplace, .ref a_gvalue, .ref b_known, .ref b_tooMany, .ref b_states, .ref b_stuck, .ref b_outcomes, .ref b_front, .ref b_behind, .ref b_from, .ref b_step, .ref b_depth, .ref b_ends, .ref b_endOutcome, .ref b_cuts, .ref b_soonest, .ref b_chain, .ref b_next, .ref b_row])), (a_gactions, .inl (cI, 4, .inl hactions)), (a_gwhat, .inl (cI, 20, .inl hwhat)), (a_gwhere, .inl (cI, 20, .inl hwhere)), (a_gnumber, .inl (cI, 20, .inl hnumber)), (a_gdone, .inl (cI, 4, .inl hdone)), (a_gregister, .inl (cI, 16, .inl hregister)), (a_gmemory, .inl (cI, 4, .inl hmemory)), (a_gsize, .inl (cI, 4, .inl f6)), (a_gplace, .inl (cI, 12, .inl f4)), (a_gvalue, .inl (cI, 12, .inl f5))] := hD
          refine lv_goto (tgt := 222) hx hb d_MO_act_176 (by decide) ?_
          exact l_MO_act_222 C0  th hactions hwhat hwhere hnumber hdone hregister hmemory f6 f4 f5 L2  H locs ls h hP hD hS (lv_sub hl [1, 3] rfl)
        · have h := h.2 c114
          refine lv_iconst (v := 0) hx hb d_MO_act_117 (by decide) ?_
          have hP9 := hP
          have hD9 := hD
          exact W.zret (v := 0) hx hb hr rfl (fun t ht hW => ⟨⟨0, (th, hactions, hwhat, hwhere, hnumber, hdone, hregister, hmemory, hsize, hplace, hvalue), rfl, h, by rw [ht]; exact hP9, va_K.moved hW.alike hK, hD9⟩, hS.F ht⟩) hS.2.2 d_MO_act_118
  · have h := h.2 c60
    refine lv_aload_n hx hb d_MO_act_63 rfl (lv_at hl 1 rfl) ?_
    refine va_get (D := (dC, dI)) (ci := 6) (v := .ref a_gregister) (C := R_MO) (T := T_MO) (N := 28) hx hb hts in_MO hown hK hP 0 rfl rfl 6 (by decide) (hts _ mw_869) (fun _ h9 => h9) rfl d_MO_act_64 ?_
    refine lv_iconst (v := 4) hx hb d_MO_act_67 (by decide) ?_
    refine lv_iload_n hx hb d_MO_act_68 rfl (lv_at hl 3 rfl) ?_
    refine lv_imul hx hb d_MO_act_69 ?_
    refine lv_aload_n hx hb d_MO_act_70 rfl (lv_at hl 1 rfl) ?_
    refine va_get (D := (dC, dI)) (ci := 6) (v := .ref a_gnumber) (C := R_MO) (T := T_MO) (N := 28) hx hb hts in_MO hown hK hP 0 rfl rfl 4 (by decide) (hts _ mw_867) (fun _ h9 => h9) rfl d_MO_act_71 ?_
    refine lv_iload_n hx hb d_MO_act_74 rfl (lv_at hl 4 rfl) ?_
    refine va_iald hx hb hK hP 4 0 rfl rfl h.1 d_MO_act_75 ?_
    have h := h.2
    refine lv_iadd hx hb d_MO_act_76 ?_
    refine lv_aload_n hx hb d_MO_act_77 rfl (lv_at hl 1 rfl) ?_
    refine lv_iload hx hb d_MO_act_78 (lv_at hl 5 rfl) ?_
    refine lv_aload_n hx hb d_MO_act_80 rfl (lv_at hl 1 rfl) ?_
    refine va_get (D := (dC, dI)) (ci := 6) (v := .ref a_gwhere) (C := R_MO) (T := T_MO) (N := 28) hx hb hts in_MO hown hK hP 0 rfl rfl 3 (by decide) (hts _ mw_866) (fun _ h9 => h9) rfl d_MO_act_81 ?_
    refine lv_iload_n hx hb d_MO_act_84 rfl (lv_at hl 4 rfl) ?_
    refine va_iald hx hb hK hP 3 0 rfl rfl h.1 d_MO_act_85 ?_
    have h := h.2
    have hPc := hP.sub (ws' := [(a_mo, .inr (6, [.int th, .ref a_gactions, .ref a_gwhat, .ref a_gwhere, .ref a_gnumber, .ref a_gdone, .ref a_gregister, .ref a_gmemory, .ref a_gsize, .ref a_gplace, .ref a_gvalue, .ref b_known, .ref b_tooMany, .ref b_states, .ref b_stuck, .ref b_outcomes, .ref b_front, .ref b_behind, .ref b_from, .ref b_step, .ref b_depth, .ref b_ends, .ref b_endOutcome, .ref b_cuts, .ref b_soonest, .ref b_chain, .ref b_next, .ref b_row])), (a_gmemory, .inl (cI, 4, .inl hmemory)), (a_gsize, .inl (cI, 4, .inl hsize)), (a_gplace, .inl (cI, 12, .inl hplace)), (a_gvalue, .inl (cI, 12, .inl hvalue))]) [0, 7, 8, 9, 10] rfl
    have hDc := hD.sub (ws' := [(a_mo, .inr (6, [.int th, .ref a_gactions, .ref a_gwhat, .ref a_gwhere, .ref a_gnumber, .ref a_gdone, .ref a_gregister, .ref a_gmemory, .ref a_gsize, .ref a_gplace, .ref a_gvalue, .ref b_known, .ref b_tooMany, .ref b_states, .ref b_stuck, .ref b_outcomes, .ref b_front, .ref b_behind, .ref b_from, .ref b_step, .ref b_depth, .ref b_ends, .ref b_endOutcome, .ref b_cuts, .ref b_soonest, .ref b_chain, .ref b_next, .ref b_row])), (a_gmemory, .inl (cI, 4, .inl hmemory)), (a_gsize, .inl (cI, 4, .inl hsize)), (a_gplace, .inl (cI, 12, .inl hplace)), (a_gvalue, .inl (cI, 12, .inl hvalue))]) [0, 7, 8, 9, 10] (by decide) rfl
    have hFc := va_free (wc := [(a_mo, .inr (6, [.int th, .ref a_gactions, .ref a_gwhat, .ref a_gwhere, .ref a_gnumber, .ref a_gdone, .ref a_gregister, .ref a_gmemory, .ref a_gsize, .ref a_gplace, .ref a_gvalue, .ref b_known, .ref b_tooMany, .ref b_states, .ref b_stuck, .ref b_outcomes, .ref b_front, .ref b_behind, .ref b_from, .ref b_step, .ref b_depth, .ref b_ends, .ref b_endOutcome, .ref b_cuts, .ref b_soonest, .ref b_chain, .ref b_next, .ref b_row])), (a_gmemory, .inl (cI, 4, .inl hmemory)), (a_gsize, .inl (cI, 4, .inl hsize)), (a_gplace, .inl (cI, 12, .inl hplace)), (a_gvalue, .inl (cI, 12, .inl hvalue))]) hD hS hA [0, 7, 8, 9, 10] rfl
    refine va_calli (va_runV (As := [.int L4, .int (hwhere L3.toNatClampNeg)]) (rest := [.int ((4 * L2) + (hnumber L3.toNatClampNeg)), .ref a_gregister]) ⟨hx, hb, hml, hown, hts⟩ (c_MO_seen l dC dI cI cJ cZ cQ a_mo a_gmemory a_gsize a_gplace a_gvalue a_gactions a_gwhat a_gwhere a_gnumber a_gdone a_gregister b_known b_tooMany b_states b_stuck b_outcomes b_front b_behind b_from b_step b_depth b_ends b_endOutcome b_cuts b_soonest b_chain b_next b_row H.size th hmemory hsize hplace hvalue L4 (hwhere L3.toNatClampNeg) _  h) (cwV 2 hts (goodIn_app (jGl (List.forall_mem_cons.mpr ⟨mw_1021, List.forall_mem_cons.mpr ⟨mw_1023, List.forall_mem_cons.mpr ⟨ms_MO_seen, List.forall_mem_cons.mpr ⟨mw_7, fun _ h => absurd h List.not_mem_nil⟩⟩⟩⟩)) (jG mw_1024)) rfl rfl rfl (by decide +kernel) ⟨Nat.le_of_ble_eq_true rfl, Nat.le_of_ble_eq_true rfl⟩) ⟨jPre_blind, va_recv hK hPc (ci := 6) (q0 := 0) rfl rfl, jPre_in hPc hK hDc hZ hS hFc hst⟩ rfl rfl hl.1 rfl (lv_room (Nat.le_of_ble_eq_true rfl)) d_MO_act_86 ⟨(Nat.zero_le _), (Nat.zero_le _)⟩) hS (fun q _ h => hFc q h) hFc (fun r7 u t H1 locs ht hvm hw hB hz1 hk1 hS => ?_)
    obtain ⟨u8, u9, u10, u11, u12⟩ := u
    obtain ⟨hP1, hK1, hD1⟩ := hB
    rw [ht] at hP1
    have h := hw
    obtain ⟨hP, hD⟩ := va_join (wr := [(a_gactions, .inl (cI, 4, .inl hactions)), (a_gwhat, .inl (cI, 20, .inl hwhat)), (a_gwhere, .inl (cI, 20, .inl hwhere)), (a_gnumber, .inl (cI, 20, .inl hnumber)), (a_gdone, .inl (cI, 4, .inl hdone)), (a_gregister, .inl (cI, 16, .inl hregister))]) (w1 := [(a_mo, .inr (6, [.int u8, .ref a_gactions, .ref a_gwhat, .ref a_gwhere, .ref a_gnumber, .ref a_gdone, .ref a_gregister, .ref a_gmemory, .ref a_gsize, .ref a_gplace, .ref a_gvalue, .ref b_known, .ref b_tooMany, .ref b_states, .ref b_stuck, .ref b_outcomes, .ref b_front, .ref b_behind, .ref b_from, .ref b_step, .ref b_depth, .ref b_ends, .ref b_endOutcome, .ref b_cuts, .ref b_soonest, .ref b_chain, .ref b_next, .ref b_row])), (a_gmemory, .inl (cI, 4, .inl u9)), (a_gsize, .inl (cI, 4, .inl u10)), (a_gplace, .inl (cI, 12, .inl u11)), (a_gvalue, .inl (cI, 12, .inl u12))]) hP hD [0, 7, 8, 9, 10] [1, 2, 3, 4, 5, 6] rfl rfl (by decide) (by decide) hk1 hFc hP1 hD1
    generalize H1 = H at hP hS ⊢
    have hP : va_P (dC, dI) vwCl [(a_gactions, .inl (cI, 4, .inl hactions)), (a_gwhat, .inl (cI, 20, .inl hwhat)), (a_gwhere, .inl (cI, 20, .inl hwhere)), (a_gnumber, .inl (cI, 20, .inl hnumber)), (a_gdone, .inl (cI, 4, .inl hdone)), (a_gregister, .inl (cI, 16, .inl hregister)), (a_mo, .inr (6, [.int u8, .ref a_gactions, .ref a_gwhat, .ref a_gwhere, .ref a_gnumber, .ref a_gdone, .ref a_gregister, .ref a_gmemory, .ref a_gsize, .ref a_gplace, .ref a_gvalue, .ref b_known, .ref b_tooMany, .ref b_states, .ref b_stuck, .ref b_outcomes, .ref b_front, .ref b_behind, .ref b_from, .ref b_step, .ref b_depth, .ref b_ends, .ref b_endOutcome, .ref b_cuts, .ref b_soonest, .ref b_chain, .ref b_next, .ref b_row])), (a_gmemory, .inl (cI, 4, .inl u9)), (a_gsize, .inl (cI, 4, .inl u10)), (a_gplace, .inl (cI, 12, .inl u11)), (a_gvalue, .inl (cI, 12, .inl u12))] H := hP
    have hD : va_D A [(a_gactions, .inl (cI, 4, .inl hactions)), (a_gwhat, .inl (cI, 20, .inl hwhat)), (a_gwhere, .inl (cI, 20, .inl hwhere)), (a_gnumber, .inl (cI, 20, .inl hnumber)), (a_gdone, .inl (cI, 4, .inl hdone)), (a_gregister, .inl (cI, 16, .inl hregister)), (a_mo, .inr (6, [.int u8, .ref a_gactions, .ref a_gwhat, .ref a_gwhere, .ref a_gnumber, .ref a_gdone, .ref a_gregister, .ref a_gmemory, .ref a_gsize, .ref a_gplace, .ref a_gvalue, .ref b_known, .ref b_tooMany, .ref b_states, .ref b_stuck, .ref b_outcomes, .ref b_front, .ref b_behind, .ref b_from, .ref b_step, .ref b_depth, .ref b_ends, .ref b_endOutcome, .ref b_cuts, .ref b_soonest, .ref b_chain, .ref b_next, .ref b_row])), (a_gmemory, .inl (cI, 4, .inl u9)), (a_gsize, .inl (cI, 4, .inl u10)), (a_gplace, .inl (cI, 12, .inl u11)), (a_gvalue, .inl (cI, 12, .inl u12))] := hD
    refine va_iast hx hb hK hP hD hS 5 0 rfl rfl h.1 d_MO_act_89 (fun H locs hP hD hS => ?_)
    have h := h.2
    obtain ⟨f13, ef13⟩ : ∃ y : Nat → Int32, y = upd hregister ((4 * L2) + (hnumber L3.toNatClampNeg)).toNatClampNeg r7 := ⟨_, rfl⟩
    rw [← ef13] at hP hD
    have h := h f13 ef13
    have hP : va_P (dC, dI) vwCl [(a_gactions, .inl (cI, 4, .inl hactions)), (a_gwhat, .inl (cI, 20, .inl hwhat)), (a_gwhere, .inl (cI, 20, .inl hwhere)), (a_gnumber, .inl (cI, 20, .inl hnumber)), (a_gdone, .inl (cI, 4, .inl hdone)), (a_gregister, .inl (cI, 16, .inl f13)), (a_mo, .inr (6, [.int u8, .ref a_gactions, .ref a_gwhat, .ref a_gwhere, .ref a_gnumber, .ref a_gdone, .ref a_gregister, .ref a_gmemory, .ref a_gsize, .ref a_gplace, .ref a_gvalue, .ref b_known, .ref b_tooMany, .ref b_states, .ref b_stuck, .ref b_outcomes, .ref b_front, .ref b_behind, .ref b_from, .ref b_step, .ref b_depth, .ref b_ends, .ref b_endOutcome, .ref b_cuts, .ref b_soonest, .ref b_chain, .ref b_next, .ref b_row])), (a_gmemory, .inl (cI, 4, .inl u9)), (a_gsize, .inl (cI, 4, .inl u10)), (a_gplace, .inl (cI, 12, .inl u11)), (a_gvalue, .inl (cI, 12, .inl u12))] H := hP
    have hD : va_D A [(a_gactions, .inl (cI, 4, .inl hactions)), (a_gwhat, .inl (cI, 20, .inl hwhat)), (a_gwhere, .inl (cI, 20, .inl hwhere)), (a_gnumber, .inl (cI, 20, .inl hnumber)), (a_gdone, .inl (cI, 4, .inl hdone)), (a_gregister, .inl (cI, 16, .inl f13)), (a_mo, .inr (6, [.int u8, .ref a_gactions, .ref a_gwhat, .ref a_gwhere, .ref a_gnumber, .ref a_gdone, .ref a_gregister, .ref a_gmemory, .ref a_gsize, .ref a_gplace, .ref a_gvalue, .ref b_known, .ref b_tooMany, .ref b_states, .ref b_stuck, .ref b_outcomes, .ref b_front, .ref b_behind, .ref b_from, .ref b_step, .ref b_depth, .ref b_ends, .ref b_endOutcome, .ref b_cuts, .ref b_soonest, .ref b_chain, .ref b_next, .ref b_row])), (a_gmemory, .inl (cI, 4, .inl u9)), (a_gsize, .inl (cI, 4, .inl u10)), (a_gplace, .inl (cI, 12, .inl u11)), (a_gvalue, .inl (cI, 12, .inl u12))] := hD
    refine lv_goto (tgt := 222) hx hb d_MO_act_90 (by decide) ?_
    exact l_MO_act_222 C0  u8 hactions hwhat hwhere hnumber hdone f13 u9 u10 u11 u12 L2  H locs ls h (hP.sub [6, 0, 1, 2, 3, 4, 5, 7, 8, 9, 10] rfl) (hD.sub [6, 0, 1, 2, 3, 4, 5, 7, 8, 9, 10] (by decide) rfl) hS (lv_sub hl [1, 3] rfl)
set_option maxHeartbeats 4000000 in
set_option maxRecDepth 100000 in
theorem c_MO_act (l : Launch) (dC : Nat → ClassId) (dI : Nat → Nat → Nat) (cI cJ cZ cQ : ClassId) (a_mo a_gactions a_gwhat a_gwhere a_gnumber a_gdone a_gregister a_gmemory a_gsize a_gplace a_gvalue b_known b_tooMany b_states b_stuck b_outcomes b_front b_behind b_from b_step b_depth b_ends b_endOutcome b_cuts b_soonest b_chain b_next b_row : Nat) (sz : Nat) (th : Int32) (hactions hwhat hwhere hnumber hdone hregister hmemory hsize hplace hvalue : Nat → Int32) (a1 a2 : Int32) (Post : Int32 → Int32 → (Nat → Int32) → (Nat → Int32) → (Nat → Int32) → (Nat → Int32) → (Nat → Int32) → (Nat → Int32) → (Nat → Int32) → (Nat → Int32) → (Nat → Int32) → (Nat → Int32) → Prop) (h : wp_MO_act Post th hactions hwhat hwhere hnumber hdone hregister hmemory hsize hplace hvalue a1 a2) : Met l y_MO_act (.code y_MO_act b_MO_act 6 (some .boolean) :: jW) ({ frames := 11, cells := 0, slots := 0, locals := 174 } : Room) (jPre l (dC, dI) cI cJ cZ cQ [(a_mo, .inr (6, [.int th, .ref a_gactions, .ref a_gwhat, .ref a_gwhere, .ref a_gnumber, .ref a_gdone, .ref a_gregister, .ref a_gmemory, .ref a_gsize, .ref a_gplace, .ref a_gvalue, .ref b_known, .ref b_tooMany, .ref b_states, .ref b_stuck, .ref b_outcomes, .ref b_front, .ref b_behind, .ref b_from, .ref b_step, .ref b_depth, .ref b_ends, .ref b_endOutcome, .ref b_cuts, .ref b_soonest, .ref b_chain, .ref b_next, .ref b_row])), (a_gactions, .inl (cI, 4, .inl hactions)), (a_gwhat, .inl (cI, 20, .inl hwhat)), (a_gwhere, .inl (cI, 20, .inl hwhere)), (a_gnumber, .inl (cI, 20, .inl hnumber)), (a_gdone, .inl (cI, 4, .inl hdone)), (a_gregister, .inl (cI, 16, .inl hregister)), (a_gmemory, .inl (cI, 4, .inl hmemory)), (a_gsize, .inl (cI, 4, .inl hsize)), (a_gplace, .inl (cI, 12, .inl hplace)), (a_gvalue, .inl (cI, 12, .inl hvalue))] sz [.ref a_mo, .int a1, .int a2]) (jQ_MO_act dC dI cI cJ cZ cQ (va_A [(a_mo, .inr (6, [.int th, .ref a_gactions, .ref a_gwhat, .ref a_gwhere, .ref a_gnumber, .ref a_gdone, .ref a_gregister, .ref a_gmemory, .ref a_gsize, .ref a_gplace, .ref a_gvalue, .ref b_known, .ref b_tooMany, .ref b_states, .ref b_stuck, .ref b_outcomes, .ref b_front, .ref b_behind, .ref b_from, .ref b_step, .ref b_depth, .ref b_ends, .ref b_endOutcome, .ref b_cuts, .ref b_soonest, .ref b_chain, .ref b_next, .ref b_row])), (a_gactions, .inl (cI, 4, .inl hactions)), (a_gwhat, .inl (cI, 20, .inl hwhat)), (a_gwhere, .inl (cI, 20, .inl hwhere)), (a_gnumber, .inl (cI, 20, .inl hnumber)), (a_gdone, .inl (cI, 4, .inl hdone)), (a_gregister, .inl (cI, 16, .inl hregister)), (a_gmemory, .inl (cI, 4, .inl hmemory)), (a_gsize, .inl (cI, 4, .inl hsize)), (a_gplace, .inl (cI, 12, .inl hplace)), (a_gvalue, .inl (cI, 12, .inl hvalue))] sz) a_mo a_gactions a_gwhat a_gwhere a_gnumber a_gdone a_gregister a_gmemory a_gsize a_gplace a_gvalue b_known b_tooMany b_states b_stuck b_outcomes b_front b_behind b_from b_step b_depth b_ends b_endOutcome b_cuts b_soonest b_chain b_next b_row Post) 0 0 (va_A [(a_mo, .inr (6, [.int th, .ref a_gactions, .ref a_gwhat, .ref a_gwhere, .ref a_gnumber, .ref a_gdone, .ref a_gregister, .ref a_gmemory, .ref a_gsize, .ref a_gplace, .ref a_gvalue, .ref b_known, .ref b_tooMany, .ref b_states, .ref b_stuck, .ref b_outcomes, .ref b_front, .ref b_behind, .ref b_from, .ref b_step, .ref b_depth, .ref b_ends, .ref b_endOutcome, .ref b_cuts, .ref b_soonest, .ref b_chain, .ref b_next, .ref b_row])), (a_gactions, .inl (cI, 4, .inl hactions)), (a_gwhat, .inl (cI, 20, .inl hwhat)), (a_gwhere, .inl (cI, 20, .inl hwhere)), (a_gnumber, .inl (cI, 20, .inl hnumber)), (a_gdone, .inl (cI, 4, .inl hdone)), (a_gregister, .inl (cI, 16, .inl hregister)), (a_gmemory, .inl (cI, 4, .inl hmemory)), (a_gsize, .inl (cI, 4, .inl hsize)), (a_gplace, .inl (cI, 12, .inl hplace)), (a_gvalue, .inl (cI, 12, .inl hvalue))] sz) := by
  refine Met.ofW (cc := b_MO_act) (maxL := 6) (ret := (some .boolean)) (by decide) rfl ?_
  intro p e s m args below meth c s₁ B hml hv
  obtain ⟨rfl, hsz, hP, hK, hD0, hZ, hst⟩ := hv
  subst hsz
  have hD := hD0.self (sz := s.heap.size)
  generalize hAe : va_A [(a_mo, .inr (6, [.int th, .ref a_gactions, .ref a_gwhat, .ref a_gwhere, .ref a_gnumber, .ref a_gdone, .ref a_gregister, .ref a_gmemory, .ref a_gsize, .ref a_gplace, .ref a_gvalue, .ref b_known, .ref b_tooMany, .ref b_states, .ref b_stuck, .ref b_outcomes, .ref b_front, .ref b_behind, .ref b_from, .ref b_step, .ref b_depth, .ref b_ends, .ref b_endOutcome, .ref b_cuts, .ref b_soonest, .ref b_chain, .ref b_next, .ref b_row])), (a_gactions, .inl (cI, 4, .inl hactions)), (a_gwhat, .inl (cI, 20, .inl hwhat)), (a_gwhere, .inl (cI, 20, .inl hwhere)), (a_gnumber, .inl (cI, 20, .inl hnumber)), (a_gdone, .inl (cI, 4, .inl hdone)), (a_gregister, .inl (cI, 16, .inl hregister)), (a_gmemory, .inl (cI, 4, .inl hmemory)), (a_gsize, .inl (cI, 4, .inl hsize)), (a_gplace, .inl (cI, 12, .inl hplace)), (a_gvalue, .inl (cI, 12, .inl hvalue))] s.heap.size = A at hD hZ ⊢
  have hA : ∀ q : Nat, s.heap.size ≤ q → A q := fun q h => by rw [← hAe]; exact Or.inr h
  have C0 : jC p l s m ([.ref a_mo, .int a1, .int a2] : List Value).toArray meth c b_MO_act (some .boolean) 6 R_MO (dC, dI) cI cJ cZ cQ A := ⟨B.exec, B.bytes, B.returns, hml, findClass_of_methodNamed B.named, fun w hw => atoms_spec (ws := (.code y_MO_act b_MO_act 6 (some .boolean) :: jW)) B.pre w (List.mem_cons_of_mem _ hw), B.notSynchronized, hK, hZ, hA, hst⟩
  obtain ⟨hx, hb, hr, hml, hown, hts, hlocks, hK, hZ, hA, hst⟩ := id C0
  have hS : va_S A s.heap s.heap [] := va_S.rf
  have hl := lv_entry ([.ref a_mo, .int a1, .int a2]) (n := 6) (Nat.le_of_ble_eq_true rfl)
  rw [lg_entry_eq]
  generalize (lg_sl ([.ref a_mo, .int a1, .int a2]) ++ List.replicate (6 - (lg_sl ([.ref a_mo, .int a1, .int a2])).length) Slot.unset).toArray = ls at hl ⊢
  have hl : lv_has ls 6 [(0, .ref a_mo), (1, .int a1), (2, .int a2)] := hl
  obtain ⟨H, hH⟩ : ∃ H : Heap, H = s.heap := ⟨_, rfl⟩
  obtain ⟨locs, hlc⟩ : ∃ L : List Loc, L = [] := ⟨_, rfl⟩
  have hP : va_P (dC, dI) vwCl [(a_mo, .inr (6, [.int th, .ref a_gactions, .ref a_gwhat, .ref a_gwhere, .ref a_gnumber, .ref a_gdone, .ref a_gregister, .ref a_gmemory, .ref a_gsize, .ref a_gplace, .ref a_gvalue, .ref b_known, .ref b_tooMany, .ref b_states, .ref b_stuck, .ref b_outcomes, .ref b_front, .ref b_behind, .ref b_from, .ref b_step, .ref b_depth, .ref b_ends, .ref b_endOutcome, .ref b_cuts, .ref b_soonest, .ref b_chain, .ref b_next, .ref b_row])), (a_gactions, .inl (cI, 4, .inl hactions)), (a_gwhat, .inl (cI, 20, .inl hwhat)), (a_gwhere, .inl (cI, 20, .inl hwhere)), (a_gnumber, .inl (cI, 20, .inl hnumber)), (a_gdone, .inl (cI, 4, .inl hdone)), (a_gregister, .inl (cI, 16, .inl hregister)), (a_gmemory, .inl (cI, 4, .inl hmemory)), (a_gsize, .inl (cI, 4, .inl hsize)), (a_gplace, .inl (cI, 12, .inl hplace)), (a_gvalue, .inl (cI, 12, .inl hvalue))] H := by rw [hH]; exact hP
  have hS : va_S A s.heap H locs := by rw [hH, hlc]; exact hS
  suffices hW9 : W p l e ({ frames := 11, cells := 0, slots := 0, locals := 174 } : Room) s m ([.ref a_mo, .int a1, .int a2] : List Value).toArray below meth c H locs 0 0 (MQ below (jQ_MO_act dC dI cI cJ cZ cQ A a_mo a_gactions a_gwhat a_gwhere a_gnumber a_gdone a_gregister a_gmemory a_gsize a_gplace a_gvalue b_known b_tooMany b_states b_stuck b_outcomes b_front b_behind b_from b_step b_depth b_ends b_endOutcome b_cuts b_soonest b_chain b_next b_row Post) ([.ref a_mo, .int a1, .int a2] : List Value).toArray s 0 0 A) (F0 m 0 ls []) by rw [hH, hlc] at hW9; exact hW9
  clear hH hlc
  rw [wp_MO_act] at h
  refine lv_aload_n hx hb d_MO_act_0 rfl (lv_at hl 0 rfl) ?_
  refine va_get (D := (dC, dI)) (ci := 6) (v := .ref a_gdone) (C := R_MO) (T := T_MO) (N := 28) hx hb hts in_MO hown hK hP 0 rfl rfl 5 (by decide) (hts _ mw_868) (fun _ h9 => h9) rfl d_MO_act_1 ?_
  refine lv_iload_n hx hb d_MO_act_4 rfl (lv_at hl 2 rfl) ?_
  refine va_iald hx hb hK hP 5 0 rfl rfl h.1 d_MO_act_5 ?_
  have h := h.2
  refine lv_aload_n hx hb d_MO_act_6 rfl (lv_at hl 0 rfl) ?_
  refine va_get (D := (dC, dI)) (ci := 6) (v := .ref a_gactions) (C := R_MO) (T := T_MO) (N := 28) hx hb hts in_MO hown hK hP 0 rfl rfl 1 (by decide) (hts _ mw_864) (fun _ h9 => h9) rfl d_MO_act_7 ?_
  refine lv_iload_n hx hb d_MO_act_10 rfl (lv_at hl 2 rfl) ?_
  refine va_iald hx hb hK hP 1 0 rfl rfl h.1 d_MO_act_11 ?_
  have h := h.2
  refine lv_icmp_lt (tgt := 17) hx hb d_MO_act_12 (by decide) (fun c12 => ?_) (fun c12 => ?_)
  · have h := h.1 c12
    refine lv_iconst (v := 5) hx hb d_MO_act_17 (by decide) ?_
    refine lv_iload_n hx hb d_MO_act_18 rfl (lv_at hl 2 rfl) ?_
    refine lv_imul hx hb d_MO_act_19 ?_
    refine lv_aload_n hx hb d_MO_act_20 rfl (lv_at hl 0 rfl) ?_
    refine va_get (D := (dC, dI)) (ci := 6) (v := .ref a_gdone) (C := R_MO) (T := T_MO) (N := 28) hx hb hts in_MO hown hK hP 0 rfl rfl 5 (by decide) (hts _ mw_868) (fun _ h9 => h9) rfl d_MO_act_21 ?_
    refine lv_iload_n hx hb d_MO_act_24 rfl (lv_at hl 2 rfl) ?_
    refine va_iald hx hb hK hP 5 0 rfl rfl h.1 d_MO_act_25 ?_
    have h := h.2
    refine lv_iadd hx hb d_MO_act_26 ?_
    refine lv_topi (fun x1 ex1 => ?_)
    have h := h x1 ex1
    refine lv_istore_n (lv' := [(3, .int x1), (0, .ref a_mo), (1, .int a1), (2, .int a2)]) hx hb d_MO_act_27 rfl hl (by decide) rfl (fun ls hl => ?_)
    refine lv_aload_n hx hb d_MO_act_28 rfl (lv_at hl 1 rfl) ?_
    refine lv_iload_n hx hb d_MO_act_29 rfl (lv_at hl 2 rfl) ?_
    refine lv_iload_n hx hb d_MO_act_30 rfl (lv_at hl 3 rfl) ?_
    have hPc := hP.sub (ws' := [(a_mo, .inr (6, [.int th, .ref a_gactions, .ref a_gwhat, .ref a_gwhere, .ref a_gnumber, .ref a_gdone, .ref a_gregister, .ref a_gmemory, .ref a_gsize, .ref a_gplace, .ref a_gvalue, .ref b_known, .ref b_tooMany, .ref b_states, .ref b_stuck, .ref b_outcomes, .ref b_front, .ref b_behind, .ref b_from, .ref b_step, .ref b_depth, .ref b_ends, .ref b_endOutcome, .ref b_cuts, .ref b_soonest, .ref b_chain, .ref b_next, .ref b_row]))]) [0] rfl
    have hDc := hD.sub (ws' := [(a_mo, .inr (6, [.int th, .ref a_gactions, .ref a_gwhat, .ref a_gwhere, .ref a_gnumber, .ref a_gdone, .ref a_gregister, .ref a_gmemory, .ref a_gsize, .ref a_gplace, .ref a_gvalue, .ref b_known, .ref b_tooMany, .ref b_states, .ref b_stuck, .ref b_outcomes, .ref b_front, .ref b_behind, .ref b_from, .ref b_step, .ref b_depth, .ref b_ends, .ref b_endOutcome, .ref b_cuts, .ref b_soonest, .ref b_chain, .ref b_next, .ref b_row]))]) [0] (by decide) rfl
    have hFc := va_free (wc := [(a_mo, .inr (6, [.int th, .ref a_gactions, .ref a_gwhat, .ref a_gwhere, .ref a_gnumber, .ref a_gdone, .ref a_gregister, .ref a_gmemory, .ref a_gsize, .ref a_gplace, .ref a_gvalue, .ref b_known, .ref b_tooMany, .ref b_states, .ref b_stuck, .ref b_outcomes, .ref b_front, .ref b_behind, .ref b_from, .ref b_step, .ref b_depth, .ref b_ends, .ref b_endOutcome, .ref b_cuts, .ref b_soonest, .ref b_chain, .ref b_next, .ref b_row]))]) hD hS hA [0] rfl
    refine va_calli (va_runV (As := [.int a1, .int a2]) (rest := []) ⟨hx, hb, hml, hown, hts⟩ (c_MO_bufferOf l dC dI cI cJ cZ cQ a_mo a_gactions a_gwhat a_gwhere a_gnumber a_gdone a_gregister a_gmemory a_gsize a_gplace a_gvalue b_known b_tooMany b_states b_stuck b_outcomes b_front b_behind b_from b_step b_depth b_ends b_endOutcome b_cuts b_soonest b_chain b_next b_row H.size th a1 a2 _  h) (cwV 2 hts (goodIn_app (jGl (List.forall_mem_cons.mpr ⟨mw_1017, List.forall_mem_cons.mpr ⟨mw_1019, List.forall_mem_cons.mpr ⟨ms_MO_bufferOf, List.forall_mem_cons.mpr ⟨mw_7, fun _ h => absurd h List.not_mem_nil⟩⟩⟩⟩)) (jG mw_1020)) rfl rfl rfl (by decide +kernel) ⟨Nat.le_of_ble_eq_true rfl, Nat.le_of_ble_eq_true rfl⟩) ⟨jPre_blind, va_recv hK hPc (ci := 6) (q0 := 0) rfl rfl, jPre_in hPc hK hDc hZ hS hFc hst⟩ rfl rfl hl.1 rfl (lv_room (Nat.le_of_ble_eq_true rfl)) d_MO_act_31 ⟨(Nat.zero_le _), (Nat.zero_le _)⟩) hS (fun q _ h => hFc q h) hFc (fun r2 u t H1 locs ht hvm hw hB hz1 hk1 hS => ?_)
    obtain ⟨u3, rfl⟩ : ∃ z, z = u := ⟨_, rfl⟩
    obtain ⟨hP1, hK1, hD1⟩ := hB
    rw [ht] at hP1
    have h := hw
    obtain ⟨hP, hD⟩ := va_join (wr := [(a_gactions, .inl (cI, 4, .inl hactions)), (a_gwhat, .inl (cI, 20, .inl hwhat)), (a_gwhere, .inl (cI, 20, .inl hwhere)), (a_gnumber, .inl (cI, 20, .inl hnumber)), (a_gdone, .inl (cI, 4, .inl hdone)), (a_gregister, .inl (cI, 16, .inl hregister)), (a_gmemory, .inl (cI, 4, .inl hmemory)), (a_gsize, .inl (cI, 4, .inl hsize)), (a_gplace, .inl (cI, 12, .inl hplace)), (a_gvalue, .inl (cI, 12, .inl hvalue))]) (w1 := [(a_mo, .inr (6, [.int u3, .ref a_gactions, .ref a_gwhat, .ref a_gwhere, .ref a_gnumber, .ref a_gdone, .ref a_gregister, .ref a_gmemory, .ref a_gsize, .ref a_gplace, .ref a_gvalue, .ref b_known, .ref b_tooMany, .ref b_states, .ref b_stuck, .ref b_outcomes, .ref b_front, .ref b_behind, .ref b_from, .ref b_step, .ref b_depth, .ref b_ends, .ref b_endOutcome, .ref b_cuts, .ref b_soonest, .ref b_chain, .ref b_next, .ref b_row]))]) hP hD [0] [1, 2, 3, 4, 5, 6, 7, 8, 9, 10] rfl rfl (by decide) (by decide) hk1 hFc hP1 hD1
    generalize H1 = H at hP hS ⊢
    have hP : va_P (dC, dI) vwCl [(a_gactions, .inl (cI, 4, .inl hactions)), (a_gwhat, .inl (cI, 20, .inl hwhat)), (a_gwhere, .inl (cI, 20, .inl hwhere)), (a_gnumber, .inl (cI, 20, .inl hnumber)), (a_gdone, .inl (cI, 4, .inl hdone)), (a_gregister, .inl (cI, 16, .inl hregister)), (a_gmemory, .inl (cI, 4, .inl hmemory)), (a_gsize, .inl (cI, 4, .inl hsize)), (a_gplace, .inl (cI, 12, .inl hplace)), (a_gvalue, .inl (cI, 12, .inl hvalue)), (a_mo, .inr (6, [.int u3, .ref a_gactions, .ref a_gwhat, .ref a_gwhere, .ref a_gnumber, .ref a_gdone, .ref a_gregister, .ref a_gmemory, .ref a_gsize, .ref a_gplace, .ref a_gvalue, .ref b_known, .ref b_tooMany, .ref b_states, .ref b_stuck, .ref b_outcomes, .ref b_front, .ref b_behind, .ref b_from, .ref b_step, .ref b_depth, .ref b_ends, .ref b_endOutcome, .ref b_cuts, .ref b_soonest, .ref b_chain, .ref b_next, .ref b_row]))] H := hP
    have hD : va_D A [(a_gactions, .inl (cI, 4, .inl hactions)), (a_gwhat, .inl (cI, 20, .inl hwhat)), (a_gwhere, .inl (cI, 20, .inl hwhere)), (a_gnumber, .inl (cI, 20, .inl hnumber)), (a_gdone, .inl (cI, 4, .inl hdone)), (a_gregister, .inl (cI, 16, .inl hregister)), (a_gmemory, .inl (cI, 4, .inl hmemory)), (a_gsize, .inl (cI, 4, .inl hsize)), (a_gplace, .inl (cI, 12, .inl hplace)), (a_gvalue, .inl (cI, 12, .inl hvalue)), (a_mo, .inr (6, [.int u3, .ref a_gactions, .ref a_gwhat, .ref a_gwhere, .ref a_gnumber, .ref a_gdone, .ref a_gregister, .ref a_gmemory, .ref a_gsize, .ref a_gplace, .ref a_gvalue, .ref b_known, .ref b_tooMany, .ref b_states, .ref b_stuck, .ref b_outcomes, .ref b_front, .ref b_behind, .ref b_from, .ref b_step, .ref b_depth, .ref b_ends, .ref b_endOutcome, .ref b_cuts, .ref b_soonest, .ref b_chain, .ref b_next, .ref b_row]))] := hD
    refine lv_istore (lv' := [(4, .int r2), (3, .int x1), (0, .ref a_mo), (1, .int a1), (2, .int a2)]) hx hb d_MO_act_34 hl (by decide) rfl (fun ls hl => ?_)
    refine lv_aload_n hx hb d_MO_act_36 rfl (lv_at hl 2 rfl) ?_
    refine va_get (D := (dC, dI)) (ci := 6) (v := .ref a_gsize) (C := R_MO) (T := T_MO) (N := 28) hx hb hts in_MO hown hK hP 10 rfl rfl 8 (by decide) (hts _ mw_871) (fun _ h9 => h9) rfl d_MO_act_37 ?_
    refine lv_iload hx hb d_MO_act_40 (lv_at hl 0 rfl) ?_
    refine va_iald hx hb hK hP 7 0 rfl rfl h.1 d_MO_act_42 ?_
    have h := h.2
    refine lv_if_ne (tgt := 50) hx hb d_MO_act_43 (by decide) (fun c43 => ?_) (fun c43 => ?_)
    · have h := h.1 c43
      refine lv_iconst (v := 0) hx hb d_MO_act_50 (by decide) ?_
      exact l_MO_act_51 C0  u3 hactions hwhat hwhere hnumber hdone hregister hmemory hsize hplace hvalue a1 a2 x1 r2 0  H locs ls h (hP.sub [10, 0, 1, 2, 3, 4, 5, 6, 7, 8, 9] rfl) (hD.sub [10, 0, 1, 2, 3, 4, 5, 6, 7, 8, 9] (by decide) rfl) hS (lv_sub hl [2, 3, 4, 1, 0] rfl)
    · have h := h.2 c43
      refine lv_iconst (v := 1) hx hb d_MO_act_46 (by decide) ?_
      refine lv_goto (tgt := 51) hx hb d_MO_act_47 (by decide) ?_
      exact l_MO_act_51 C0  u3 hactions hwhat hwhere hnumber hdone hregister hmemory hsize hplace hvalue a1 a2 x1 r2 1  H locs ls h (hP.sub [10, 0, 1, 2, 3, 4, 5, 6, 7, 8, 9] rfl) (hD.sub [10, 0, 1, 2, 3, 4, 5, 6, 7, 8, 9] (by decide) rfl) hS (lv_sub hl [2, 3, 4, 1, 0] rfl)
  · have h := h.2 c12
    refine lv_iconst (v := 0) hx hb d_MO_act_15 (by decide) ?_
    have hP9 := hP
    have hD9 := hD
    exact W.zret (v := 0) hx hb hr rfl (fun t ht hW => ⟨⟨0, (th, hactions, hwhat, hwhere, hnumber, hdone, hregister, hmemory, hsize, hplace, hvalue), rfl, h, by rw [ht]; exact hP9, va_K.moved hW.alike hK, hD9⟩, hS.F ht⟩) hS.2.2 d_MO_act_16

/-- what OrderMachinesModel.drain(II)Z leaves -/
abbrev jQ_MO_drain (dC : Nat → ClassId) (dI : Nat → Nat → Nat) (cI cJ cZ cQ : ClassId) (A : Nat → Prop) (a_mo a_gmemory a_gsize a_gplace a_gvalue b_actions b_what b_where b_number b_done b_register b_known b_tooMany b_states b_stuck b_outcomes b_front b_behind b_from b_step b_depth b_ends b_endOutcome b_cuts b_soonest b_chain b_next b_row : Nat) (Post : Int32 → Int32 → (Nat → Int32) → (Nat → Int32) → (Nat → Int32) → (Nat → Int32) → Prop) : Array Value → State → Outcome → State → Prop := va_Qi (fun (r : Int32) (u : Int32 × (Nat → Int32) × (Nat → Int32) × (Nat → Int32) × (Nat → Int32)) => Post r u.1 u.2.1 u.2.2.1 u.2.2.2.1 u.2.2.2.2) (fun (u : Int32 × (Nat → Int32) × (Nat → Int32) × (Nat → Int32) × (Nat → Int32)) (t : State) => match u with
  | (th, hmemory, hsize, hplace, hvalue) => jPost (dC, dI) (jT cI cJ cZ cQ) A [(a_mo, .inr (6, [.int th, .ref b_actions, .ref b_what, .ref b_where, .ref b_number, .ref b_done, .ref b_register, .ref a_gmemory, .ref a_gsize, .ref a_gplace, .ref a_gvalue, .ref b_known, .ref b_tooMany, .ref b_states, .ref b_stuck, .ref b_outcomes, .ref b_front, .ref b_behind, .ref b_from, .ref b_step, .ref b_depth, .ref b_ends, .ref b_endOutcome, .ref b_cuts, .ref b_soonest, .ref b_chain, .ref b_next, .ref b_row])), (a_gmemory, .inl (cI, 4, .inl hmemory)), (a_gsize, .inl (cI, 4, .inl hsize)), (a_gplace, .inl (cI, 12, .inl hplace)), (a_gvalue, .inl (cI, 12, .inl hvalue))] t) A
def wp_MO_drain_49 (Post : Int32 → Int32 → (Nat → Int32) → (Nat → Int32) → (Nat → Int32) → (Nat → Int32) → Prop)  : Nat → Int32 → (Nat → Int32) → (Nat → Int32) → (Nat → Int32) → (Nat → Int32) → Int32 → Int32 → Prop
  | 0, _, _, _, _, _, _, _ => False
  | n_49 + 1, th, hmemory, hsize, hplace, hvalue, L1, L3 =>
    vp_in L1 4 ∧ (((hsize L1.toNatClampNeg) ≤ L3 → Post 1 th hmemory hsize hplace hvalue) ∧
    (¬ (hsize L1.toNatClampNeg) ≤ L3 → vp_in (((3 * L1) + L3) + 1) 12 ∧ vp_in ((3 * L1) + L3) 12 ∧ ∀ f3 : Nat → Int32, f3 = upd hplace ((3 * L1) + L3).toNatClampNeg (hplace (((3 * L1) + L3) + 1).toNatClampNeg) → vp_in (((3 * L1) + L3) + 1) 12 ∧ vp_in ((3 * L1) + L3) 12 ∧ ∀ f4 : Nat → Int32, f4 = upd hvalue ((3 * L1) + L3).toNatClampNeg (hvalue (((3 * L1) + L3) + 1).toNatClampNeg) → ∀ x5 : Int32, x5 = L3 + 1 → (wp_MO_drain_49 Post n_49) th hmemory hsize f3 f4 L1 x5))
/-- OrderMachinesModel.drain(II)Z -/
def wp_MO_drain (Post : Int32 → Int32 → (Nat → Int32) → (Nat → Int32) → (Nat → Int32) → (Nat → Int32) → Prop) (th : Int32) (hmemory hsize hplace hvalue : Nat → Int32) (a1 a2 : Int32) : Prop :=
  vp_in a1 4 ∧ ((a2 < (hsize a1.toNatClampNeg) → vp_in ((3 * a1) + a2) 12 ∧ vp_in ((3 * a1) + a2) 12 ∧ vp_in (hplace ((3 * a1) + a2).toNatClampNeg) 4 ∧ ∀ f1 : Nat → Int32, f1 = upd hmemory (hplace ((3 * a1) + a2).toNatClampNeg).toNatClampNeg (hvalue ((3 * a1) + a2).toNatClampNeg) → vp_in a1 4 ∧ vp_in a1 4 ∧ ∀ f2 : Nat → Int32, f2 = upd hsize a1.toNatClampNeg ((hsize a1.toNatClampNeg) - 1) → (∃ n_49 : Nat, wp_MO_drain_49 Post n_49 th f1 f2 hplace hvalue a1 a2)) ∧
  (¬ a2 < (hsize a1.toNatClampNeg) → Post 0 th hmemory hsize hplace hvalue))
set_option maxHeartbeats 4000000 in
set_option maxRecDepth 100000 in
theorem l_MO_drain_49 {p : Program} {l : Launch} {e : Env} {s : State} {m : MethodId} {args : Array Value} {below : List Frame} {meth : Method} {c : Code} {dC : Nat → ClassId} {dI : Nat → Nat → Nat} {cI cJ cZ cQ : ClassId} {a_mo a_gmemory a_gsize a_gplace a_gvalue b_actions b_what b_where b_number b_done b_register b_known b_tooMany b_states b_stuck b_outcomes b_front b_behind b_from b_step b_depth b_ends b_endOutcome b_cuts b_soonest b_chain b_next b_row : Nat} {A : Nat → Prop} {Post : Int32 → Int32 → (Nat → Int32) → (Nat → Int32) → (Nat → Int32) → (Nat → Int32) → Prop} (C0 : jC p l s m args meth c b_MO_drain (some .boolean) 4 R_MO (dC, dI) cI cJ cZ cQ A)  : ∀ n9 : Nat, ∀ (th : Int32) (hmemory hsize hplace hvalue : Nat → Int32) (L1 L3 : Int32), ∀ (H : Heap) (locs : List Loc) (ls : Array Slot), wp_MO_drain_49 Post  n9 th hmemory hsize hplace hvalue L1 L3 → va_P (dC, dI) vwCl [(a_mo, .inr (6, [.int th, .ref b_actions, .ref b_what, .ref b_where, .ref b_number, .ref b_done, .ref b_register, .ref a_gmemory, .ref a_gsize, .ref a_gplace, .ref a_gvalue, .ref b_known, .ref b_tooMany, .ref b_states, .ref b_stuck, .ref b_outcomes, .ref b_front, .ref b_behind, .ref b_from, .ref b_step, .ref b_depth, .ref b_ends, .ref b_endOutcome, .ref b_cuts, .ref b_soonest, .ref b_chain, .ref b_next, .ref b_row])), (a_gmemory, .inl (cI, 4, .inl hmemory)), (a_gsize, .inl (cI, 4, .inl hsize)), (a_gplace, .inl (cI, 12, .inl hplace)), (a_gvalue, .inl (cI, 12, .inl hvalue))] H → va_D A [(a_mo, .inr (6, [.int th, .ref b_actions, .ref b_what, .ref b_where, .ref b_number, .ref b_done, .ref b_register, .ref a_gmemory, .ref a_gsize, .ref a_gplace, .ref a_gvalue, .ref b_known, .ref b_tooMany, .ref b_states, .ref b_stuck, .ref b_outcomes, .ref b_front, .ref b_behind, .ref b_from, .ref b_step, .ref b_depth, .ref b_ends, .ref b_endOutcome, .ref b_cuts, .ref b_soonest, .ref b_chain, .ref b_next, .ref b_row])), (a_gmemory, .inl (cI, 4, .inl hmemory)), (a_gsize, .inl (cI, 4, .inl hsize)), (a_gplace, .inl (cI, 12, .inl hplace)), (a_gvalue, .inl (cI, 12, .inl hvalue))] → va_S A s.heap H locs → lv_has ls 4 [(0, .ref a_mo), (1, .int L1), (3, .int L3)] → W p l e ({ frames := 10, cells := 0, slots := 0, locals := 150 } : Room) s m args below meth c H locs 0 0 (MQ below (jQ_MO_drain dC dI cI cJ cZ cQ A a_mo a_gmemory a_gsize a_gplace a_gvalue b_actions b_what b_where b_number b_done b_register b_known b_tooMany b_states b_stuck b_outcomes b_front b_behind b_from b_step b_depth b_ends b_endOutcome b_cuts b_soonest b_chain b_next b_row Post) args s 0 0 A) (F0 m 49 ls []) := by
  obtain ⟨hx, hb, hr, hml, hown, hts, hlocks, hK, hZ, hA, hst⟩ := id C0
  intro n9
  induction n9 with
  | zero =>
    intro th hmemory hsize hplace hvalue L1 L3 H locs ls h hP hD hS hl
    exact False.elim h
  | succ n_49 ih =>
    intro th hmemory hsize hplace hvalue L1 L3 H locs ls h hP hD hS hl
    rw [wp_MO_drain_49] at h
    refine lv_iload_n hx hb d_MO_drain_49 rfl (lv_at hl 2 rfl) ?_
    refine lv_aload_n hx hb d_MO_drain_50 rfl (lv_at hl 0 rfl) ?_
    refine va_get (D := (dC, dI)) (ci := 6) (v := .ref a_gsize) (C := R_MO) (T := T_MO) (N := 28) hx hb hts in_MO hown hK hP 0 rfl rfl 8 (by decide) (hts _ mw_871) (fun _ h9 => h9) rfl d_MO_drain_51 ?_
    refine lv_iload_n hx hb d_MO_drain_54 rfl (lv_at hl 1 rfl) ?_
    refine va_iald hx hb hK hP 2 0 rfl rfl h.1 d_MO_drain_55 ?_
    have h := h.2
    refine lv_icmp_ge (tgt := 109) hx hb d_MO_drain_56 (by decide) (fun c56 => ?_) (fun c56 => ?_)
    · have h := h.1 c56
      refine lv_iconst (v := 1) hx hb d_MO_drain_109 (by decide) ?_
      have hP9 := hP
      have hD9 := hD
      exact W.zret (v := 1) hx hb hr rfl (fun t ht hW => ⟨⟨1, (th, hmemory, hsize, hplace, hvalue), rfl, h, by rw [ht]; exact hP9, va_K.moved hW.alike hK, hD9⟩, hS.F ht⟩) hS.2.2 d_MO_drain_110
    · have h := h.2 c56
      refine lv_aload_n hx hb d_MO_drain_59 rfl (lv_at hl 0 rfl) ?_
      refine va_get (D := (dC, dI)) (ci := 6) (v := .ref a_gplace) (C := R_MO) (T := T_MO) (N := 28) hx hb hts in_MO hown hK hP 0 rfl rfl 9 (by decide) (hts _ mw_872) (fun _ h9 => h9) rfl d_MO_drain_60 ?_
      refine lv_iconst (v := 3) hx hb d_MO_drain_63 (by decide) ?_
      refine lv_iload_n hx hb d_MO_drain_64 rfl (lv_at hl 1 rfl) ?_
      refine lv_imul hx hb d_MO_drain_65 ?_
      refine lv_iload_n hx hb d_MO_drain_66 rfl (lv_at hl 2 rfl) ?_
      refine lv_iadd hx hb d_MO_drain_67 ?_
      refine lv_aload_n hx hb d_MO_drain_68 rfl (lv_at hl 0 rfl) ?_
      refine va_get (D := (dC, dI)) (ci := 6) (v := .ref a_gplace) (C := R_MO) (T := T_MO) (N := 28) hx hb hts in_MO hown hK hP 0 rfl rfl 9 (by decide) (hts _ mw_872) (fun _ h9 => h9) rfl d_MO_drain_69 ?_
      refine lv_iconst (v := 3) hx hb d_MO_drain_72 (by decide) ?_
      refine lv_iload_n hx hb d_MO_drain_73 rfl (lv_at hl 1 rfl) ?_
      refine lv_imul hx hb d_MO_drain_74 ?_
      refine lv_iload_n hx hb d_MO_drain_75 rfl (lv_at hl 2 rfl) ?_
      refine lv_iadd hx hb d_MO_drain_76 ?_
      refine lv_iconst (v := 1) hx hb d_MO_drain_77 (by decide) ?_
      refine lv_iadd hx hb d_MO_drain_78 ?_
      refine va_iald hx hb hK hP 3 0 rfl rfl h.1 d_MO_drain_79 ?_
      have h := h.2
      refine va_iast hx hb hK hP hD hS 3 0 rfl rfl h.1 d_MO_drain_80 (fun H locs hP hD hS => ?_)
      have h := h.2
      obtain ⟨f3, ef3⟩ : ∃ y : Nat → Int32, y = upd hplace ((3 * L1) + L3).toNatClampNeg (hplace (((3 * L1) + L3) + 1).toNatClampNeg) := ⟨_, rfl⟩
      rw [← ef3] at hP hD
      have h := h f3 ef3
      have hP : va_P (dC, dI) vwCl [(a_mo, .inr (6, [.int th, .ref b_actions, .ref b_what, .ref b_where, .ref b_number, .ref b_done, .ref b_register, .ref a_gmemory, .ref a_gsize, .ref a_gplace, .ref a_gvalue, .ref b_known, .ref b_tooMany, .ref b_states, .ref b_stuck, .ref b_outcomes, .ref b_front, .ref b_behind, .ref b_from, .ref b_step, .ref b_depth, .ref b_ends, .ref b_endOutcome, .ref b_cuts, .ref b_soonest, .ref b_chain, .ref b_next, .ref b_row])), (a_gmemory, .inl (cI, 4, .inl hmemory)), (a_gsize, .inl (cI, 4, .inl hsize)), (a_gplace, .inl (cI, 12, .inl f3)), (a_gvalue, .inl (cI, 12, .inl hvalue))] H := hP
      have hD : va_D A [(a_mo, .inr (6, [.int th, .ref b_actions, .ref b_what, .ref b_where, .ref b_number, .ref b_done, .ref b_register, .ref a_gmemory, .ref a_gsize, .ref a_gplace, .ref a_gvalue, .ref b_known, .ref b_tooMany, .ref b_states, .ref b_stuck, .ref b_outcomes, .ref b_front, .ref b_behind, .ref b_from, .ref b_step, .ref b_depth, .ref b_ends, .ref b_endOutcome, .ref b_cuts, .ref b_soonest, .ref b_chain, .ref b_next, .ref b_row])), (a_gmemory, .inl (cI, 4, .inl hmemory)), (a_gsize, .inl (cI, 4, .inl hsize)), (a_gplace, .inl (cI, 12, .inl f3)), (a_gvalue, .inl (cI, 12, .inl hvalue))] := hD
      refine lv_aload_n hx hb d_MO_drain_81 rfl (lv_at hl 0 rfl) ?_
      refine va_get (D := (dC, dI)) (ci := 6) (v := .ref a_gvalue) (C := R_MO) (T := T_MO) (N := 28) hx hb hts in_MO hown hK hP 0 rfl rfl 10 (by decide) (hts _ mw_873) (fun _ h9 => h9) rfl d_MO_drain_82 ?_
      refine lv_iconst (v := 3) hx hb d_MO_drain_85 (by decide) ?_
      refine lv_iload_n hx hb d_MO_drain_86 rfl (lv_at hl 1 rfl) ?_
      refine lv_imul hx hb d_MO_drain_87 ?_
      refine lv_iload_n hx hb d_MO_drain_88 rfl (lv_at hl 2 rfl) ?_
      refine lv_iadd hx hb d_MO_drain_89 ?_
      refine lv_aload_n hx hb d_MO_drain_90 rfl (lv_at hl 0 rfl) ?_
      refine va_get (D := (dC, dI)) (ci := 6) (v := .ref a_gvalue) (C := R_MO) (T := T_MO) (N := 28) hx hb hts in_MO hown hK hP 0 rfl rfl 10 (by decide) (hts _ mw_873) (fun _ h9 => h9) rfl d_MO_drain_91 ?_
      refine lv_iconst (v := 3) hx hb d_MO_drain_94 (by decide) ?_
      refine lv_iload_n hx hb d_MO_drain_95 rfl (lv_at hl 1 rfl) ?_
      refine lv_imul hx hb d_MO_drain_96 ?_
      refine lv_iload_n hx hb d_MO_drain_97 rfl (lv_at hl 2 rfl) ?_
      refine lv_iadd hx hb d_MO_drain_98 ?_
      refine lv_iconst (v := 1) hx hb d_MO_drain_99 (by decide) ?_
      refine lv_iadd hx hb d_MO_drain_100 ?_
      refine va_iald hx hb hK hP 4 0 rfl rfl h.1 d_MO_drain_101 ?_
      have h := h.2
      refine va_iast hx hb hK hP hD hS 4 0 rfl rfl h.1 d_MO_drain_102 (fun H locs hP hD hS => ?_)
      have h := h.2
      obtain ⟨f4, ef4⟩ : ∃ y : Nat → Int32, y = upd hvalue ((3 * L1) + L3).toNatClampNeg (hvalue (((3 * L1) + L3) + 1).toNatClampNeg) := ⟨_, rfl⟩
      rw [← ef4] at hP hD
      have h := h f4 ef4
      have hP : va_P (dC, dI) vwCl [(a_mo, .inr (6, [.int th, .ref b_actions, .ref b_what, .ref b_where, .ref b_number, .ref b_done, .ref b_register, .ref a_gmemory, .ref a_gsize, .ref a_gplace, .ref a_gvalue, .ref b_known, .ref b_tooMany, .ref b_states, .ref b_stuck, .ref b_outcomes, .ref b_front, .ref b_behind, .ref b_from, .ref b_step, .ref b_depth, .ref b_ends, .ref b_endOutcome, .ref b_cuts, .ref b_soonest, .ref b_chain, .ref b_next, .ref b_row])), (a_gmemory, .inl (cI, 4, .inl hmemory)), (a_gsize, .inl (cI, 4, .inl hsize)), (a_gplace, .inl (cI, 12, .inl f3)), (a_gvalue, .inl (cI, 12, .inl f4))] H := hP
      have hD : va_D A [(a_mo, .inr (6, [.int th, .ref b_actions, .ref b_what, .ref b_where, .ref b_number, .ref b_done, .ref b_register, .ref a_gmemory, .ref a_gsize, .ref a_gplace, .ref a_gvalue, .ref b_known, .ref b_tooMany, .ref b_states, .ref b_stuck, .ref b_outcomes, .ref b_front, .ref b_behind, .ref b_from, .ref b_step, .ref b_depth, .ref b_ends, .ref b_endOutcome, .ref b_cuts, .ref b_soonest, .ref b_chain, .ref b_next, .ref b_row])), (a_gmemory, .inl (cI, 4, .inl hmemory)), (a_gsize, .inl (cI, 4, .inl hsize)), (a_gplace, .inl (cI, 12, .inl f3)), (a_gvalue, .inl (cI, 12, .inl f4))] := hD
      obtain ⟨x5, ex5⟩ : ∃ y : Int32, y = L3 + 1 := ⟨_, rfl⟩
      have h := h x5 ex5
      refine lv_iinc (v := x5) (lv' := [(3, .int x5), (0, .ref a_mo), (1, .int L1)]) hx hb d_MO_drain_103 hl (k := 2) rfl (by rw [ex5]; rfl) (by decide) rfl (fun ls hl => ?_)
      refine lv_goto (tgt := 49) hx hb d_MO_drain_106 (by decide) ?_
      exact ih th hmemory hsize f3 f4 L1 x5  H locs ls h hP hD hS (lv_sub hl [1, 2, 0] rfl)
set_option maxHeartbeats 4000000 in
set_option maxRecDepth 100000 in
theorem c_MO_drain (l : Launch) (dC : Nat → ClassId) (dI : Nat → Nat → Nat) (cI cJ cZ cQ : ClassId) (a_mo a_gmemory a_gsize a_gplace a_gvalue b_actions b_what b_where b_number b_done b_register b_known b_tooMany b_states b_stuck b_outcomes b_front b_behind b_from b_step b_depth b_ends b_endOutcome b_cuts b_soonest b_chain b_next b_row : Nat) (sz : Nat) (th : Int32) (hmemory hsize hplace hvalue : Nat → Int32) (a1 a2 : Int32) (Post : Int32 → Int32 → (Nat → Int32) → (Nat → Int32) → (Nat → Int32) → (Nat → Int32) → Prop) (h : wp_MO_drain Post th hmemory hsize hplace hvalue a1 a2) : Met l y_MO_drain (.code y_MO_drain b_MO_drain 4 (some .boolean) :: jW) ({ frames := 10, cells := 0, slots := 0, locals := 150 } : Room) (jPre l (dC, dI) cI cJ cZ cQ [(a_mo, .inr (6, [.int th, .ref b_actions, .ref b_what, .ref b_where, .ref b_number, .ref b_done, .ref b_register, .ref a_gmemory, .ref a_gsize, .ref a_gplace, .ref a_gvalue, .ref b_known, .ref b_tooMany, .ref b_states, .ref b_stuck, .ref b_outcomes, .ref b_front, .ref b_behind, .ref b_from, .ref b_step, .ref b_depth, .ref b_ends, .ref b_endOutcome, .ref b_cuts, .ref b_soonest, .ref b_chain, .ref b_next, .ref b_row])), (a_gmemory, .inl (cI, 4, .inl hmemory)), (a_gsize, .inl (cI, 4, .inl hsize)), (a_gplace, .inl (cI, 12, .inl hplace)), (a_gvalue, .inl (cI, 12, .inl hvalue))] sz [.ref a_mo, .int a1, .int a2]) (jQ_MO_drain dC dI cI cJ cZ cQ (va_A [(a_mo, .inr (6, [.int th, .ref b_actions, .ref b_what, .ref b_where, .ref b_number, .ref b_done, .ref b_register, .ref a_gmemory, .ref a_gsize, .ref a_gplace, .ref a_gvalue, .ref b_known, .ref b_tooMany, .ref b_states, .ref b_stuck, .ref b_outcomes, .ref b_front, .ref b_behind, .ref b_from, .ref b_step, .ref b_depth, .ref b_ends, .ref b_endOutcome, .ref b_cuts, .ref b_soonest, .ref b_chain, .ref b_next, .ref b_row])), (a_gmemory, .inl (cI, 4, .inl hmemory)), (a_gsize, .inl (cI, 4, .inl hsize)), (a_gplace, .inl (cI, 12, .inl hplace)), (a_gvalue, .inl (cI, 12, .inl hvalue))] sz) a_mo a_gmemory a_gsize a_gplace a_gvalue b_actions b_what b_where b_number b_done b_register b_known b_tooMany b_states b_stuck b_outcomes b_front b_behind b_from b_step b_depth b_ends b_endOutcome b_cuts b_soonest b_chain b_next b_row Post) 0 0 (va_A [(a_mo, .inr (6, [.int th, .ref b_actions, .ref b_what, .ref b_where, .ref b_number, .ref b_done, .ref b_register, .ref a_gmemory, .ref a_gsize, .ref a_gplace, .ref a_gvalue, .ref b_known, .ref b_tooMany, .ref b_states, .ref b_stuck, .ref b_outcomes, .ref b_front, .ref b_behind, .ref b_from, .ref b_step, .ref b_depth, .ref b_ends, .ref b_endOutcome, .ref b_cuts, .ref b_soonest, .ref b_chain, .ref b_next, .ref b_row])), (a_gmemory, .inl (cI, 4, .inl hmemory)), (a_gsize, .inl (cI, 4, .inl hsize)), (a_gplace, .inl (cI, 12, .inl hplace)), (a_gvalue, .inl (cI, 12, .inl hvalue))] sz) := by
  refine Met.ofW (cc := b_MO_drain) (maxL := 4) (ret := (some .boolean)) (by decide) rfl ?_
  intro p e s m args below meth c s₁ B hml hv
  obtain ⟨rfl, hsz, hP, hK, hD0, hZ, hst⟩ := hv
  subst hsz
  have hD := hD0.self (sz := s.heap.size)
  generalize hAe : va_A [(a_mo, .inr (6, [.int th, .ref b_actions, .ref b_what, .ref b_where, .ref b_number, .ref b_done, .ref b_register, .ref a_gmemory, .ref a_gsize, .ref a_gplace, .ref a_gvalue, .ref b_known, .ref b_tooMany, .ref b_states, .ref b_stuck, .ref b_outcomes, .ref b_front, .ref b_behind, .ref b_from, .ref b_step, .ref b_depth, .ref b_ends, .ref b_endOutcome, .ref b_cuts, .ref b_soonest, .ref b_chain, .ref b_next, .ref b_row])), (a_gmemory, .inl (cI, 4, .inl hmemory)), (a_gsize, .inl (cI, 4, .inl hsize)), (a_gplace, .inl (cI, 12, .inl hplace)), (a_gvalue, .inl (cI, 12, .inl hvalue))] s.heap.size = A at hD hZ ⊢
  have hA : ∀ q : Nat, s.heap.size ≤ q → A q := fun q h => by rw [← hAe]; exact Or.inr h
  have C0 : jC p l s m ([.ref a_mo, .int a1, .int a2] : List Value).toArray meth c b_MO_drain (some .boolean) 4 R_MO (dC, dI) cI cJ cZ cQ A := ⟨B.exec, B.bytes, B.returns, hml, findClass_of_methodNamed B.named, fun w hw => atoms_spec (ws := (.code y_MO_drain b_MO_drain 4 (some .boolean) :: jW)) B.pre w (List.mem_cons_of_mem _ hw), B.notSynchronized, hK, hZ, hA, hst⟩
  obtain ⟨hx, hb, hr, hml, hown, hts, hlocks, hK, hZ, hA, hst⟩ := id C0
  have hS : va_S A s.heap s.heap [] := va_S.rf
  have hl := lv_entry ([.ref a_mo, .int a1, .int a2]) (n := 4) (Nat.le_of_ble_eq_true rfl)
  rw [lg_entry_eq]
  generalize (lg_sl ([.ref a_mo, .int a1, .int a2]) ++ List.replicate (4 - (lg_sl ([.ref a_mo, .int a1, .int a2])).length) Slot.unset).toArray = ls at hl ⊢
  have hl : lv_has ls 4 [(0, .ref a_mo), (1, .int a1), (2, .int a2)] := hl
  obtain ⟨H, hH⟩ : ∃ H : Heap, H = s.heap := ⟨_, rfl⟩
  obtain ⟨locs, hlc⟩ : ∃ L : List Loc, L = [] := ⟨_, rfl⟩
  have hP : va_P (dC, dI) vwCl [(a_mo, .inr (6, [.int th, .ref b_actions, .ref b_what, .ref b_where, .ref b_number, .ref b_done, .ref b_register, .ref a_gmemory, .ref a_gsize, .ref a_gplace, .ref a_gvalue, .ref b_known, .ref b_tooMany, .ref b_states, .ref b_stuck, .ref b_outcomes, .ref b_front, .ref b_behind, .ref b_from, .ref b_step, .ref b_depth, .ref b_ends, .ref b_endOutcome, .ref b_cuts, .ref b_soonest, .ref b_chain, .ref b_next, .ref b_row])), (a_gmemory, .inl (cI, 4, .inl hmemory)), (a_gsize, .inl (cI, 4, .inl hsize)), (a_gplace, .inl (cI, 12, .inl hplace)), (a_gvalue, .inl (cI, 12, .inl hvalue))] H := by rw [hH]; exact hP
  have hS : va_S A s.heap H locs := by rw [hH, hlc]; exact hS
  suffices hW9 : W p l e ({ frames := 10, cells := 0, slots := 0, locals := 150 } : Room) s m ([.ref a_mo, .int a1, .int a2] : List Value).toArray below meth c H locs 0 0 (MQ below (jQ_MO_drain dC dI cI cJ cZ cQ A a_mo a_gmemory a_gsize a_gplace a_gvalue b_actions b_what b_where b_number b_done b_register b_known b_tooMany b_states b_stuck b_outcomes b_front b_behind b_from b_step b_depth b_ends b_endOutcome b_cuts b_soonest b_chain b_next b_row Post) ([.ref a_mo, .int a1, .int a2] : List Value).toArray s 0 0 A) (F0 m 0 ls []) by rw [hH, hlc] at hW9; exact hW9
  clear hH hlc
  rw [wp_MO_drain] at h
  refine lv_iload_n hx hb d_MO_drain_0 rfl (lv_at hl 2 rfl) ?_
  refine lv_aload_n hx hb d_MO_drain_1 rfl (lv_at hl 0 rfl) ?_
  refine va_get (D := (dC, dI)) (ci := 6) (v := .ref a_gsize) (C := R_MO) (T := T_MO) (N := 28) hx hb hts in_MO hown hK hP 0 rfl rfl 8 (by decide) (hts _ mw_871) (fun _ h9 => h9) rfl d_MO_drain_2 ?_
  refine lv_iload_n hx hb d_MO_drain_5 rfl (lv_at hl 1 rfl) ?_
  refine va_iald hx hb hK hP 2 0 rfl rfl h.1 d_MO_drain_6 ?_
  have h := h.2
  refine lv_icmp_lt (tgt := 12) hx hb d_MO_drain_7 (by decide) (fun c7 => ?_) (fun c7 => ?_)
  · have h := h.1 c7
    refine lv_aload_n hx hb d_MO_drain_12 rfl (lv_at hl 0 rfl) ?_
    refine va_get (D := (dC, dI)) (ci := 6) (v := .ref a_gmemory) (C := R_MO) (T := T_MO) (N := 28) hx hb hts in_MO hown hK hP 0 rfl rfl 7 (by decide) (hts _ mw_870) (fun _ h9 => h9) rfl d_MO_drain_13 ?_
    refine lv_aload_n hx hb d_MO_drain_16 rfl (lv_at hl 0 rfl) ?_
    refine va_get (D := (dC, dI)) (ci := 6) (v := .ref a_gplace) (C := R_MO) (T := T_MO) (N := 28) hx hb hts in_MO hown hK hP 0 rfl rfl 9 (by decide) (hts _ mw_872) (fun _ h9 => h9) rfl d_MO_drain_17 ?_
    refine lv_iconst (v := 3) hx hb d_MO_drain_20 (by decide) ?_
    refine lv_iload_n hx hb d_MO_drain_21 rfl (lv_at hl 1 rfl) ?_
    refine lv_imul hx hb d_MO_drain_22 ?_
    refine lv_iload_n hx hb d_MO_drain_23 rfl (lv_at hl 2 rfl) ?_
    refine lv_iadd hx hb d_MO_drain_24 ?_
    refine va_iald hx hb hK hP 3 0 rfl rfl h.1 d_MO_drain_25 ?_
    have h := h.2
    refine lv_aload_n hx hb d_MO_drain_26 rfl (lv_at hl 0 rfl) ?_
    refine va_get (D := (dC, dI)) (ci := 6) (v := .ref a_gvalue) (C := R_MO) (T := T_MO) (N := 28) hx hb hts in_MO hown hK hP 0 rfl rfl 10 (by decide) (hts _ mw_873) (fun _ h9 => h9) rfl d_MO_drain_27 ?_
    refine lv_iconst (v := 3) hx hb d_MO_drain_30 (by decide) ?_
    refine lv_iload_n hx hb d_MO_drain_31 rfl (lv_at hl 1 rfl) ?_
    refine lv_imul hx hb d_MO_drain_32 ?_
    refine lv_iload_n hx hb d_MO_drain_33 rfl (lv_at hl 2 rfl) ?_
    refine lv_iadd hx hb d_MO_drain_34 ?_
    refine va_iald hx hb hK hP 4 0 rfl rfl h.1 d_MO_drain_35 ?_
    have h := h.2
    refine va_iast hx hb hK hP hD hS 1 0 rfl rfl h.1 d_MO_drain_36 (fun H locs hP hD hS => ?_)
    have h := h.2
    obtain ⟨f1, ef1⟩ : ∃ y : Nat → Int32, y = upd hmemory (hplace ((3 * a1) + a2).toNatClampNeg).toNatClampNeg (hvalue ((3 * a1) + a2).toNatClampNeg) := ⟨_, rfl⟩
    rw [← ef1] at hP hD
    have h := h f1 ef1
    have hP : va_P (dC, dI) vwCl [(a_mo, .inr (6, [.int th, .ref b_actions, .ref b_what, .ref b_where, .ref b_number, .ref b_done, .ref b_register, .ref a_gmemory, .ref a_gsize, .ref a_gplace, .ref a_gvalue, .ref b_known, .ref b_tooMany, .ref b_states, .ref b_stuck, .ref b_outcomes, .ref b_front, .ref b_behind, .ref b_from, .ref b_step, .ref b_depth, .ref b_ends, .ref b_endOutcome, .ref b_cuts, .ref b_soonest, .ref b_chain, .ref b_next, .ref b_row])), (a_gmemory, .inl (cI, 4, .inl f1)), (a_gsize, .inl (cI, 4, .inl hsize)), (a_gplace, .inl (cI, 12, .inl hplace)), (a_gvalue, .inl (cI, 12, .inl hvalue))] H := hP
    have hD : va_D A [(a_mo, .inr (6, [.int th, .ref b_actions, .ref b_what, .ref b_where, .ref b_number, .ref b_done, .ref b_register, .ref a_gmemory, .ref a_gsize, .ref a_gplace, .ref a_gvalue, .ref b_known, .ref b_tooMany, .ref b_states, .ref b_stuck, .ref b_outcomes, .ref b_front, .ref b_behind, .ref b_from, .ref b_step, .ref b_depth, .ref b_ends, .ref b_endOutcome, .ref b_cuts, .ref b_soonest, .ref b_chain, .ref b_next, .ref b_row])), (a_gmemory, .inl (cI, 4, .inl f1)), (a_gsize, .inl (cI, 4, .inl hsize)), (a_gplace, .inl (cI, 12, .inl hplace)), (a_gvalue, .inl (cI, 12, .inl hvalue))] := hD
    refine lv_aload_n hx hb d_MO_drain_37 rfl (lv_at hl 0 rfl) ?_
    refine va_get (D := (dC, dI)) (ci := 6) (v := .ref a_gsize) (C := R_MO) (T := T_MO) (N := 28) hx hb hts in_MO hown hK hP 0 rfl rfl 8 (by decide) (hts _ mw_871) (fun _ h9 => h9) rfl d_MO_drain_38 ?_
    refine lv_iload_n hx hb d_MO_drain_41 rfl (lv_at hl 1 rfl) ?_
    refine lv_dup2_11 hx hb d_MO_drain_42 rfl rfl ?_
    refine va_iald hx hb hK hP 2 0 rfl rfl h.1 d_MO_drain_43 ?_
    have h := h.2
    refine lv_iconst (v := 1) hx hb d_MO_drain_44 (by decide) ?_
    refine lv_isub hx hb d_MO_drain_45 ?_
    refine va_iast hx hb hK hP hD hS 2 0 rfl rfl h.1 d_MO_drain_46 (fun H locs hP hD hS => ?_)
    have h := h.2
    obtain ⟨f2, ef2⟩ : ∃ y : Nat → Int32, y = upd hsize a1.toNatClampNeg ((hsize a1.toNatClampNeg) - 1) := ⟨_, rfl⟩
    rw [← ef2] at hP hD
    have h := h f2 ef2
    have hP : va_P (dC, dI) vwCl [(a_mo, .inr (6, [.int th, .ref b_actions, .ref b_what, .ref b_where, .ref b_number, .ref b_done, .ref b_register, .ref a_gmemory, .ref a_gsize, .ref a_gplace, .ref a_gvalue, .ref b_known, .ref b_tooMany, .ref b_states, .ref b_stuck, .ref b_outcomes, .ref b_front, .ref b_behind, .ref b_from, .ref b_step, .ref b_depth, .ref b_ends, .ref b_endOutcome, .ref b_cuts, .ref b_soonest, .ref b_chain, .ref b_next, .ref b_row])), (a_gmemory, .inl (cI, 4, .inl f1)), (a_gsize, .inl (cI, 4, .inl f2)), (a_gplace, .inl (cI, 12, .inl hplace)), (a_gvalue, .inl (cI, 12, .inl hvalue))] H := hP
    have hD : va_D A [(a_mo, .inr (6, [.int th, .ref b_actions, .ref b_what, .ref b_where, .ref b_number, .ref b_done, .ref b_register, .ref a_gmemory, .ref a_gsize, .ref a_gplace, .ref a_gvalue, .ref b_known, .ref b_tooMany, .ref b_states, .ref b_stuck, .ref b_outcomes, .ref b_front, .ref b_behind, .ref b_from, .ref b_step, .ref b_depth, .ref b_ends, .ref b_endOutcome, .ref b_cuts, .ref b_soonest, .ref b_chain, .ref b_next, .ref b_row])), (a_gmemory, .inl (cI, 4, .inl f1)), (a_gsize, .inl (cI, 4, .inl f2)), (a_gplace, .inl (cI, 12, .inl hplace)), (a_gvalue, .inl (cI, 12, .inl hvalue))] := hD
    refine lv_iload_n hx hb d_MO_drain_47 rfl (lv_at hl 2 rfl) ?_
    refine lv_istore_n (lv' := [(3, .int a2), (0, .ref a_mo), (1, .int a1), (2, .int a2)]) hx hb d_MO_drain_48 rfl hl (by decide) rfl (fun ls hl => ?_)
    obtain ⟨n_49, h⟩ := h
    exact l_MO_drain_49 C0  n_49 th f1 f2 hplace hvalue a1 a2  H locs ls h hP hD hS (lv_sub hl [1, 2, 0] rfl)
  · have h := h.2 c7
    refine lv_iconst (v := 0) hx hb d_MO_drain_10 (by decide) ?_
    have hP9 := hP
    have hD9 := hD
    exact W.zret (v := 0) hx hb hr rfl (fun t ht hW => ⟨⟨0, (th, hmemory, hsize, hplace, hvalue), rfl, h, by rw [ht]; exact hP9, va_K.moved hW.alike hK, hD9⟩, hS.F ht⟩) hS.2.2 d_MO_drain_11
