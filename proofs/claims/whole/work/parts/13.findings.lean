/-- what OrderMachines$Findings.begin()V leaves -/
abbrev jQ_FI_begin (dC : Nat → ClassId) (dI : Nat → Nat → Nat) (cI cJ cZ cQ : ClassId) (A : Nat → Prop) (a_fi a_ficu : Nat) (Post : Int32 → Int32 → Int32 → Int32 → Int32 → Int32 → Nat → (Nat → Int32) → Nat → (Nat → Int64) → (Nat → Int32) → Prop) : Array Value → State → Outcome → State → Prop := va_Qv (fun (u : Int32 × Int32 × Int32 × Int32 × Int32 × Int32 × Nat × (Nat → Int32) × Nat × (Nat → Int64) × (Nat → Int32)) => Post u.1 u.2.1 u.2.2.1 u.2.2.2.1 u.2.2.2.2.1 u.2.2.2.2.2.1 u.2.2.2.2.2.2.1 u.2.2.2.2.2.2.2.1 u.2.2.2.2.2.2.2.2.1 u.2.2.2.2.2.2.2.2.2.1 u.2.2.2.2.2.2.2.2.2.2) (fun (u : Int32 × Int32 × Int32 × Int32 × Int32 × Int32 × Nat × (Nat → Int32) × Nat × (Nat → Int64) × (Nat → Int32)) (t : State) => match u with
  | (fr, cr, sc, sk, cc, ec, m1, ftr, m2, fen, fcu) => ∃ (a_fitr a_fien : Nat), jPost (dC, dI) (jT cI cJ cZ cQ) A [(a_fi, .inr (3, [.int fr, .int cr, .int sc, .int sk, .int cc, .int ec, .ref a_fitr, .ref a_fien, .ref a_ficu])), (a_fitr, .inl (cI, m1, .inl ftr)), (a_fien, .inl (cJ, m2, .inr (.inl fen))), (a_ficu, .inl (cI, 256, .inl fcu))] t) A
/-- OrderMachines$Findings.begin()V -/
def wp_FI_begin (Post : Int32 → Int32 → Int32 → Int32 → Int32 → Int32 → Nat → (Nat → Int32) → Nat → (Nat → Int64) → (Nat → Int32) → Prop) (fr cr sc sk cc ec : Int32) (m1 : Nat) (ftr : Nat → Int32) (m2 : Nat) (fen : Nat → Int64) (fcu : Nat → Int32) : Prop :=
  wp_JA_fill_aII (fun (u2 : Nat → Int32) => Post 1 0 0 0 0 0 m1 ftr m2 fen u2) 256 fcu (-1)
set_option maxHeartbeats 4000000 in
set_option maxRecDepth 100000 in
theorem c_FI_begin (l : Launch) (dC : Nat → ClassId) (dI : Nat → Nat → Nat) (cI cJ cZ cQ : ClassId) (a_fi a_ficu : Nat) (a_fitr a_fien : Nat) (sz : Nat) (fr cr sc sk cc ec : Int32) (m1 : Nat) (ftr : Nat → Int32) (m2 : Nat) (fen : Nat → Int64) (fcu : Nat → Int32) (Post : Int32 → Int32 → Int32 → Int32 → Int32 → Int32 → Nat → (Nat → Int32) → Nat → (Nat → Int64) → (Nat → Int32) → Prop) (h : wp_FI_begin Post fr cr sc sk cc ec m1 ftr m2 fen fcu) : Met l y_FI_begin (.code y_FI_begin b_FI_begin 1 none :: jW) ({ frames := 11, cells := 0, slots := 0, locals := 173 } : Room) (jPre l (dC, dI) cI cJ cZ cQ [(a_fi, .inr (3, [.int fr, .int cr, .int sc, .int sk, .int cc, .int ec, .ref a_fitr, .ref a_fien, .ref a_ficu])), (a_fitr, .inl (cI, m1, .inl ftr)), (a_fien, .inl (cJ, m2, .inr (.inl fen))), (a_ficu, .inl (cI, 256, .inl fcu))] sz [.ref a_fi]) (jQ_FI_begin dC dI cI cJ cZ cQ (va_A [(a_fi, .inr (3, [.int fr, .int cr, .int sc, .int sk, .int cc, .int ec, .ref a_fitr, .ref a_fien, .ref a_ficu])), (a_fitr, .inl (cI, m1, .inl ftr)), (a_fien, .inl (cJ, m2, .inr (.inl fen))), (a_ficu, .inl (cI, 256, .inl fcu))] sz) a_fi a_ficu Post) 0 0 (va_A [(a_fi, .inr (3, [.int fr, .int cr, .int sc, .int sk, .int cc, .int ec, .ref a_fitr, .ref a_fien, .ref a_ficu])), (a_fitr, .inl (cI, m1, .inl ftr)), (a_fien, .inl (cJ, m2, .inr (.inl fen))), (a_ficu, .inl (cI, 256, .inl fcu))] sz) := by
  refine Met.ofW (cc := b_FI_begin) (maxL := 1) (ret := none) (by decide) rfl ?_
  intro p e s m args below meth c s₁ B hml hv
  obtain ⟨rfl, hsz, hP, hK, hD0, hZ, hst⟩ := hv
  subst hsz
  have hD := hD0.self (sz := s.heap.size)
  generalize hAe : va_A [(a_fi, .inr (3, [.int fr, .int cr, .int sc, .int sk, .int cc, .int ec, .ref a_fitr, .ref a_fien, .ref a_ficu])), (a_fitr, .inl (cI, m1, .inl ftr)), (a_fien, .inl (cJ, m2, .inr (.inl fen))), (a_ficu, .inl (cI, 256, .inl fcu))] s.heap.size = A at hD hZ ⊢
  have hA : ∀ q : Nat, s.heap.size ≤ q → A q := fun q h => by rw [← hAe]; exact Or.inr h
  have C0 : jC p l s m ([.ref a_fi] : List Value).toArray meth c b_FI_begin none 1 R_FI (dC, dI) cI cJ cZ cQ A := ⟨B.exec, B.bytes, B.returns, hml, findClass_of_methodNamed B.named, fun w hw => atoms_spec (ws := (.code y_FI_begin b_FI_begin 1 none :: jW)) B.pre w (List.mem_cons_of_mem _ hw), B.notSynchronized, hK, hZ, hA, hst⟩
  obtain ⟨hx, hb, hr, hml, hown, hts, hlocks, hK, hZ, hA, hst⟩ := id C0
  have hS : va_S A s.heap s.heap [] := va_S.rf
  have hl := lv_entry ([.ref a_fi]) (n := 1) (Nat.le_of_ble_eq_true rfl)
  rw [lg_entry_eq]
  generalize (lg_sl ([.ref a_fi]) ++ List.replicate (1 - (lg_sl ([.ref a_fi])).length) Slot.unset).toArray = ls at hl ⊢
  have hl : lv_has ls 1 [(0, .ref a_fi)] := hl
  obtain ⟨H, hH⟩ : ∃ H : Heap, H = s.heap := ⟨_, rfl⟩
  obtain ⟨locs, hlc⟩ : ∃ L : List Loc, L = [] := ⟨_, rfl⟩
  have hP : va_P (dC, dI) vwCl [(a_fi, .inr (3, [.int fr, .int cr, .int sc, .int sk, .int cc, .int ec, .ref a_fitr, .ref a_fien, .ref a_ficu])), (a_fitr, .inl (cI, m1, .inl ftr)), (a_fien, .inl (cJ, m2, .inr (.inl fen))), (a_ficu, .inl (cI, 256, .inl fcu))] H := by rw [hH]; exact hP
  have hS : va_S A s.heap H locs := by rw [hH, hlc]; exact hS
  suffices hW9 : W p l e ({ frames := 11, cells := 0, slots := 0, locals := 173 } : Room) s m ([.ref a_fi] : List Value).toArray below meth c H locs 0 0 (MQ below (jQ_FI_begin dC dI cI cJ cZ cQ A a_fi a_ficu Post) ([.ref a_fi] : List Value).toArray s 0 0 A) (F0 m 0 ls []) by rw [hH, hlc] at hW9; exact hW9
  clear hH hlc
  rw [wp_FI_begin] at h
  refine lv_aload_n hx hb d_FI_begin_0 rfl (lv_at hl 0 rfl) ?_
  refine lv_iconst (v := 1) hx hb d_FI_begin_1 (by decide) ?_
  refine va_put (D := (dC, dI)) (ci := 3) (v := .int 1) (ty := .boolean) (C := R_FI) (T := T_FI) (N := 9) hx hb hts in_FI ty_FI tok_FI nm_FI hown hK hP hD hS 0 rfl rfl 0 (by decide) (hts _ mw_125) (fun _ h9 => h9) rfl (by decide +kernel) rfl rfl (Nat.le_of_ble_eq_true rfl) d_FI_begin_2 (fun H locs hP hD hS => ?_)
  have hP : va_P (dC, dI) vwCl [(a_fi, .inr (3, [.int 1, .int cr, .int sc, .int sk, .int cc, .int ec, .ref a_fitr, .ref a_fien, .ref a_ficu])), (a_fitr, .inl (cI, m1, .inl ftr)), (a_fien, .inl (cJ, m2, .inr (.inl fen))), (a_ficu, .inl (cI, 256, .inl fcu))] H := hP
  have hD : va_D A [(a_fi, .inr (3, [.int 1, .int cr, .int sc, .int sk, .int cc, .int ec, .ref a_fitr, .ref a_fien, .ref a_ficu])), (a_fitr, .inl (cI, m1, .inl ftr)), (a_fien, .inl (cJ, m2, .inr (.inl fen))), (a_ficu, .inl (cI, 256, .inl fcu))] := hD
  refine lv_aload_n hx hb d_FI_begin_5 rfl (lv_at hl 0 rfl) ?_
  refine lv_iconst (v := 0) hx hb d_FI_begin_6 (by decide) ?_
  refine va_put (D := (dC, dI)) (ci := 3) (v := .int 0) (ty := .boolean) (C := R_FI) (T := T_FI) (N := 9) hx hb hts in_FI ty_FI tok_FI nm_FI hown hK hP hD hS 0 rfl rfl 1 (by decide) (hts _ mw_127) (fun _ h9 => h9) rfl (by decide +kernel) rfl rfl (Nat.le_of_ble_eq_true rfl) d_FI_begin_7 (fun H locs hP hD hS => ?_)
  have hP : va_P (dC, dI) vwCl [(a_fi, .inr (3, [.int 1, .int 0, .int sc, .int sk, .int cc, .int ec, .ref a_fitr, .ref a_fien, .ref a_ficu])), (a_fitr, .inl (cI, m1, .inl ftr)), (a_fien, .inl (cJ, m2, .inr (.inl fen))), (a_ficu, .inl (cI, 256, .inl fcu))] H := hP
  have hD : va_D A [(a_fi, .inr (3, [.int 1, .int 0, .int sc, .int sk, .int cc, .int ec, .ref a_fitr, .ref a_fien, .ref a_ficu])), (a_fitr, .inl (cI, m1, .inl ftr)), (a_fien, .inl (cJ, m2, .inr (.inl fen))), (a_ficu, .inl (cI, 256, .inl fcu))] := hD
  refine lv_aload_n hx hb d_FI_begin_10 rfl (lv_at hl 0 rfl) ?_
  refine lv_iconst (v := 0) hx hb d_FI_begin_11 (by decide) ?_
  refine va_put (D := (dC, dI)) (ci := 3) (v := .int 0) (ty := .int) (C := R_FI) (T := T_FI) (N := 9) hx hb hts in_FI ty_FI tok_FI nm_FI hown hK hP hD hS 0 rfl rfl 2 (by decide) (hts _ mw_130) (fun _ h9 => h9) rfl (by decide +kernel) rfl rfl (Nat.le_of_ble_eq_true rfl) d_FI_begin_12 (fun H locs hP hD hS => ?_)
  have hP : va_P (dC, dI) vwCl [(a_fi, .inr (3, [.int 1, .int 0, .int 0, .int sk, .int cc, .int ec, .ref a_fitr, .ref a_fien, .ref a_ficu])), (a_fitr, .inl (cI, m1, .inl ftr)), (a_fien, .inl (cJ, m2, .inr (.inl fen))), (a_ficu, .inl (cI, 256, .inl fcu))] H := hP
  have hD : va_D A [(a_fi, .inr (3, [.int 1, .int 0, .int 0, .int sk, .int cc, .int ec, .ref a_fitr, .ref a_fien, .ref a_ficu])), (a_fitr, .inl (cI, m1, .inl ftr)), (a_fien, .inl (cJ, m2, .inr (.inl fen))), (a_ficu, .inl (cI, 256, .inl fcu))] := hD
  refine lv_aload_n hx hb d_FI_begin_15 rfl (lv_at hl 0 rfl) ?_
  refine lv_iconst (v := 0) hx hb d_FI_begin_16 (by decide) ?_
  refine va_put (D := (dC, dI)) (ci := 3) (v := .int 0) (ty := .int) (C := R_FI) (T := T_FI) (N := 9) hx hb hts in_FI ty_FI tok_FI nm_FI hown hK hP hD hS 0 rfl rfl 3 (by decide) (hts _ mw_132) (fun _ h9 => h9) rfl (by decide +kernel) rfl rfl (Nat.le_of_ble_eq_true rfl) d_FI_begin_17 (fun H locs hP hD hS => ?_)
  have hP : va_P (dC, dI) vwCl [(a_fi, .inr (3, [.int 1, .int 0, .int 0, .int 0, .int cc, .int ec, .ref a_fitr, .ref a_fien, .ref a_ficu])), (a_fitr, .inl (cI, m1, .inl ftr)), (a_fien, .inl (cJ, m2, .inr (.inl fen))), (a_ficu, .inl (cI, 256, .inl fcu))] H := hP
  have hD : va_D A [(a_fi, .inr (3, [.int 1, .int 0, .int 0, .int 0, .int cc, .int ec, .ref a_fitr, .ref a_fien, .ref a_ficu])), (a_fitr, .inl (cI, m1, .inl ftr)), (a_fien, .inl (cJ, m2, .inr (.inl fen))), (a_ficu, .inl (cI, 256, .inl fcu))] := hD
  refine lv_aload_n hx hb d_FI_begin_20 rfl (lv_at hl 0 rfl) ?_
  refine lv_iconst (v := 0) hx hb d_FI_begin_21 (by decide) ?_
  refine va_put (D := (dC, dI)) (ci := 3) (v := .int 0) (ty := .int) (C := R_FI) (T := T_FI) (N := 9) hx hb hts in_FI ty_FI tok_FI nm_FI hown hK hP hD hS 0 rfl rfl 4 (by decide) (hts _ mw_135) (fun _ h9 => h9) rfl (by decide +kernel) rfl rfl (Nat.le_of_ble_eq_true rfl) d_FI_begin_22 (fun H locs hP hD hS => ?_)
  have hP : va_P (dC, dI) vwCl [(a_fi, .inr (3, [.int 1, .int 0, .int 0, .int 0, .int 0, .int ec, .ref a_fitr, .ref a_fien, .ref a_ficu])), (a_fitr, .inl (cI, m1, .inl ftr)), (a_fien, .inl (cJ, m2, .inr (.inl fen))), (a_ficu, .inl (cI, 256, .inl fcu))] H := hP
  have hD : va_D A [(a_fi, .inr (3, [.int 1, .int 0, .int 0, .int 0, .int 0, .int ec, .ref a_fitr, .ref a_fien, .ref a_ficu])), (a_fitr, .inl (cI, m1, .inl ftr)), (a_fien, .inl (cJ, m2, .inr (.inl fen))), (a_ficu, .inl (cI, 256, .inl fcu))] := hD
  refine lv_aload_n hx hb d_FI_begin_25 rfl (lv_at hl 0 rfl) ?_
  refine lv_iconst (v := 0) hx hb d_FI_begin_26 (by decide) ?_
  refine va_put (D := (dC, dI)) (ci := 3) (v := .int 0) (ty := .int) (C := R_FI) (T := T_FI) (N := 9) hx hb hts in_FI ty_FI tok_FI nm_FI hown hK hP hD hS 0 rfl rfl 5 (by decide) (hts _ mw_137) (fun _ h9 => h9) rfl (by decide +kernel) rfl rfl (Nat.le_of_ble_eq_true rfl) d_FI_begin_27 (fun H locs hP hD hS => ?_)
  have hP : va_P (dC, dI) vwCl [(a_fi, .inr (3, [.int 1, .int 0, .int 0, .int 0, .int 0, .int 0, .ref a_fitr, .ref a_fien, .ref a_ficu])), (a_fitr, .inl (cI, m1, .inl ftr)), (a_fien, .inl (cJ, m2, .inr (.inl fen))), (a_ficu, .inl (cI, 256, .inl fcu))] H := hP
  have hD : va_D A [(a_fi, .inr (3, [.int 1, .int 0, .int 0, .int 0, .int 0, .int 0, .ref a_fitr, .ref a_fien, .ref a_ficu])), (a_fitr, .inl (cI, m1, .inl ftr)), (a_fien, .inl (cJ, m2, .inr (.inl fen))), (a_ficu, .inl (cI, 256, .inl fcu))] := hD
  refine lv_aload_n hx hb d_FI_begin_30 rfl (lv_at hl 0 rfl) ?_
  refine va_get (D := (dC, dI)) (ci := 3) (v := .ref a_ficu) (C := R_FI) (T := T_FI) (N := 9) hx hb hts in_FI hown hK hP 0 rfl rfl 8 (by decide) (hts _ mw_141) (fun _ h9 => h9) rfl d_FI_begin_31 ?_
  refine lv_iconst (v := (-1)) hx hb d_FI_begin_34 (by decide) ?_
  have hPc := hP.sub (ws' := [(a_ficu, .inl (cI, 256, .inl fcu))]) [3] rfl
  have hDc := hD.sub (ws' := [(a_ficu, .inl (cI, 256, .inl fcu))]) [3] (by decide) rfl
  have hFc := va_free (wc := [(a_ficu, .inl (cI, 256, .inl fcu))]) hD hS hA [3] rfl
  refine va_callv (va_runS (As := [.ref a_ficu, .int (-1)]) (rest := []) ⟨hx, hb, hml, hown, hts⟩ (c_JA_fill_aII l dC dI cI cJ cZ cQ a_ficu 256 H.size fcu (-1) _  h) (va_cwS 2 hts (goodIn_app (jGl (List.forall_mem_cons.mpr ⟨mw_615, List.forall_mem_cons.mpr ⟨mw_180, List.forall_mem_cons.mpr ⟨mw_13, fun _ h => absurd h List.not_mem_nil⟩⟩⟩)) (jG mw_181)) rfl rfl rfl (by decide +kernel) ⟨Nat.le_of_ble_eq_true rfl, Nat.le_of_ble_eq_true rfl⟩) ⟨jPre_blind, jPre_in hPc hK hDc hZ hS hFc hst⟩ rfl rfl hl.1 rfl (lv_room (Nat.le_of_ble_eq_true rfl)) d_FI_begin_35 ⟨(Nat.zero_le _), (Nat.zero_le _)⟩) hS (fun q _ h => hFc q h) hFc (fun u t H1 locs ht hvm hw hB hz1 hk1 hS => ?_)
  obtain ⟨u2, rfl⟩ : ∃ z, z = u := ⟨_, rfl⟩
  obtain ⟨hP1, hK1, hD1⟩ := hB
  rw [ht] at hP1
  have h := hw
  obtain ⟨hP, hD⟩ := va_join (wr := [(a_fi, .inr (3, [.int 1, .int 0, .int 0, .int 0, .int 0, .int 0, .ref a_fitr, .ref a_fien, .ref a_ficu])), (a_fitr, .inl (cI, m1, .inl ftr)), (a_fien, .inl (cJ, m2, .inr (.inl fen)))]) (w1 := [(a_ficu, .inl (cI, 256, .inl u2))]) hP hD [3] [0, 1, 2] rfl rfl (by decide) (by decide) hk1 hFc hP1 hD1
  generalize H1 = H at hP hS ⊢
  have hP : va_P (dC, dI) vwCl [(a_fi, .inr (3, [.int 1, .int 0, .int 0, .int 0, .int 0, .int 0, .ref a_fitr, .ref a_fien, .ref a_ficu])), (a_fitr, .inl (cI, m1, .inl ftr)), (a_fien, .inl (cJ, m2, .inr (.inl fen))), (a_ficu, .inl (cI, 256, .inl u2))] H := hP
  have hD : va_D A [(a_fi, .inr (3, [.int 1, .int 0, .int 0, .int 0, .int 0, .int 0, .ref a_fitr, .ref a_fien, .ref a_ficu])), (a_fitr, .inl (cI, m1, .inl ftr)), (a_fien, .inl (cJ, m2, .inr (.inl fen))), (a_ficu, .inl (cI, 256, .inl u2))] := hD
  have hP9 := hP
  have hD9 := hD
  exact W.vret hx hb hr (fun t ht hW => ⟨⟨(1, 0, 0, 0, 0, 0, m1, ftr, m2, fen, u2), rfl, h, a_fitr, a_fien, by rw [ht]; exact hP9, va_K.moved hW.alike hK, hD9⟩, hS.F ht⟩) hS.2.2 d_FI_begin_38

/-- what OrderMachines$Findings.addState(II)V leaves -/
abbrev jQ_FI_addState (dC : Nat → ClassId) (dI : Nat → Nat → Nat) (cI cJ cZ cQ : ClassId) (A : Nat → Prop) (a_fi a_ficu : Nat) (Post : Int32 → Int32 → Int32 → Int32 → Int32 → Int32 → Nat → (Nat → Int32) → Nat → (Nat → Int64) → (Nat → Int32) → Prop) : Array Value → State → Outcome → State → Prop := va_Qv (fun (u : Int32 × Int32 × Int32 × Int32 × Int32 × Int32 × Nat × (Nat → Int32) × Nat × (Nat → Int64) × (Nat → Int32)) => Post u.1 u.2.1 u.2.2.1 u.2.2.2.1 u.2.2.2.2.1 u.2.2.2.2.2.1 u.2.2.2.2.2.2.1 u.2.2.2.2.2.2.2.1 u.2.2.2.2.2.2.2.2.1 u.2.2.2.2.2.2.2.2.2.1 u.2.2.2.2.2.2.2.2.2.2) (fun (u : Int32 × Int32 × Int32 × Int32 × Int32 × Int32 × Nat × (Nat → Int32) × Nat × (Nat → Int64) × (Nat → Int32)) (t : State) => match u with
  | (fr, cr, sc, sk, cc, ec, m1, ftr, m2, fen, fcu) => ∃ (a_fitr a_fien : Nat), jPost (dC, dI) (jT cI cJ cZ cQ) A [(a_fi, .inr (3, [.int fr, .int cr, .int sc, .int sk, .int cc, .int ec, .ref a_fitr, .ref a_fien, .ref a_ficu])), (a_fitr, .inl (cI, m1, .inl ftr)), (a_fien, .inl (cJ, m2, .inr (.inl fen))), (a_ficu, .inl (cI, 256, .inl fcu))] t) A
def wp_FI_addState_37 (Post : Int32 → Int32 → Int32 → Int32 → Int32 → Int32 → Nat → (Nat → Int32) → Nat → (Nat → Int64) → (Nat → Int32) → Prop) (mc ms : Nat)  (fr cr sc sk cc ec : Int32) (m1 : Nat) (ftr : Nat → Int32) (m2 : Nat) (fen : Nat → Int64) (fcu : Nat → Int32) (L1 L2 : Int32) (ca sa : Nat) : Prop :=
    (((Int32.ofNat m1) ≤ sc → ca ≤ mc ∧ sa ≤ ms ∧ Post fr cr sc sk cc ec m1 ftr m2 fen fcu) ∧
  (¬ (Int32.ofNat m1) ≤ sc → vp_in sc m1 ∧ ∀ f8 : Nat → Int32, f8 = upd ftr sc.toNatClampNeg ((L1 <<< (5 &&& 31)) ||| L2) → ∀ x9 : Int32, x9 = sc + 1 → ca ≤ mc ∧ sa ≤ ms ∧ Post fr cr x9 sk cc ec m1 f8 m2 fen fcu))
/-- OrderMachines$Findings.addState(II)V -/
def wp_FI_addState (Post : Int32 → Int32 → Int32 → Int32 → Int32 → Int32 → Nat → (Nat → Int32) → Nat → (Nat → Int64) → (Nat → Int32) → Prop) (mc ms : Nat) (fr cr sc sk cc ec : Int32) (m1 : Nat) (ftr : Nat → Int32) (m2 : Nat) (fen : Nat → Int64) (fcu : Nat → Int32) (fm st : Int32) : Prop :=
  ((sc < (Int32.ofNat m1) → wp_FI_addState_37 Post mc ms fr cr sc sk cc ec m1 ftr m2 fen fcu fm st 0 0) ∧
  (¬ sc < (Int32.ofNat m1) → 0 ≤ mc ∧ 0 ≤ ms ∧ ∃ mg5 sg6 : Nat, 0 + mg5 ≤ mc ∧ 0 + sg6 ≤ ms ∧ wp_JA_copyOf_aII (fun (u2 : Nat) (u3 : Nat → Int32) (u4 : Nat → Int32) => wp_FI_addState_37 Post mc ms fr cr sc sk cc ec u2 u3 m2 fen fcu fm st (0 + mg5) (0 + sg6)) mg5 sg6 m1 ftr (if ((Int32.ofNat m1) * 8) < 12000 then ((Int32.ofNat m1) * 8) else 12000)))
set_option maxHeartbeats 4000000 in
set_option maxRecDepth 100000 in
theorem l_FI_addState_37 {p : Program} {l : Launch} {e : Env} {s : State} {m : MethodId} {args : Array Value} {below : List Frame} {meth : Method} {c : Code} {dC : Nat → ClassId} {dI : Nat → Nat → Nat} {cI cJ cZ cQ : ClassId} {a_fi a_ficu : Nat} {A : Nat → Prop} {Post : Int32 → Int32 → Int32 → Int32 → Int32 → Int32 → Nat → (Nat → Int32) → Nat → (Nat → Int64) → (Nat → Int32) → Prop} {mc ms : Nat} (C0 : jC p l s m args meth c b_FI_addState none 3 R_FI (dC, dI) cI cJ cZ cQ A)  : ∀ (fr cr sc sk cc ec : Int32) (m1 : Nat) (ftr : Nat → Int32) (m2 : Nat) (fen : Nat → Int64) (fcu : Nat → Int32) (L1 L2 : Int32) (ca sa : Nat), ∀ (a_fitr a_fien : Nat), ∀ (H : Heap) (locs : List Loc) (ls : Array Slot), wp_FI_addState_37 Post mc ms  fr cr sc sk cc ec m1 ftr m2 fen fcu L1 L2 ca sa → va_P (dC, dI) vwCl [(a_fi, .inr (3, [.int fr, .int cr, .int sc, .int sk, .int cc, .int ec, .ref a_fitr, .ref a_fien, .ref a_ficu])), (a_fitr, .inl (cI, m1, .inl ftr)), (a_fien, .inl (cJ, m2, .inr (.inl fen))), (a_ficu, .inl (cI, 256, .inl fcu))] H → va_D A [(a_fi, .inr (3, [.int fr, .int cr, .int sc, .int sk, .int cc, .int ec, .ref a_fitr, .ref a_fien, .ref a_ficu])), (a_fitr, .inl (cI, m1, .inl ftr)), (a_fien, .inl (cJ, m2, .inr (.inl fen))), (a_ficu, .inl (cI, 256, .inl fcu))] → va_S A s.heap H locs → lv_has ls 3 [(0, .ref a_fi), (1, .int L1), (2, .int L2)] → W p l e ({ frames := 11, cells := mc, slots := ms, locals := 172 } : Room) s m args below meth c H locs ca sa (MQ below (jQ_FI_addState dC dI cI cJ cZ cQ A a_fi a_ficu Post) args s mc ms A) (F0 m 37 ls []) := by
  obtain ⟨hx, hb, hr, hml, hown, hts, hlocks, hK, hZ, hA, hst⟩ := id C0
  intro fr cr sc sk cc ec m1 ftr m2 fen fcu L1 L2 ca sa a_fitr a_fien H locs ls h hP hD hS hl
  rw [wp_FI_addState_37] at h
  refine lv_aload_n hx hb d_FI_addState_37 rfl (lv_at hl 0 rfl) ?_
  refine va_get (D := (dC, dI)) (ci := 3) (v := .int sc) (C := R_FI) (T := T_FI) (N := 9) hx hb hts in_FI hown hK hP 0 rfl rfl 2 (by decide) (hts _ mw_130) (fun _ h9 => h9) rfl d_FI_addState_38 ?_
  refine lv_aload_n hx hb d_FI_addState_41 rfl (lv_at hl 0 rfl) ?_
  refine va_get (D := (dC, dI)) (ci := 3) (v := .ref a_fitr) (C := R_FI) (T := T_FI) (N := 9) hx hb hts in_FI hown hK hP 0 rfl rfl 6 (by decide) (hts _ mw_139) (fun _ h9 => h9) rfl d_FI_addState_42 ?_
  refine va_alen hx hb hK hP 1 0 (ty := .int) rfl rfl (v := Int32.ofNat m1) rfl d_FI_addState_45 ?_
  refine lv_icmp_ge (tgt := 73) hx hb d_FI_addState_46 (by decide) (fun c46 => ?_) (fun c46 => ?_)
  · have h := h.1 c46
    refine W.widen (k := mc) (n := ms) h.1 h.2.1 ?_
    have h := h.2.2
    have hP9 := hP
    have hD9 := hD
    exact W.vret hx hb hr (fun t ht hW => ⟨⟨(fr, cr, sc, sk, cc, ec, m1, ftr, m2, fen, fcu), rfl, h, a_fitr, a_fien, by rw [ht]; exact hP9, va_K.moved hW.alike hK, hD9⟩, hS.F ht⟩) hS.2.2 d_FI_addState_73
  · have h := h.2 c46
    refine lv_aload_n hx hb d_FI_addState_49 rfl (lv_at hl 0 rfl) ?_
    refine va_get (D := (dC, dI)) (ci := 3) (v := .ref a_fitr) (C := R_FI) (T := T_FI) (N := 9) hx hb hts in_FI hown hK hP 0 rfl rfl 6 (by decide) (hts _ mw_139) (fun _ h9 => h9) rfl d_FI_addState_50 ?_
    refine lv_aload_n hx hb d_FI_addState_53 rfl (lv_at hl 0 rfl) ?_
    refine va_get (D := (dC, dI)) (ci := 3) (v := .int sc) (C := R_FI) (T := T_FI) (N := 9) hx hb hts in_FI hown hK hP 0 rfl rfl 2 (by decide) (hts _ mw_130) (fun _ h9 => h9) rfl d_FI_addState_54 ?_
    refine lv_iload_n hx hb d_FI_addState_57 rfl (lv_at hl 1 rfl) ?_
    refine lv_iconst (v := 5) hx hb d_FI_addState_58 (by decide) ?_
    refine lv_ishl hx hb d_FI_addState_59 ?_
    refine lv_iload_n hx hb d_FI_addState_60 rfl (lv_at hl 2 rfl) ?_
    refine lv_ior hx hb d_FI_addState_61 ?_
    refine va_iast hx hb hK hP hD hS 1 0 rfl rfl h.1 d_FI_addState_62 (fun H locs hP hD hS => ?_)
    have h := h.2
    obtain ⟨f8, ef8⟩ : ∃ y : Nat → Int32, y = upd ftr sc.toNatClampNeg ((L1 <<< (5 &&& 31)) ||| L2) := ⟨_, rfl⟩
    rw [← ef8] at hP hD
    have h := h f8 ef8
    have hP : va_P (dC, dI) vwCl [(a_fi, .inr (3, [.int fr, .int cr, .int sc, .int sk, .int cc, .int ec, .ref a_fitr, .ref a_fien, .ref a_ficu])), (a_fitr, .inl (cI, m1, .inl f8)), (a_fien, .inl (cJ, m2, .inr (.inl fen))), (a_ficu, .inl (cI, 256, .inl fcu))] H := hP
    have hD : va_D A [(a_fi, .inr (3, [.int fr, .int cr, .int sc, .int sk, .int cc, .int ec, .ref a_fitr, .ref a_fien, .ref a_ficu])), (a_fitr, .inl (cI, m1, .inl f8)), (a_fien, .inl (cJ, m2, .inr (.inl fen))), (a_ficu, .inl (cI, 256, .inl fcu))] := hD
    refine lv_aload_n hx hb d_FI_addState_63 rfl (lv_at hl 0 rfl) ?_
    refine lv_dup hx hb d_FI_addState_64 rfl ?_
    refine va_get (D := (dC, dI)) (ci := 3) (v := .int sc) (C := R_FI) (T := T_FI) (N := 9) hx hb hts in_FI hown hK hP 0 rfl rfl 2 (by decide) (hts _ mw_130) (fun _ h9 => h9) rfl d_FI_addState_65 ?_
    refine lv_iconst (v := 1) hx hb d_FI_addState_68 (by decide) ?_
    refine lv_iadd hx hb d_FI_addState_69 ?_
    refine lv_topi (fun x9 ex9 => ?_)
    have h := h x9 ex9
    refine va_put (D := (dC, dI)) (ci := 3) (v := .int x9) (ty := .int) (C := R_FI) (T := T_FI) (N := 9) hx hb hts in_FI ty_FI tok_FI nm_FI hown hK hP hD hS 0 rfl rfl 2 (by decide) (hts _ mw_130) (fun _ h9 => h9) rfl (by decide +kernel) rfl rfl (Nat.le_of_ble_eq_true rfl) d_FI_addState_70 (fun H locs hP hD hS => ?_)
    have hP : va_P (dC, dI) vwCl [(a_fi, .inr (3, [.int fr, .int cr, .int x9, .int sk, .int cc, .int ec, .ref a_fitr, .ref a_fien, .ref a_ficu])), (a_fitr, .inl (cI, m1, .inl f8)), (a_fien, .inl (cJ, m2, .inr (.inl fen))), (a_ficu, .inl (cI, 256, .inl fcu))] H := hP
    have hD : va_D A [(a_fi, .inr (3, [.int fr, .int cr, .int x9, .int sk, .int cc, .int ec, .ref a_fitr, .ref a_fien, .ref a_ficu])), (a_fitr, .inl (cI, m1, .inl f8)), (a_fien, .inl (cJ, m2, .inr (.inl fen))), (a_ficu, .inl (cI, 256, .inl fcu))] := hD
    refine W.widen (k := mc) (n := ms) h.1 h.2.1 ?_
    have h := h.2.2
    have hP9 := hP
    have hD9 := hD
    exact W.vret hx hb hr (fun t ht hW => ⟨⟨(fr, cr, x9, sk, cc, ec, m1, f8, m2, fen, fcu), rfl, h, a_fitr, a_fien, by rw [ht]; exact hP9, va_K.moved hW.alike hK, hD9⟩, hS.F ht⟩) hS.2.2 d_FI_addState_73
set_option maxHeartbeats 4000000 in
set_option maxRecDepth 100000 in
theorem c_FI_addState (l : Launch) (dC : Nat → ClassId) (dI : Nat → Nat → Nat) (cI cJ cZ cQ : ClassId) (a_fi a_ficu : Nat) (a_fitr a_fien : Nat) (sz : Nat) (fr cr sc sk cc ec : Int32) (m1 : Nat) (ftr : Nat → Int32) (m2 : Nat) (fen : Nat → Int64) (fcu : Nat → Int32) (fm st : Int32) (mc ms : Nat) (Post : Int32 → Int32 → Int32 → Int32 → Int32 → Int32 → Nat → (Nat → Int32) → Nat → (Nat → Int64) → (Nat → Int32) → Prop) (h : wp_FI_addState Post mc ms fr cr sc sk cc ec m1 ftr m2 fen fcu fm st) : Met l y_FI_addState (.code y_FI_addState b_FI_addState 3 none :: jW) ({ frames := 11, cells := mc, slots := ms, locals := 172 } : Room) (jPre l (dC, dI) cI cJ cZ cQ [(a_fi, .inr (3, [.int fr, .int cr, .int sc, .int sk, .int cc, .int ec, .ref a_fitr, .ref a_fien, .ref a_ficu])), (a_fitr, .inl (cI, m1, .inl ftr)), (a_fien, .inl (cJ, m2, .inr (.inl fen))), (a_ficu, .inl (cI, 256, .inl fcu))] sz [.ref a_fi, .int fm, .int st]) (jQ_FI_addState dC dI cI cJ cZ cQ (va_A [(a_fi, .inr (3, [.int fr, .int cr, .int sc, .int sk, .int cc, .int ec, .ref a_fitr, .ref a_fien, .ref a_ficu])), (a_fitr, .inl (cI, m1, .inl ftr)), (a_fien, .inl (cJ, m2, .inr (.inl fen))), (a_ficu, .inl (cI, 256, .inl fcu))] sz) a_fi a_ficu Post) mc ms (va_A [(a_fi, .inr (3, [.int fr, .int cr, .int sc, .int sk, .int cc, .int ec, .ref a_fitr, .ref a_fien, .ref a_ficu])), (a_fitr, .inl (cI, m1, .inl ftr)), (a_fien, .inl (cJ, m2, .inr (.inl fen))), (a_ficu, .inl (cI, 256, .inl fcu))] sz) := by
  refine Met.ofW (cc := b_FI_addState) (maxL := 3) (ret := none) (by decide) rfl ?_
  intro p e s m args below meth c s₁ B hml hv
  obtain ⟨rfl, hsz, hP, hK, hD0, hZ, hst⟩ := hv
  subst hsz
  have hD := hD0.self (sz := s.heap.size)
  generalize hAe : va_A [(a_fi, .inr (3, [.int fr, .int cr, .int sc, .int sk, .int cc, .int ec, .ref a_fitr, .ref a_fien, .ref a_ficu])), (a_fitr, .inl (cI, m1, .inl ftr)), (a_fien, .inl (cJ, m2, .inr (.inl fen))), (a_ficu, .inl (cI, 256, .inl fcu))] s.heap.size = A at hD hZ ⊢
  have hA : ∀ q : Nat, s.heap.size ≤ q → A q := fun q h => by rw [← hAe]; exact Or.inr h
  have C0 : jC p l s m ([.ref a_fi, .int fm, .int st] : List Value).toArray meth c b_FI_addState none 3 R_FI (dC, dI) cI cJ cZ cQ A := ⟨B.exec, B.bytes, B.returns, hml, findClass_of_methodNamed B.named, fun w hw => atoms_spec (ws := (.code y_FI_addState b_FI_addState 3 none :: jW)) B.pre w (List.mem_cons_of_mem _ hw), B.notSynchronized, hK, hZ, hA, hst⟩
  obtain ⟨hx, hb, hr, hml, hown, hts, hlocks, hK, hZ, hA, hst⟩ := id C0
  have hS : va_S A s.heap s.heap [] := va_S.rf
  have hl := lv_entry ([.ref a_fi, .int fm, .int st]) (n := 3) (Nat.le_of_ble_eq_true rfl)
  rw [lg_entry_eq]
  generalize (lg_sl ([.ref a_fi, .int fm, .int st]) ++ List.replicate (3 - (lg_sl ([.ref a_fi, .int fm, .int st])).length) Slot.unset).toArray = ls at hl ⊢
  have hl : lv_has ls 3 [(0, .ref a_fi), (1, .int fm), (2, .int st)] := hl
  obtain ⟨H, hH⟩ : ∃ H : Heap, H = s.heap := ⟨_, rfl⟩
  obtain ⟨locs, hlc⟩ : ∃ L : List Loc, L = [] := ⟨_, rfl⟩
  have hP : va_P (dC, dI) vwCl [(a_fi, .inr (3, [.int fr, .int cr, .int sc, .int sk, .int cc, .int ec, .ref a_fitr, .ref a_fien, .ref a_ficu])), (a_fitr, .inl (cI, m1, .inl ftr)), (a_fien, .inl (cJ, m2, .inr (.inl fen))), (a_ficu, .inl (cI, 256, .inl fcu))] H := by rw [hH]; exact hP
  have hS : va_S A s.heap H locs := by rw [hH, hlc]; exact hS
  suffices hW9 : W p l e ({ frames := 11, cells := mc, slots := ms, locals := 172 } : Room) s m ([.ref a_fi, .int fm, .int st] : List Value).toArray below meth c H locs 0 0 (MQ below (jQ_FI_addState dC dI cI cJ cZ cQ A a_fi a_ficu Post) ([.ref a_fi, .int fm, .int st] : List Value).toArray s mc ms A) (F0 m 0 ls []) by rw [hH, hlc] at hW9; exact hW9
  clear hH hlc
  rw [wp_FI_addState] at h
  refine lv_aload_n hx hb d_FI_addState_0 rfl (lv_at hl 0 rfl) ?_
  refine va_get (D := (dC, dI)) (ci := 3) (v := .int sc) (C := R_FI) (T := T_FI) (N := 9) hx hb hts in_FI hown hK hP 0 rfl rfl 2 (by decide) (hts _ mw_130) (fun _ h9 => h9) rfl d_FI_addState_1 ?_
  refine lv_aload_n hx hb d_FI_addState_4 rfl (lv_at hl 0 rfl) ?_
  refine va_get (D := (dC, dI)) (ci := 3) (v := .ref a_fitr) (C := R_FI) (T := T_FI) (N := 9) hx hb hts in_FI hown hK hP 0 rfl rfl 6 (by decide) (hts _ mw_139) (fun _ h9 => h9) rfl d_FI_addState_5 ?_
  refine va_alen hx hb hK hP 1 0 (ty := .int) rfl rfl (v := Int32.ofNat m1) rfl d_FI_addState_8 ?_
  refine lv_icmp_lt (tgt := 37) hx hb d_FI_addState_9 (by decide) (fun c9 => ?_) (fun c9 => ?_)
  · have h := h.1 c9
    exact l_FI_addState_37 C0  fr cr sc sk cc ec m1 ftr m2 fen fcu fm st 0 0 a_fitr a_fien H locs ls h hP hD hS hl
  · have h := h.2 c9
    refine lv_aload_n hx hb d_FI_addState_12 rfl (lv_at hl 0 rfl) ?_
    refine lv_aload_n hx hb d_FI_addState_13 rfl (lv_at hl 0 rfl) ?_
    refine va_get (D := (dC, dI)) (ci := 3) (v := .ref a_fitr) (C := R_FI) (T := T_FI) (N := 9) hx hb hts in_FI hown hK hP 0 rfl rfl 6 (by decide) (hts _ mw_139) (fun _ h9 => h9) rfl d_FI_addState_14 ?_
    refine lv_sipush (v := 12000) hx hb d_FI_addState_17 (by decide) ?_
    refine lv_aload_n hx hb d_FI_addState_20 rfl (lv_at hl 0 rfl) ?_
    refine va_get (D := (dC, dI)) (ci := 3) (v := .ref a_fitr) (C := R_FI) (T := T_FI) (N := 9) hx hb hts in_FI hown hK hP 0 rfl rfl 6 (by decide) (hts _ mw_139) (fun _ h9 => h9) rfl d_FI_addState_21 ?_
    refine va_alen hx hb hK hP 1 0 (ty := .int) rfl rfl (v := Int32.ofNat m1) rfl d_FI_addState_24 ?_
    refine lv_bipush (v := 8) hx hb d_FI_addState_25 (by decide) ?_
    refine lv_imul hx hb d_FI_addState_27 ?_
    refine va_mmin hx hb (hml.trans hl.1.symm) hown (hts _ mw_643) (hts _ mw_421) (hts _ mw_19) (hts _ mw_422) (Nat.le_of_ble_eq_true rfl) (Nat.le_of_ble_eq_true rfl) h.1 h.2.1 d_FI_addState_28 ?_
    have h := h.2.2
    obtain ⟨mg5, sg6, hmg, hsg, h⟩ := h
    have hPc := hP.sub (ws' := [(a_fitr, .inl (cI, m1, .inl ftr))]) [1] rfl
    have hDc := hD.sub (ws' := [(a_fitr, .inl (cI, m1, .inl ftr))]) [1] (by decide) rfl
    have hFc := va_free (wc := [(a_fitr, .inl (cI, m1, .inl ftr))]) hD hS hA [1] rfl
    refine va_callr (va_runS (As := [.ref a_fitr, .int (if ((Int32.ofNat m1) * 8) < 12000 then ((Int32.ofNat m1) * 8) else 12000)]) (rest := [.ref a_fi]) ⟨hx, hb, hml, hown, hts⟩ (c_JA_copyOf_aII l dC dI cI cJ cZ cQ a_fitr m1 H.size ftr (if ((Int32.ofNat m1) * 8) < 12000 then ((Int32.ofNat m1) * 8) else 12000) mg5 sg6 _  h) (va_cwS 2 hts (goodIn_app (jGl (List.forall_mem_cons.mpr ⟨mw_644, List.forall_mem_cons.mpr ⟨mw_645, List.forall_mem_cons.mpr ⟨mw_13, fun _ h => absurd h List.not_mem_nil⟩⟩⟩)) (jG mw_646)) rfl rfl rfl (by decide +kernel) ⟨Nat.le_of_ble_eq_true rfl, Nat.le_of_ble_eq_true rfl⟩) ⟨jPre_blind, jPre_in hPc hK hDc hZ hS hFc hst⟩ rfl rfl hl.1 rfl (lv_room (Nat.le_of_ble_eq_true rfl)) d_FI_addState_31 ⟨hmg, hsg⟩) hS (fun q _ h => hFc q h) hFc (fun u ra9 t H1 locs ht hvm hw hB hz1 hk1 hS => ?_)
    obtain ⟨u2, u3, u4⟩ := u
    obtain ⟨hP1, hK1, hD1⟩ := hB
    rw [ht] at hP1
    have h := hw
    obtain ⟨q7, hra9⟩ : ∃ z : Nat, z = ra9 := ⟨_, rfl⟩
    rw [← hra9] at hP1 hD1 ⊢
    obtain ⟨hP, hD⟩ := va_join (wr := [(a_fi, .inr (3, [.int fr, .int cr, .int sc, .int sk, .int cc, .int ec, .ref a_fitr, .ref a_fien, .ref a_ficu])), (a_fien, .inl (cJ, m2, .inr (.inl fen))), (a_ficu, .inl (cI, 256, .inl fcu))]) (w1 := [(a_fitr, .inl (cI, m1, .inl u4)), (q7, .inl (cI, u2, .inl u3))]) hP hD [1] [0, 2, 3] rfl rfl (by decide) (by decide) hk1 hFc hP1 hD1
    generalize H1 = H at hP hS ⊢
    have hP : va_P (dC, dI) vwCl [(a_fi, .inr (3, [.int fr, .int cr, .int sc, .int sk, .int cc, .int ec, .ref a_fitr, .ref a_fien, .ref a_ficu])), (a_fien, .inl (cJ, m2, .inr (.inl fen))), (a_ficu, .inl (cI, 256, .inl fcu)), (a_fitr, .inl (cI, m1, .inl u4)), (q7, .inl (cI, u2, .inl u3))] H := hP
    have hD : va_D A [(a_fi, .inr (3, [.int fr, .int cr, .int sc, .int sk, .int cc, .int ec, .ref a_fitr, .ref a_fien, .ref a_ficu])), (a_fien, .inl (cJ, m2, .inr (.inl fen))), (a_ficu, .inl (cI, 256, .inl fcu)), (a_fitr, .inl (cI, m1, .inl u4)), (q7, .inl (cI, u2, .inl u3))] := hD
    refine va_put (D := (dC, dI)) (ci := 3) (v := .ref q7) (ty := (.array .int)) (C := R_FI) (T := T_FI) (N := 9) hx hb hts in_FI ty_FI tok_FI nm_FI hown hK hP hD hS 0 rfl rfl 6 (by decide) (hts _ mw_139) (fun _ h9 => h9) rfl (by decide +kernel) rfl rfl (Nat.le_of_ble_eq_true rfl) d_FI_addState_34 (fun H locs hP hD hS => ?_)
    have hP : va_P (dC, dI) vwCl [(a_fi, .inr (3, [.int fr, .int cr, .int sc, .int sk, .int cc, .int ec, .ref q7, .ref a_fien, .ref a_ficu])), (a_fien, .inl (cJ, m2, .inr (.inl fen))), (a_ficu, .inl (cI, 256, .inl fcu)), (a_fitr, .inl (cI, m1, .inl u4)), (q7, .inl (cI, u2, .inl u3))] H := hP
    have hD : va_D A [(a_fi, .inr (3, [.int fr, .int cr, .int sc, .int sk, .int cc, .int ec, .ref q7, .ref a_fien, .ref a_ficu])), (a_fien, .inl (cJ, m2, .inr (.inl fen))), (a_ficu, .inl (cI, 256, .inl fcu)), (a_fitr, .inl (cI, m1, .inl u4)), (q7, .inl (cI, u2, .inl u3))] := hD
    exact l_FI_addState_37 C0  fr cr sc sk cc ec u2 u3 m2 fen fcu fm st (0 + mg5) (0 + sg6) q7 a_fien H locs ls h (hP.sub [0, 4, 1, 2] rfl) (hD.sub [0, 4, 1, 2] (by decide) rfl) hS hl

/-- what OrderMachines$Findings.addEnd(JI)V leaves -/
abbrev jQ_FI_addEnd (dC : Nat → ClassId) (dI : Nat → Nat → Nat) (cI cJ cZ cQ : ClassId) (A : Nat → Prop) (a_fi a_ficu : Nat) (Post : Int32 → Int32 → Int32 → Int32 → Int32 → Int32 → Nat → (Nat → Int32) → Nat → (Nat → Int64) → (Nat → Int32) → Prop) : Array Value → State → Outcome → State → Prop := va_Qv (fun (u : Int32 × Int32 × Int32 × Int32 × Int32 × Int32 × Nat × (Nat → Int32) × Nat × (Nat → Int64) × (Nat → Int32)) => Post u.1 u.2.1 u.2.2.1 u.2.2.2.1 u.2.2.2.2.1 u.2.2.2.2.2.1 u.2.2.2.2.2.2.1 u.2.2.2.2.2.2.2.1 u.2.2.2.2.2.2.2.2.1 u.2.2.2.2.2.2.2.2.2.1 u.2.2.2.2.2.2.2.2.2.2) (fun (u : Int32 × Int32 × Int32 × Int32 × Int32 × Int32 × Nat × (Nat → Int32) × Nat × (Nat → Int64) × (Nat → Int32)) (t : State) => match u with
  | (fr, cr, sc, sk, cc, ec, m1, ftr, m2, fen, fcu) => ∃ (a_fitr a_fien : Nat), jPost (dC, dI) (jT cI cJ cZ cQ) A [(a_fi, .inr (3, [.int fr, .int cr, .int sc, .int sk, .int cc, .int ec, .ref a_fitr, .ref a_fien, .ref a_ficu])), (a_fitr, .inl (cI, m1, .inl ftr)), (a_fien, .inl (cJ, m2, .inr (.inl fen))), (a_ficu, .inl (cI, 256, .inl fcu))] t) A
def wp_FI_addEnd_37 (Post : Int32 → Int32 → Int32 → Int32 → Int32 → Int32 → Nat → (Nat → Int32) → Nat → (Nat → Int64) → (Nat → Int32) → Prop) (mc ms : Nat)  (fr cr sc sk cc ec : Int32) (m1 : Nat) (ftr : Nat → Int32) (m2 : Nat) (fen : Nat → Int64) (fcu : Nat → Int32) (L1 : Int64) (L3 : Int32) (ca sa : Nat) : Prop :=
    (((Int32.ofNat m2) ≤ ec → ca ≤ mc ∧ sa ≤ ms ∧ Post fr cr sc sk cc ec m1 ftr m2 fen fcu) ∧
  (¬ (Int32.ofNat m2) ≤ ec → vp_in ec m2 ∧ ∀ f8 : Nat → Int64, f8 = vp_updL fen ec.toNatClampNeg ((L1 <<< ((14 : Int32).toInt64 &&& 63)) ||| L3.toInt64) → ∀ x9 : Int32, x9 = ec + 1 → ca ≤ mc ∧ sa ≤ ms ∧ Post fr cr sc sk cc x9 m1 ftr m2 f8 fcu))
/-- OrderMachines$Findings.addEnd(JI)V -/
def wp_FI_addEnd (Post : Int32 → Int32 → Int32 → Int32 → Int32 → Int32 → Nat → (Nat → Int32) → Nat → (Nat → Int64) → (Nat → Int32) → Prop) (mc ms : Nat) (fr cr sc sk cc ec : Int32) (m1 : Nat) (ftr : Nat → Int32) (m2 : Nat) (fen : Nat → Int64) (fcu : Nat → Int32) (oc : Int64) (ix : Int32) : Prop :=
  ((ec < (Int32.ofNat m2) → wp_FI_addEnd_37 Post mc ms fr cr sc sk cc ec m1 ftr m2 fen fcu oc ix 0 0) ∧
  (¬ ec < (Int32.ofNat m2) → 0 ≤ mc ∧ 0 ≤ ms ∧ ∃ mg5 sg6 : Nat, 0 + mg5 ≤ mc ∧ 0 + sg6 ≤ ms ∧ wp_JA_copyOf_aJI (fun (u2 : Nat) (u3 : Nat → Int64) (u4 : Nat → Int64) => wp_FI_addEnd_37 Post mc ms fr cr sc sk cc ec m1 ftr u2 u3 fcu oc ix (0 + mg5) (0 + sg6)) mg5 sg6 m2 fen (if ((Int32.ofNat m2) * 8) < 12000 then ((Int32.ofNat m2) * 8) else 12000)))
set_option maxHeartbeats 4000000 in
set_option maxRecDepth 100000 in
theorem l_FI_addEnd_37 {p : Program} {l : Launch} {e : Env} {s : State} {m : MethodId} {args : Array Value} {below : List Frame} {meth : Method} {c : Code} {dC : Nat → ClassId} {dI : Nat → Nat → Nat} {cI cJ cZ cQ : ClassId} {a_fi a_ficu : Nat} {A : Nat → Prop} {Post : Int32 → Int32 → Int32 → Int32 → Int32 → Int32 → Nat → (Nat → Int32) → Nat → (Nat → Int64) → (Nat → Int32) → Prop} {mc ms : Nat} (C0 : jC p l s m args meth c b_FI_addEnd none 4 R_FI (dC, dI) cI cJ cZ cQ A)  : ∀ (fr cr sc sk cc ec : Int32) (m1 : Nat) (ftr : Nat → Int32) (m2 : Nat) (fen : Nat → Int64) (fcu : Nat → Int32) (L1 : Int64) (L3 : Int32) (ca sa : Nat), ∀ (a_fitr a_fien : Nat), ∀ (H : Heap) (locs : List Loc) (ls : Array Slot), wp_FI_addEnd_37 Post mc ms  fr cr sc sk cc ec m1 ftr m2 fen fcu L1 L3 ca sa → va_P (dC, dI) vwCl [(a_fi, .inr (3, [.int fr, .int cr, .int sc, .int sk, .int cc, .int ec, .ref a_fitr, .ref a_fien, .ref a_ficu])), (a_fitr, .inl (cI, m1, .inl ftr)), (a_fien, .inl (cJ, m2, .inr (.inl fen))), (a_ficu, .inl (cI, 256, .inl fcu))] H → va_D A [(a_fi, .inr (3, [.int fr, .int cr, .int sc, .int sk, .int cc, .int ec, .ref a_fitr, .ref a_fien, .ref a_ficu])), (a_fitr, .inl (cI, m1, .inl ftr)), (a_fien, .inl (cJ, m2, .inr (.inl fen))), (a_ficu, .inl (cI, 256, .inl fcu))] → va_S A s.heap H locs → lv_has ls 4 [(0, .ref a_fi), (1, .long L1), (3, .int L3)] → W p l e ({ frames := 11, cells := mc, slots := ms, locals := 172 } : Room) s m args below meth c H locs ca sa (MQ below (jQ_FI_addEnd dC dI cI cJ cZ cQ A a_fi a_ficu Post) args s mc ms A) (F0 m 37 ls []) := by
  obtain ⟨hx, hb, hr, hml, hown, hts, hlocks, hK, hZ, hA, hst⟩ := id C0
  intro fr cr sc sk cc ec m1 ftr m2 fen fcu L1 L3 ca sa a_fitr a_fien H locs ls h hP hD hS hl
  rw [wp_FI_addEnd_37] at h
  refine lv_aload_n hx hb d_FI_addEnd_37 rfl (lv_at hl 0 rfl) ?_
  refine va_get (D := (dC, dI)) (ci := 3) (v := .int ec) (C := R_FI) (T := T_FI) (N := 9) hx hb hts in_FI hown hK hP 0 rfl rfl 5 (by decide) (hts _ mw_137) (fun _ h9 => h9) rfl d_FI_addEnd_38 ?_
  refine lv_aload_n hx hb d_FI_addEnd_41 rfl (lv_at hl 0 rfl) ?_
  refine va_get (D := (dC, dI)) (ci := 3) (v := .ref a_fien) (C := R_FI) (T := T_FI) (N := 9) hx hb hts in_FI hown hK hP 0 rfl rfl 7 (by decide) (hts _ mw_140) (fun _ h9 => h9) rfl d_FI_addEnd_42 ?_
  refine va_alen hx hb hK hP 2 1 (ty := .long) rfl rfl (v := Int32.ofNat m2) rfl d_FI_addEnd_45 ?_
  refine lv_icmp_ge (tgt := 75) hx hb d_FI_addEnd_46 (by decide) (fun c46 => ?_) (fun c46 => ?_)
  · have h := h.1 c46
    refine W.widen (k := mc) (n := ms) h.1 h.2.1 ?_
    have h := h.2.2
    have hP9 := hP
    have hD9 := hD
    exact W.vret hx hb hr (fun t ht hW => ⟨⟨(fr, cr, sc, sk, cc, ec, m1, ftr, m2, fen, fcu), rfl, h, a_fitr, a_fien, by rw [ht]; exact hP9, va_K.moved hW.alike hK, hD9⟩, hS.F ht⟩) hS.2.2 d_FI_addEnd_75
  · have h := h.2 c46
    refine lv_aload_n hx hb d_FI_addEnd_49 rfl (lv_at hl 0 rfl) ?_
    refine va_get (D := (dC, dI)) (ci := 3) (v := .ref a_fien) (C := R_FI) (T := T_FI) (N := 9) hx hb hts in_FI hown hK hP 0 rfl rfl 7 (by decide) (hts _ mw_140) (fun _ h9 => h9) rfl d_FI_addEnd_50 ?_
    refine lv_aload_n hx hb d_FI_addEnd_53 rfl (lv_at hl 0 rfl) ?_
    refine va_get (D := (dC, dI)) (ci := 3) (v := .int ec) (C := R_FI) (T := T_FI) (N := 9) hx hb hts in_FI hown hK hP 0 rfl rfl 5 (by decide) (hts _ mw_137) (fun _ h9 => h9) rfl d_FI_addEnd_54 ?_
    refine lv_lload_n hx hb d_FI_addEnd_57 rfl (lv_at hl 1 rfl) ?_
    refine lv_bipush (v := 14) hx hb d_FI_addEnd_58 (by decide) ?_
    refine lv_lshl hx hb d_FI_addEnd_60 rfl ?_
    refine lv_iload_n hx hb d_FI_addEnd_61 rfl (lv_at hl 2 rfl) ?_
    refine lv_i2l hx hb d_FI_addEnd_62 rfl ?_
    refine lv_lor hx hb d_FI_addEnd_63 ?_
    refine va_last hx hb hK hP hD hS 2 1 rfl rfl h.1 d_FI_addEnd_64 (fun H locs hP hD hS => ?_)
    have h := h.2
    obtain ⟨f8, ef8⟩ : ∃ y : Nat → Int64, y = vp_updL fen ec.toNatClampNeg ((L1 <<< ((14 : Int32).toInt64 &&& 63)) ||| L3.toInt64) := ⟨_, rfl⟩
    rw [← ef8] at hP hD
    have h := h f8 ef8
    have hP : va_P (dC, dI) vwCl [(a_fi, .inr (3, [.int fr, .int cr, .int sc, .int sk, .int cc, .int ec, .ref a_fitr, .ref a_fien, .ref a_ficu])), (a_fitr, .inl (cI, m1, .inl ftr)), (a_fien, .inl (cJ, m2, .inr (.inl f8))), (a_ficu, .inl (cI, 256, .inl fcu))] H := hP
    have hD : va_D A [(a_fi, .inr (3, [.int fr, .int cr, .int sc, .int sk, .int cc, .int ec, .ref a_fitr, .ref a_fien, .ref a_ficu])), (a_fitr, .inl (cI, m1, .inl ftr)), (a_fien, .inl (cJ, m2, .inr (.inl f8))), (a_ficu, .inl (cI, 256, .inl fcu))] := hD
    refine lv_aload_n hx hb d_FI_addEnd_65 rfl (lv_at hl 0 rfl) ?_
    refine lv_dup hx hb d_FI_addEnd_66 rfl ?_
    refine va_get (D := (dC, dI)) (ci := 3) (v := .int ec) (C := R_FI) (T := T_FI) (N := 9) hx hb hts in_FI hown hK hP 0 rfl rfl 5 (by decide) (hts _ mw_137) (fun _ h9 => h9) rfl d_FI_addEnd_67 ?_
    refine lv_iconst (v := 1) hx hb d_FI_addEnd_70 (by decide) ?_
    refine lv_iadd hx hb d_FI_addEnd_71 ?_
    refine lv_topi (fun x9 ex9 => ?_)
    have h := h x9 ex9
    refine va_put (D := (dC, dI)) (ci := 3) (v := .int x9) (ty := .int) (C := R_FI) (T := T_FI) (N := 9) hx hb hts in_FI ty_FI tok_FI nm_FI hown hK hP hD hS 0 rfl rfl 5 (by decide) (hts _ mw_137) (fun _ h9 => h9) rfl (by decide +kernel) rfl rfl (Nat.le_of_ble_eq_true rfl) d_FI_addEnd_72 (fun H locs hP hD hS => ?_)
    have hP : va_P (dC, dI) vwCl [(a_fi, .inr (3, [.int fr, .int cr, .int sc, .int sk, .int cc, .int x9, .ref a_fitr, .ref a_fien, .ref a_ficu])), (a_fitr, .inl (cI, m1, .inl ftr)), (a_fien, .inl (cJ, m2, .inr (.inl f8))), (a_ficu, .inl (cI, 256, .inl fcu))] H := hP
    have hD : va_D A [(a_fi, .inr (3, [.int fr, .int cr, .int sc, .int sk, .int cc, .int x9, .ref a_fitr, .ref a_fien, .ref a_ficu])), (a_fitr, .inl (cI, m1, .inl ftr)), (a_fien, .inl (cJ, m2, .inr (.inl f8))), (a_ficu, .inl (cI, 256, .inl fcu))] := hD
    refine W.widen (k := mc) (n := ms) h.1 h.2.1 ?_
    have h := h.2.2
    have hP9 := hP
    have hD9 := hD
    exact W.vret hx hb hr (fun t ht hW => ⟨⟨(fr, cr, sc, sk, cc, x9, m1, ftr, m2, f8, fcu), rfl, h, a_fitr, a_fien, by rw [ht]; exact hP9, va_K.moved hW.alike hK, hD9⟩, hS.F ht⟩) hS.2.2 d_FI_addEnd_75
set_option maxHeartbeats 4000000 in
set_option maxRecDepth 100000 in
theorem c_FI_addEnd (l : Launch) (dC : Nat → ClassId) (dI : Nat → Nat → Nat) (cI cJ cZ cQ : ClassId) (a_fi a_ficu : Nat) (a_fitr a_fien : Nat) (sz : Nat) (fr cr sc sk cc ec : Int32) (m1 : Nat) (ftr : Nat → Int32) (m2 : Nat) (fen : Nat → Int64) (fcu : Nat → Int32) (oc : Int64) (ix : Int32) (mc ms : Nat) (Post : Int32 → Int32 → Int32 → Int32 → Int32 → Int32 → Nat → (Nat → Int32) → Nat → (Nat → Int64) → (Nat → Int32) → Prop) (h : wp_FI_addEnd Post mc ms fr cr sc sk cc ec m1 ftr m2 fen fcu oc ix) : Met l y_FI_addEnd (.code y_FI_addEnd b_FI_addEnd 4 none :: jW) ({ frames := 11, cells := mc, slots := ms, locals := 172 } : Room) (jPre l (dC, dI) cI cJ cZ cQ [(a_fi, .inr (3, [.int fr, .int cr, .int sc, .int sk, .int cc, .int ec, .ref a_fitr, .ref a_fien, .ref a_ficu])), (a_fitr, .inl (cI, m1, .inl ftr)), (a_fien, .inl (cJ, m2, .inr (.inl fen))), (a_ficu, .inl (cI, 256, .inl fcu))] sz [.ref a_fi, .long oc, .int ix]) (jQ_FI_addEnd dC dI cI cJ cZ cQ (va_A [(a_fi, .inr (3, [.int fr, .int cr, .int sc, .int sk, .int cc, .int ec, .ref a_fitr, .ref a_fien, .ref a_ficu])), (a_fitr, .inl (cI, m1, .inl ftr)), (a_fien, .inl (cJ, m2, .inr (.inl fen))), (a_ficu, .inl (cI, 256, .inl fcu))] sz) a_fi a_ficu Post) mc ms (va_A [(a_fi, .inr (3, [.int fr, .int cr, .int sc, .int sk, .int cc, .int ec, .ref a_fitr, .ref a_fien, .ref a_ficu])), (a_fitr, .inl (cI, m1, .inl ftr)), (a_fien, .inl (cJ, m2, .inr (.inl fen))), (a_ficu, .inl (cI, 256, .inl fcu))] sz) := by
  refine Met.ofW (cc := b_FI_addEnd) (maxL := 4) (ret := none) (by decide) rfl ?_
  intro p e s m args below meth c s₁ B hml hv
  obtain ⟨rfl, hsz, hP, hK, hD0, hZ, hst⟩ := hv
  subst hsz
  have hD := hD0.self (sz := s.heap.size)
  generalize hAe : va_A [(a_fi, .inr (3, [.int fr, .int cr, .int sc, .int sk, .int cc, .int ec, .ref a_fitr, .ref a_fien, .ref a_ficu])), (a_fitr, .inl (cI, m1, .inl ftr)), (a_fien, .inl (cJ, m2, .inr (.inl fen))), (a_ficu, .inl (cI, 256, .inl fcu))] s.heap.size = A at hD hZ ⊢
  have hA : ∀ q : Nat, s.heap.size ≤ q → A q := fun q h => by rw [← hAe]; exact Or.inr h
  have C0 : jC p l s m ([.ref a_fi, .long oc, .int ix] : List Value).toArray meth c b_FI_addEnd none 4 R_FI (dC, dI) cI cJ cZ cQ A := ⟨B.exec, B.bytes, B.returns, hml, findClass_of_methodNamed B.named, fun w hw => atoms_spec (ws := (.code y_FI_addEnd b_FI_addEnd 4 none :: jW)) B.pre w (List.mem_cons_of_mem _ hw), B.notSynchronized, hK, hZ, hA, hst⟩
  obtain ⟨hx, hb, hr, hml, hown, hts, hlocks, hK, hZ, hA, hst⟩ := id C0
  have hS : va_S A s.heap s.heap [] := va_S.rf
  have hl := lv_entry ([.ref a_fi, .long oc, .int ix]) (n := 4) (Nat.le_of_ble_eq_true rfl)
  rw [lg_entry_eq]
  generalize (lg_sl ([.ref a_fi, .long oc, .int ix]) ++ List.replicate (4 - (lg_sl ([.ref a_fi, .long oc, .int ix])).length) Slot.unset).toArray = ls at hl ⊢
  have hl : lv_has ls 4 [(0, .ref a_fi), (1, .long oc), (3, .int ix)] := hl
  obtain ⟨H, hH⟩ : ∃ H : Heap, H = s.heap := ⟨_, rfl⟩
  obtain ⟨locs, hlc⟩ : ∃ L : List Loc, L = [] := ⟨_, rfl⟩
  have hP : va_P (dC, dI) vwCl [(a_fi, .inr (3, [.int fr, .int cr, .int sc, .int sk, .int cc, .int ec, .ref a_fitr, .ref a_fien, .ref a_ficu])), (a_fitr, .inl (cI, m1, .inl ftr)), (a_fien, .inl (cJ, m2, .inr (.inl fen))), (a_ficu, .inl (cI, 256, .inl fcu))] H := by rw [hH]; exact hP
  have hS : va_S A s.heap H locs := by rw [hH, hlc]; exact hS
  suffices hW9 : W p l e ({ frames := 11, cells := mc, slots := ms, locals := 172 } : Room) s m ([.ref a_fi, .long oc, .int ix] : List Value).toArray below meth c H locs 0 0 (MQ below (jQ_FI_addEnd dC dI cI cJ cZ cQ A a_fi a_ficu Post) ([.ref a_fi, .long oc, .int ix] : List Value).toArray s mc ms A) (F0 m 0 ls []) by rw [hH, hlc] at hW9; exact hW9
  clear hH hlc
  rw [wp_FI_addEnd] at h
  refine lv_aload_n hx hb d_FI_addEnd_0 rfl (lv_at hl 0 rfl) ?_
  refine va_get (D := (dC, dI)) (ci := 3) (v := .int ec) (C := R_FI) (T := T_FI) (N := 9) hx hb hts in_FI hown hK hP 0 rfl rfl 5 (by decide) (hts _ mw_137) (fun _ h9 => h9) rfl d_FI_addEnd_1 ?_
  refine lv_aload_n hx hb d_FI_addEnd_4 rfl (lv_at hl 0 rfl) ?_
  refine va_get (D := (dC, dI)) (ci := 3) (v := .ref a_fien) (C := R_FI) (T := T_FI) (N := 9) hx hb hts in_FI hown hK hP 0 rfl rfl 7 (by decide) (hts _ mw_140) (fun _ h9 => h9) rfl d_FI_addEnd_5 ?_
  refine va_alen hx hb hK hP 2 1 (ty := .long) rfl rfl (v := Int32.ofNat m2) rfl d_FI_addEnd_8 ?_
  refine lv_icmp_lt (tgt := 37) hx hb d_FI_addEnd_9 (by decide) (fun c9 => ?_) (fun c9 => ?_)
  · have h := h.1 c9
    exact l_FI_addEnd_37 C0  fr cr sc sk cc ec m1 ftr m2 fen fcu oc ix 0 0 a_fitr a_fien H locs ls h hP hD hS hl
  · have h := h.2 c9
    refine lv_aload_n hx hb d_FI_addEnd_12 rfl (lv_at hl 0 rfl) ?_
    refine lv_aload_n hx hb d_FI_addEnd_13 rfl (lv_at hl 0 rfl) ?_
    refine va_get (D := (dC, dI)) (ci := 3) (v := .ref a_fien) (C := R_FI) (T := T_FI) (N := 9) hx hb hts in_FI hown hK hP 0 rfl rfl 7 (by decide) (hts _ mw_140) (fun _ h9 => h9) rfl d_FI_addEnd_14 ?_
    refine lv_sipush (v := 12000) hx hb d_FI_addEnd_17 (by decide) ?_
    refine lv_aload_n hx hb d_FI_addEnd_20 rfl (lv_at hl 0 rfl) ?_
    refine va_get (D := (dC, dI)) (ci := 3) (v := .ref a_fien) (C := R_FI) (T := T_FI) (N := 9) hx hb hts in_FI hown hK hP 0 rfl rfl 7 (by decide) (hts _ mw_140) (fun _ h9 => h9) rfl d_FI_addEnd_21 ?_
    refine va_alen hx hb hK hP 2 1 (ty := .long) rfl rfl (v := Int32.ofNat m2) rfl d_FI_addEnd_24 ?_
    refine lv_bipush (v := 8) hx hb d_FI_addEnd_25 (by decide) ?_
    refine lv_imul hx hb d_FI_addEnd_27 ?_
    refine va_mmin hx hb (hml.trans hl.1.symm) hown (hts _ mw_643) (hts _ mw_421) (hts _ mw_19) (hts _ mw_422) (Nat.le_of_ble_eq_true rfl) (Nat.le_of_ble_eq_true rfl) h.1 h.2.1 d_FI_addEnd_28 ?_
    have h := h.2.2
    obtain ⟨mg5, sg6, hmg, hsg, h⟩ := h
    have hPc := hP.sub (ws' := [(a_fien, .inl (cJ, m2, .inr (.inl fen)))]) [2] rfl
    have hDc := hD.sub (ws' := [(a_fien, .inl (cJ, m2, .inr (.inl fen)))]) [2] (by decide) rfl
    have hFc := va_free (wc := [(a_fien, .inl (cJ, m2, .inr (.inl fen)))]) hD hS hA [2] rfl
    refine va_callr (va_runS (As := [.ref a_fien, .int (if ((Int32.ofNat m2) * 8) < 12000 then ((Int32.ofNat m2) * 8) else 12000)]) (rest := [.ref a_fi]) ⟨hx, hb, hml, hown, hts⟩ (c_JA_copyOf_aJI l dC dI cI cJ cZ cQ a_fien m2 H.size fen (if ((Int32.ofNat m2) * 8) < 12000 then ((Int32.ofNat m2) * 8) else 12000) mg5 sg6 _  h) (va_cwS 2 hts (goodIn_app (jGl (List.forall_mem_cons.mpr ⟨mw_735, List.forall_mem_cons.mpr ⟨mw_632, List.forall_mem_cons.mpr ⟨mw_13, fun _ h => absurd h List.not_mem_nil⟩⟩⟩)) (jG mw_633)) rfl rfl rfl (by decide +kernel) ⟨Nat.le_of_ble_eq_true rfl, Nat.le_of_ble_eq_true rfl⟩) ⟨jPre_blind, jPre_in hPc hK hDc hZ hS hFc hst⟩ rfl rfl hl.1 rfl (lv_room (Nat.le_of_ble_eq_true rfl)) d_FI_addEnd_31 ⟨hmg, hsg⟩) hS (fun q _ h => hFc q h) hFc (fun u ra9 t H1 locs ht hvm hw hB hz1 hk1 hS => ?_)
    obtain ⟨u2, u3, u4⟩ := u
    obtain ⟨hP1, hK1, hD1⟩ := hB
    rw [ht] at hP1
    have h := hw
    obtain ⟨q7, hra9⟩ : ∃ z : Nat, z = ra9 := ⟨_, rfl⟩
    rw [← hra9] at hP1 hD1 ⊢
    obtain ⟨hP, hD⟩ := va_join (wr := [(a_fi, .inr (3, [.int fr, .int cr, .int sc, .int sk, .int cc, .int ec, .ref a_fitr, .ref a_fien, .ref a_ficu])), (a_fitr, .inl (cI, m1, .inl ftr)), (a_ficu, .inl (cI, 256, .inl fcu))]) (w1 := [(a_fien, .inl (cJ, m2, .inr (.inl u4))), (q7, .inl (cJ, u2, .inr (.inl u3)))]) hP hD [2] [0, 1, 3] rfl rfl (by decide) (by decide) hk1 hFc hP1 hD1
    generalize H1 = H at hP hS ⊢
    have hP : va_P (dC, dI) vwCl [(a_fi, .inr (3, [.int fr, .int cr, .int sc, .int sk, .int cc, .int ec, .ref a_fitr, .ref a_fien, .ref a_ficu])), (a_fitr, .inl (cI, m1, .inl ftr)), (a_ficu, .inl (cI, 256, .inl fcu)), (a_fien, .inl (cJ, m2, .inr (.inl u4))), (q7, .inl (cJ, u2, .inr (.inl u3)))] H := hP
    have hD : va_D A [(a_fi, .inr (3, [.int fr, .int cr, .int sc, .int sk, .int cc, .int ec, .ref a_fitr, .ref a_fien, .ref a_ficu])), (a_fitr, .inl (cI, m1, .inl ftr)), (a_ficu, .inl (cI, 256, .inl fcu)), (a_fien, .inl (cJ, m2, .inr (.inl u4))), (q7, .inl (cJ, u2, .inr (.inl u3)))] := hD
    refine va_put (D := (dC, dI)) (ci := 3) (v := .ref q7) (ty := (.array .long)) (C := R_FI) (T := T_FI) (N := 9) hx hb hts in_FI ty_FI tok_FI nm_FI hown hK hP hD hS 0 rfl rfl 7 (by decide) (hts _ mw_140) (fun _ h9 => h9) rfl (by decide +kernel) rfl rfl (Nat.le_of_ble_eq_true rfl) d_FI_addEnd_34 (fun H locs hP hD hS => ?_)
    have hP : va_P (dC, dI) vwCl [(a_fi, .inr (3, [.int fr, .int cr, .int sc, .int sk, .int cc, .int ec, .ref a_fitr, .ref q7, .ref a_ficu])), (a_fitr, .inl (cI, m1, .inl ftr)), (a_ficu, .inl (cI, 256, .inl fcu)), (a_fien, .inl (cJ, m2, .inr (.inl u4))), (q7, .inl (cJ, u2, .inr (.inl u3)))] H := hP
    have hD : va_D A [(a_fi, .inr (3, [.int fr, .int cr, .int sc, .int sk, .int cc, .int ec, .ref a_fitr, .ref q7, .ref a_ficu])), (a_fitr, .inl (cI, m1, .inl ftr)), (a_ficu, .inl (cI, 256, .inl fcu)), (a_fien, .inl (cJ, m2, .inr (.inl u4))), (q7, .inl (cJ, u2, .inr (.inl u3)))] := hD
    exact l_FI_addEnd_37 C0  fr cr sc sk cc ec m1 ftr u2 u3 fcu oc ix (0 + mg5) (0 + sg6) a_fitr q7 H locs ls h (hP.sub [0, 1, 4, 2] rfl) (hD.sub [0, 1, 4, 2] (by decide) rfl) hS hl

/-- what OrderMachines$Findings.addCut(II)V leaves -/
abbrev jQ_FI_addCut (dC : Nat → ClassId) (dI : Nat → Nat → Nat) (cI cJ cZ cQ : ClassId) (A : Nat → Prop) (a_fi a_ficu : Nat) (Post : Int32 → Int32 → Int32 → Int32 → Int32 → Int32 → Nat → (Nat → Int32) → Nat → (Nat → Int64) → (Nat → Int32) → Prop) : Array Value → State → Outcome → State → Prop := va_Qv (fun (u : Int32 × Int32 × Int32 × Int32 × Int32 × Int32 × Nat × (Nat → Int32) × Nat × (Nat → Int64) × (Nat → Int32)) => Post u.1 u.2.1 u.2.2.1 u.2.2.2.1 u.2.2.2.2.1 u.2.2.2.2.2.1 u.2.2.2.2.2.2.1 u.2.2.2.2.2.2.2.1 u.2.2.2.2.2.2.2.2.1 u.2.2.2.2.2.2.2.2.2.1 u.2.2.2.2.2.2.2.2.2.2) (fun (u : Int32 × Int32 × Int32 × Int32 × Int32 × Int32 × Nat × (Nat → Int32) × Nat × (Nat → Int64) × (Nat → Int32)) (t : State) => match u with
  | (fr, cr, sc, sk, cc, ec, m1, ftr, m2, fen, fcu) => ∃ (a_fitr a_fien : Nat), jPost (dC, dI) (jT cI cJ cZ cQ) A [(a_fi, .inr (3, [.int fr, .int cr, .int sc, .int sk, .int cc, .int ec, .ref a_fitr, .ref a_fien, .ref a_ficu])), (a_fitr, .inl (cI, m1, .inl ftr)), (a_fien, .inl (cJ, m2, .inr (.inl fen))), (a_ficu, .inl (cI, 256, .inl fcu))] t) A
/-- OrderMachines$Findings.addCut(II)V -/
def wp_FI_addCut (Post : Int32 → Int32 → Int32 → Int32 → Int32 → Int32 → Nat → (Nat → Int32) → Nat → (Nat → Int64) → (Nat → Int32) → Prop) (fr cr sc sk cc ec : Int32) (m1 : Nat) (ftr : Nat → Int32) (m2 : Nat) (fen : Nat → Int64) (fcu : Nat → Int32) (cu dp : Int32) : Prop :=
  vp_in cu 256 ∧ ((¬ (fcu cu.toNatClampNeg) = (-1) → Post fr cr sc sk cc ec m1 ftr m2 fen fcu) ∧
  ((fcu cu.toNatClampNeg) = (-1) → vp_in cu 256 ∧ ∀ f1 : Nat → Int32, f1 = upd fcu cu.toNatClampNeg dp → ∀ x2 : Int32, x2 = cc + 1 → Post fr cr sc sk x2 ec m1 ftr m2 fen f1))
set_option maxHeartbeats 4000000 in
set_option maxRecDepth 100000 in
theorem c_FI_addCut (l : Launch) (dC : Nat → ClassId) (dI : Nat → Nat → Nat) (cI cJ cZ cQ : ClassId) (a_fi a_ficu : Nat) (a_fitr a_fien : Nat) (sz : Nat) (fr cr sc sk cc ec : Int32) (m1 : Nat) (ftr : Nat → Int32) (m2 : Nat) (fen : Nat → Int64) (fcu : Nat → Int32) (cu dp : Int32) (Post : Int32 → Int32 → Int32 → Int32 → Int32 → Int32 → Nat → (Nat → Int32) → Nat → (Nat → Int64) → (Nat → Int32) → Prop) (h : wp_FI_addCut Post fr cr sc sk cc ec m1 ftr m2 fen fcu cu dp) : Met l y_FI_addCut (.code y_FI_addCut b_FI_addCut 3 none :: jW) ({ frames := 10, cells := 0, slots := 0, locals := 150 } : Room) (jPre l (dC, dI) cI cJ cZ cQ [(a_fi, .inr (3, [.int fr, .int cr, .int sc, .int sk, .int cc, .int ec, .ref a_fitr, .ref a_fien, .ref a_ficu])), (a_fitr, .inl (cI, m1, .inl ftr)), (a_fien, .inl (cJ, m2, .inr (.inl fen))), (a_ficu, .inl (cI, 256, .inl fcu))] sz [.ref a_fi, .int cu, .int dp]) (jQ_FI_addCut dC dI cI cJ cZ cQ (va_A [(a_fi, .inr (3, [.int fr, .int cr, .int sc, .int sk, .int cc, .int ec, .ref a_fitr, .ref a_fien, .ref a_ficu])), (a_fitr, .inl (cI, m1, .inl ftr)), (a_fien, .inl (cJ, m2, .inr (.inl fen))), (a_ficu, .inl (cI, 256, .inl fcu))] sz) a_fi a_ficu Post) 0 0 (va_A [(a_fi, .inr (3, [.int fr, .int cr, .int sc, .int sk, .int cc, .int ec, .ref a_fitr, .ref a_fien, .ref a_ficu])), (a_fitr, .inl (cI, m1, .inl ftr)), (a_fien, .inl (cJ, m2, .inr (.inl fen))), (a_ficu, .inl (cI, 256, .inl fcu))] sz) := by
  refine Met.ofW (cc := b_FI_addCut) (maxL := 3) (ret := none) (by decide) rfl ?_
  intro p e s m args below meth c s₁ B hml hv
  obtain ⟨rfl, hsz, hP, hK, hD0, hZ, hst⟩ := hv
  subst hsz
  have hD := hD0.self (sz := s.heap.size)
  generalize hAe : va_A [(a_fi, .inr (3, [.int fr, .int cr, .int sc, .int sk, .int cc, .int ec, .ref a_fitr, .ref a_fien, .ref a_ficu])), (a_fitr, .inl (cI, m1, .inl ftr)), (a_fien, .inl (cJ, m2, .inr (.inl fen))), (a_ficu, .inl (cI, 256, .inl fcu))] s.heap.size = A at hD hZ ⊢
  have hA : ∀ q : Nat, s.heap.size ≤ q → A q := fun q h => by rw [← hAe]; exact Or.inr h
  have C0 : jC p l s m ([.ref a_fi, .int cu, .int dp] : List Value).toArray meth c b_FI_addCut none 3 R_FI (dC, dI) cI cJ cZ cQ A := ⟨B.exec, B.bytes, B.returns, hml, findClass_of_methodNamed B.named, fun w hw => atoms_spec (ws := (.code y_FI_addCut b_FI_addCut 3 none :: jW)) B.pre w (List.mem_cons_of_mem _ hw), B.notSynchronized, hK, hZ, hA, hst⟩
  obtain ⟨hx, hb, hr, hml, hown, hts, hlocks, hK, hZ, hA, hst⟩ := id C0
  have hS : va_S A s.heap s.heap [] := va_S.rf
  have hl := lv_entry ([.ref a_fi, .int cu, .int dp]) (n := 3) (Nat.le_of_ble_eq_true rfl)
  rw [lg_entry_eq]
  generalize (lg_sl ([.ref a_fi, .int cu, .int dp]) ++ List.replicate (3 - (lg_sl ([.ref a_fi, .int cu, .int dp])).length) Slot.unset).toArray = ls at hl ⊢
  have hl : lv_has ls 3 [(0, .ref a_fi), (1, .int cu), (2, .int dp)] := hl
  obtain ⟨H, hH⟩ : ∃ H : Heap, H = s.heap := ⟨_, rfl⟩
  obtain ⟨locs, hlc⟩ : ∃ L : List Loc, L = [] := ⟨_, rfl⟩
  have hP : va_P (dC, dI) vwCl [(a_fi, .inr (3, [.int fr, .int cr, .int sc, .int sk, .int cc, .int ec, .ref a_fitr, .ref a_fien, .ref a_ficu])), (a_fitr, .inl (cI, m1, .inl ftr)), (a_fien, .inl (cJ, m2, .inr (.inl fen))), (a_ficu, .inl (cI, 256, .inl fcu))] H := by rw [hH]; exact hP
  have hS : va_S A s.heap H locs := by rw [hH, hlc]; exact hS
  suffices hW9 : W p l e ({ frames := 10, cells := 0, slots := 0, locals := 150 } : Room) s m ([.ref a_fi, .int cu, .int dp] : List Value).toArray below meth c H locs 0 0 (MQ below (jQ_FI_addCut dC dI cI cJ cZ cQ A a_fi a_ficu Post) ([.ref a_fi, .int cu, .int dp] : List Value).toArray s 0 0 A) (F0 m 0 ls []) by rw [hH, hlc] at hW9; exact hW9
  clear hH hlc
  rw [wp_FI_addCut] at h
  refine lv_aload_n hx hb d_FI_addCut_0 rfl (lv_at hl 0 rfl) ?_
  refine va_get (D := (dC, dI)) (ci := 3) (v := .ref a_ficu) (C := R_FI) (T := T_FI) (N := 9) hx hb hts in_FI hown hK hP 0 rfl rfl 8 (by decide) (hts _ mw_141) (fun _ h9 => h9) rfl d_FI_addCut_1 ?_
  refine lv_iload_n hx hb d_FI_addCut_4 rfl (lv_at hl 1 rfl) ?_
  refine va_iald hx hb hK hP 3 0 rfl rfl h.1 d_FI_addCut_5 ?_
  have h := h.2
  refine lv_iconst (v := (-1)) hx hb d_FI_addCut_6 (by decide) ?_
  refine lv_icmp_ne (tgt := 27) hx hb d_FI_addCut_7 (by decide) (fun c7 => ?_) (fun c7 => ?_)
  · have h := h.1 c7
    have hP9 := hP
    have hD9 := hD
    exact W.vret hx hb hr (fun t ht hW => ⟨⟨(fr, cr, sc, sk, cc, ec, m1, ftr, m2, fen, fcu), rfl, h, a_fitr, a_fien, by rw [ht]; exact hP9, va_K.moved hW.alike hK, hD9⟩, hS.F ht⟩) hS.2.2 d_FI_addCut_27
  · have h := h.2 c7
    refine lv_aload_n hx hb d_FI_addCut_10 rfl (lv_at hl 0 rfl) ?_
    refine va_get (D := (dC, dI)) (ci := 3) (v := .ref a_ficu) (C := R_FI) (T := T_FI) (N := 9) hx hb hts in_FI hown hK hP 0 rfl rfl 8 (by decide) (hts _ mw_141) (fun _ h9 => h9) rfl d_FI_addCut_11 ?_
    refine lv_iload_n hx hb d_FI_addCut_14 rfl (lv_at hl 1 rfl) ?_
    refine lv_iload_n hx hb d_FI_addCut_15 rfl (lv_at hl 2 rfl) ?_
    refine va_iast hx hb hK hP hD hS 3 0 rfl rfl h.1 d_FI_addCut_16 (fun H locs hP hD hS => ?_)
    have h := h.2
    obtain ⟨f1, ef1⟩ : ∃ y : Nat → Int32, y = upd fcu cu.toNatClampNeg dp := ⟨_, rfl⟩
    rw [← ef1] at hP hD
    have h := h f1 ef1
    have hP : va_P (dC, dI) vwCl [(a_fi, .inr (3, [.int fr, .int cr, .int sc, .int sk, .int cc, .int ec, .ref a_fitr, .ref a_fien, .ref a_ficu])), (a_fitr, .inl (cI, m1, .inl ftr)), (a_fien, .inl (cJ, m2, .inr (.inl fen))), (a_ficu, .inl (cI, 256, .inl f1))] H := hP
    have hD : va_D A [(a_fi, .inr (3, [.int fr, .int cr, .int sc, .int sk, .int cc, .int ec, .ref a_fitr, .ref a_fien, .ref a_ficu])), (a_fitr, .inl (cI, m1, .inl ftr)), (a_fien, .inl (cJ, m2, .inr (.inl fen))), (a_ficu, .inl (cI, 256, .inl f1))] := hD
    refine lv_aload_n hx hb d_FI_addCut_17 rfl (lv_at hl 0 rfl) ?_
    refine lv_dup hx hb d_FI_addCut_18 rfl ?_
    refine va_get (D := (dC, dI)) (ci := 3) (v := .int cc) (C := R_FI) (T := T_FI) (N := 9) hx hb hts in_FI hown hK hP 0 rfl rfl 4 (by decide) (hts _ mw_135) (fun _ h9 => h9) rfl d_FI_addCut_19 ?_
    refine lv_iconst (v := 1) hx hb d_FI_addCut_22 (by decide) ?_
    refine lv_iadd hx hb d_FI_addCut_23 ?_
    refine lv_topi (fun x2 ex2 => ?_)
    have h := h x2 ex2
    refine va_put (D := (dC, dI)) (ci := 3) (v := .int x2) (ty := .int) (C := R_FI) (T := T_FI) (N := 9) hx hb hts in_FI ty_FI tok_FI nm_FI hown hK hP hD hS 0 rfl rfl 4 (by decide) (hts _ mw_135) (fun _ h9 => h9) rfl (by decide +kernel) rfl rfl (Nat.le_of_ble_eq_true rfl) d_FI_addCut_24 (fun H locs hP hD hS => ?_)
    have hP : va_P (dC, dI) vwCl [(a_fi, .inr (3, [.int fr, .int cr, .int sc, .int sk, .int x2, .int ec, .ref a_fitr, .ref a_fien, .ref a_ficu])), (a_fitr, .inl (cI, m1, .inl ftr)), (a_fien, .inl (cJ, m2, .inr (.inl fen))), (a_ficu, .inl (cI, 256, .inl f1))] H := hP
    have hD : va_D A [(a_fi, .inr (3, [.int fr, .int cr, .int sc, .int sk, .int x2, .int ec, .ref a_fitr, .ref a_fien, .ref a_ficu])), (a_fitr, .inl (cI, m1, .inl ftr)), (a_fien, .inl (cJ, m2, .inr (.inl fen))), (a_ficu, .inl (cI, 256, .inl f1))] := hD
    have hP9 := hP
    have hD9 := hD
    exact W.vret hx hb hr (fun t ht hW => ⟨⟨(fr, cr, sc, sk, x2, ec, m1, ftr, m2, fen, f1), rfl, h, a_fitr, a_fien, by rw [ht]; exact hP9, va_K.moved hW.alike hK, hD9⟩, hS.F ht⟩) hS.2.2 d_FI_addCut_27

/-- what OrderMachines$Findings.sortEnds()V leaves -/
abbrev jQ_FI_sortEnds (dC : Nat → ClassId) (dI : Nat → Nat → Nat) (cI cJ cZ cQ : ClassId) (A : Nat → Prop) (a_fi a_ficu : Nat) (Post : Int32 → Int32 → Int32 → Int32 → Int32 → Int32 → Nat → (Nat → Int32) → Nat → (Nat → Int64) → (Nat → Int32) → Prop) : Array Value → State → Outcome → State → Prop := va_Qv (fun (u : Int32 × Int32 × Int32 × Int32 × Int32 × Int32 × Nat × (Nat → Int32) × Nat × (Nat → Int64) × (Nat → Int32)) => Post u.1 u.2.1 u.2.2.1 u.2.2.2.1 u.2.2.2.2.1 u.2.2.2.2.2.1 u.2.2.2.2.2.2.1 u.2.2.2.2.2.2.2.1 u.2.2.2.2.2.2.2.2.1 u.2.2.2.2.2.2.2.2.2.1 u.2.2.2.2.2.2.2.2.2.2) (fun (u : Int32 × Int32 × Int32 × Int32 × Int32 × Int32 × Nat × (Nat → Int32) × Nat × (Nat → Int64) × (Nat → Int32)) (t : State) => match u with
  | (fr, cr, sc, sk, cc, ec, m1, ftr, m2, fen, fcu) => ∃ (a_fitr a_fien : Nat), jPost (dC, dI) (jT cI cJ cZ cQ) A [(a_fi, .inr (3, [.int fr, .int cr, .int sc, .int sk, .int cc, .int ec, .ref a_fitr, .ref a_fien, .ref a_ficu])), (a_fitr, .inl (cI, m1, .inl ftr)), (a_fien, .inl (cJ, m2, .inr (.inl fen))), (a_ficu, .inl (cI, 256, .inl fcu))] t) A
def wp_FI_sortEnds_76 (Post : Int32 → Int32 → Int32 → Int32 → Int32 → Int32 → Nat → (Nat → Int32) → Nat → (Nat → Int64) → (Nat → Int32) → Prop) (K7 : Int32 → Int32 → Int32 → Int32 → Int32 → Int32 → Nat → (Nat → Int32) → Nat → (Nat → Int64) → (Nat → Int32) → Int32 → Prop) (K13 : Int32 → Int32 → Int32 → Int32 → Int32 → Int32 → Nat → (Nat → Int32) → Nat → (Nat → Int64) → (Nat → Int32) → Int32 → Int32 → Prop) (fr cr sc sk cc ec : Int32) (m1 : Nat) (ftr : Nat → Int32) (m2 : Nat) (fen : Nat → Int64) (fcu : Nat → Int32) (L1 L2 : Int32) (L3 : Int64) (L5 : Int32) : Prop :=
    vp_in L5 m2 ∧ ∀ f6 : Nat → Int64, f6 = vp_updL fen L5.toNatClampNeg L3 → ∀ x7 : Int32, x7 = L2 + 1 → K13 fr cr sc sk cc ec m1 ftr m2 f6 fcu L1 x7
def wp_FI_sortEnds_31 (Post : Int32 → Int32 → Int32 → Int32 → Int32 → Int32 → Nat → (Nat → Int32) → Nat → (Nat → Int64) → (Nat → Int32) → Prop) (K7 : Int32 → Int32 → Int32 → Int32 → Int32 → Int32 → Nat → (Nat → Int32) → Nat → (Nat → Int64) → (Nat → Int32) → Int32 → Prop) (K13 : Int32 → Int32 → Int32 → Int32 → Int32 → Int32 → Nat → (Nat → Int32) → Nat → (Nat → Int64) → (Nat → Int32) → Int32 → Int32 → Prop) : Nat → Int32 → Int32 → Int32 → Int32 → Int32 → Int32 → Nat → (Nat → Int32) → Nat → (Nat → Int64) → (Nat → Int32) → Int32 → Int32 → Int64 → Int32 → Prop
  | 0, _, _, _, _, _, _, _, _, _, _, _, _, _, _, _ => False
  | n_31 + 1, fr, cr, sc, sk, cc, ec, m1, ftr, m2, fen, fcu, L1, L2, L3, L5 =>
    ((L5 < L1 → wp_FI_sortEnds_76 Post K7 K13 fr cr sc sk cc ec m1 ftr m2 fen fcu L1 L2 L3 L5) ∧
    (¬ L5 < L1 → vp_in (L5 - L1) m2 ∧ (((lg_cmp (fen (L5 - L1).toNatClampNeg) L3) ≤ 0 → wp_FI_sortEnds_76 Post K7 K13 fr cr sc sk cc ec m1 ftr m2 fen fcu L1 L2 L3 L5) ∧
      (¬ (lg_cmp (fen (L5 - L1).toNatClampNeg) L3) ≤ 0 → vp_in (L5 - L1) m2 ∧ vp_in L5 m2 ∧ ∀ f4 : Nat → Int64, f4 = vp_updL fen L5.toNatClampNeg (fen (L5 - L1).toNatClampNeg) → ∀ x5 : Int32, x5 = L5 - L1 → (wp_FI_sortEnds_31 Post K7 K13 n_31) fr cr sc sk cc ec m1 ftr m2 f4 fcu L1 L2 L3 x5))))
def wp_FI_sortEnds_13 (Post : Int32 → Int32 → Int32 → Int32 → Int32 → Int32 → Nat → (Nat → Int32) → Nat → (Nat → Int64) → (Nat → Int32) → Prop) (K7 : Int32 → Int32 → Int32 → Int32 → Int32 → Int32 → Nat → (Nat → Int32) → Nat → (Nat → Int64) → (Nat → Int32) → Int32 → Prop) : Nat → Int32 → Int32 → Int32 → Int32 → Int32 → Int32 → Nat → (Nat → Int32) → Nat → (Nat → Int64) → (Nat → Int32) → Int32 → Int32 → Prop
  | 0, _, _, _, _, _, _, _, _, _, _, _, _, _ => False
  | n_13 + 1, fr, cr, sc, sk, cc, ec, m1, ftr, m2, fen, fcu, L1, L2 =>
    ((ec ≤ L2 → ∀ x2 : Int32, x2 = L1 / 2 → K7 fr cr sc sk cc ec m1 ftr m2 fen fcu x2) ∧
    (¬ ec ≤ L2 → vp_in L2 m2 ∧ ∀ x3 : Int64, x3 = fen L2.toNatClampNeg → (∃ n_31 : Nat, wp_FI_sortEnds_31 Post K7 (fun (fr : Int32) (cr : Int32) (sc : Int32) (sk : Int32) (cc : Int32) (ec : Int32) (m1 : Nat) (ftr : Nat → Int32) (m2 : Nat) (fen : Nat → Int64) (fcu : Nat → Int32) (L1 : Int32) (L2 : Int32) => wp_FI_sortEnds_13 Post K7 n_13 fr cr sc sk cc ec m1 ftr m2 fen fcu L1 L2) n_31 fr cr sc sk cc ec m1 ftr m2 fen fcu L1 L2 x3 L2)))
def wp_FI_sortEnds_7 (Post : Int32 → Int32 → Int32 → Int32 → Int32 → Int32 → Nat → (Nat → Int32) → Nat → (Nat → Int64) → (Nat → Int32) → Prop)  : Nat → Int32 → Int32 → Int32 → Int32 → Int32 → Int32 → Nat → (Nat → Int32) → Nat → (Nat → Int64) → (Nat → Int32) → Int32 → Prop
  | 0, _, _, _, _, _, _, _, _, _, _, _, _ => False
  | n_7 + 1, fr, cr, sc, sk, cc, ec, m1, ftr, m2, fen, fcu, L1 =>
    ((L1 ≤ 0 → Post fr cr sc sk cc ec m1 ftr m2 fen fcu) ∧
    (¬ L1 ≤ 0 → (∃ n_13 : Nat, wp_FI_sortEnds_13 Post (fun (fr : Int32) (cr : Int32) (sc : Int32) (sk : Int32) (cc : Int32) (ec : Int32) (m1 : Nat) (ftr : Nat → Int32) (m2 : Nat) (fen : Nat → Int64) (fcu : Nat → Int32) (L1 : Int32) => wp_FI_sortEnds_7 Post n_7 fr cr sc sk cc ec m1 ftr m2 fen fcu L1) n_13 fr cr sc sk cc ec m1 ftr m2 fen fcu L1 L1)))
/-- OrderMachines$Findings.sortEnds()V -/
def wp_FI_sortEnds (Post : Int32 → Int32 → Int32 → Int32 → Int32 → Int32 → Nat → (Nat → Int32) → Nat → (Nat → Int64) → (Nat → Int32) → Prop) (fr cr sc sk cc ec : Int32) (m1 : Nat) (ftr : Nat → Int32) (m2 : Nat) (fen : Nat → Int64) (fcu : Nat → Int32) : Prop :=
  ∀ x1 : Int32, x1 = ec / 2 → (∃ n_7 : Nat, wp_FI_sortEnds_7 Post n_7 fr cr sc sk cc ec m1 ftr m2 fen fcu x1)
set_option maxHeartbeats 4000000 in
set_option maxRecDepth 100000 in
theorem l_FI_sortEnds_76 {p : Program} {l : Launch} {e : Env} {s : State} {m : MethodId} {args : Array Value} {below : List Frame} {meth : Method} {c : Code} {dC : Nat → ClassId} {dI : Nat → Nat → Nat} {cI cJ cZ cQ : ClassId} {a_fi a_ficu : Nat} {A : Nat → Prop} {Post : Int32 → Int32 → Int32 → Int32 → Int32 → Int32 → Nat → (Nat → Int32) → Nat → (Nat → Int64) → (Nat → Int32) → Prop} (C0 : jC p l s m args meth c b_FI_sortEnds none 6 R_FI (dC, dI) cI cJ cZ cQ A) (K7 : Int32 → Int32 → Int32 → Int32 → Int32 → Int32 → Nat → (Nat → Int32) → Nat → (Nat → Int64) → (Nat → Int32) → Int32 → Prop) (hK7 : ∀ (fr cr sc sk cc ec : Int32) (m1 : Nat) (ftr : Nat → Int32) (m2 : Nat) (fen : Nat → Int64) (fcu : Nat → Int32) (L1 : Int32), ∀ (a_fitr a_fien : Nat), ∀ (H : Heap) (locs : List Loc) (ls : Array Slot), K7 fr cr sc sk cc ec m1 ftr m2 fen fcu L1 → va_P (dC, dI) vwCl [(a_fi, .inr (3, [.int fr, .int cr, .int sc, .int sk, .int cc, .int ec, .ref a_fitr, .ref a_fien, .ref a_ficu])), (a_fitr, .inl (cI, m1, .inl ftr)), (a_fien, .inl (cJ, m2, .inr (.inl fen))), (a_ficu, .inl (cI, 256, .inl fcu))] H → va_D A [(a_fi, .inr (3, [.int fr, .int cr, .int sc, .int sk, .int cc, .int ec, .ref a_fitr, .ref a_fien, .ref a_ficu])), (a_fitr, .inl (cI, m1, .inl ftr)), (a_fien, .inl (cJ, m2, .inr (.inl fen))), (a_ficu, .inl (cI, 256, .inl fcu))] → va_S A s.heap H locs → lv_has ls 6 [(0, .ref a_fi), (1, .int L1)] → W p l e ({ frames := 10, cells := 0, slots := 0, locals := 150 } : Room) s m args below meth c H locs 0 0 (MQ below (jQ_FI_sortEnds dC dI cI cJ cZ cQ A a_fi a_ficu Post) args s 0 0 A) (F0 m 7 ls [])) (K13 : Int32 → Int32 → Int32 → Int32 → Int32 → Int32 → Nat → (Nat → Int32) → Nat → (Nat → Int64) → (Nat → Int32) → Int32 → Int32 → Prop) (hK13 : ∀ (fr cr sc sk cc ec : Int32) (m1 : Nat) (ftr : Nat → Int32) (m2 : Nat) (fen : Nat → Int64) (fcu : Nat → Int32) (L1 L2 : Int32), ∀ (a_fitr a_fien : Nat), ∀ (H : Heap) (locs : List Loc) (ls : Array Slot), K13 fr cr sc sk cc ec m1 ftr m2 fen fcu L1 L2 → va_P (dC, dI) vwCl [(a_fi, .inr (3, [.int fr, .int cr, .int sc, .int sk, .int cc, .int ec, .ref a_fitr, .ref a_fien, .ref a_ficu])), (a_fitr, .inl (cI, m1, .inl ftr)), (a_fien, .inl (cJ, m2, .inr (.inl fen))), (a_ficu, .inl (cI, 256, .inl fcu))] H → va_D A [(a_fi, .inr (3, [.int fr, .int cr, .int sc, .int sk, .int cc, .int ec, .ref a_fitr, .ref a_fien, .ref a_ficu])), (a_fitr, .inl (cI, m1, .inl ftr)), (a_fien, .inl (cJ, m2, .inr (.inl fen))), (a_ficu, .inl (cI, 256, .inl fcu))] → va_S A s.heap H locs → lv_has ls 6 [(0, .ref a_fi), (1, .int L1), (2, .int L2)] → W p l e ({ frames := 10, cells := 0, slots := 0, locals := 150 } : Room) s m args below meth c H locs 0 0 (MQ below (jQ_FI_sortEnds dC dI cI cJ cZ cQ A a_fi a_ficu Post) args s 0 0 A) (F0 m 13 ls [])) : ∀ (fr cr sc sk cc ec : Int32) (m1 : Nat) (ftr : Nat → Int32) (m2 : Nat) (fen : Nat → Int64) (fcu : Nat → Int32) (L1 L2 : Int32) (L3 : Int64) (L5 : Int32), ∀ (a_fitr a_fien : Nat), ∀ (H : Heap) (locs : List Loc) (ls : Array Slot), wp_FI_sortEnds_76 Post K7 K13 fr cr sc sk cc ec m1 ftr m2 fen fcu L1 L2 L3 L5 → va_P (dC, dI) vwCl [(a_fi, .inr (3, [.int fr, .int cr, .int sc, .int sk, .int cc, .int ec, .ref a_fitr, .ref a_fien, .ref a_ficu])), (a_fitr, .inl (cI, m1, .inl ftr)), (a_fien, .inl (cJ, m2, .inr (.inl fen))), (a_ficu, .inl (cI, 256, .inl fcu))] H → va_D A [(a_fi, .inr (3, [.int fr, .int cr, .int sc, .int sk, .int cc, .int ec, .ref a_fitr, .ref a_fien, .ref a_ficu])), (a_fitr, .inl (cI, m1, .inl ftr)), (a_fien, .inl (cJ, m2, .inr (.inl fen))), (a_ficu, .inl (cI, 256, .inl fcu))] → va_S A s.heap H locs → lv_has ls 6 [(0, .ref a_fi), (1, .int L1), (2, .int L2), (3, .long L3), (5, .int L5)] → W p l e ({ frames := 10, cells := 0, slots := 0, locals := 150 } : Room) s m args below meth c H locs 0 0 (MQ below (jQ_FI_sortEnds dC dI cI cJ cZ cQ A a_fi a_ficu Post) args s 0 0 A) (F0 m 76 ls []) := by
  obtain ⟨hx, hb, hr, hml, hown, hts, hlocks, hK, hZ, hA, hst⟩ := id C0
  intro fr cr sc sk cc ec m1 ftr m2 fen fcu L1 L2 L3 L5 a_fitr a_fien H locs ls h hP hD hS hl
  rw [wp_FI_sortEnds_76] at h
  refine lv_aload_n hx hb d_FI_sortEnds_76 rfl (lv_at hl 0 rfl) ?_
  refine va_get (D := (dC, dI)) (ci := 3) (v := .ref a_fien) (C := R_FI) (T := T_FI) (N := 9) hx hb hts in_FI hown hK hP 0 rfl rfl 7 (by decide) (hts _ mw_140) (fun _ h9 => h9) rfl d_FI_sortEnds_77 ?_
  refine lv_iload hx hb d_FI_sortEnds_80 (lv_at hl 4 rfl) ?_
  refine lv_lload_n hx hb d_FI_sortEnds_82 rfl (lv_at hl 3 rfl) ?_
  refine va_last hx hb hK hP hD hS 2 1 rfl rfl h.1 d_FI_sortEnds_83 (fun H locs hP hD hS => ?_)
  have h := h.2
  obtain ⟨f6, ef6⟩ : ∃ y : Nat → Int64, y = vp_updL fen L5.toNatClampNeg L3 := ⟨_, rfl⟩
  rw [← ef6] at hP hD
  have h := h f6 ef6
  have hP : va_P (dC, dI) vwCl [(a_fi, .inr (3, [.int fr, .int cr, .int sc, .int sk, .int cc, .int ec, .ref a_fitr, .ref a_fien, .ref a_ficu])), (a_fitr, .inl (cI, m1, .inl ftr)), (a_fien, .inl (cJ, m2, .inr (.inl f6))), (a_ficu, .inl (cI, 256, .inl fcu))] H := hP
  have hD : va_D A [(a_fi, .inr (3, [.int fr, .int cr, .int sc, .int sk, .int cc, .int ec, .ref a_fitr, .ref a_fien, .ref a_ficu])), (a_fitr, .inl (cI, m1, .inl ftr)), (a_fien, .inl (cJ, m2, .inr (.inl f6))), (a_ficu, .inl (cI, 256, .inl fcu))] := hD
  obtain ⟨x7, ex7⟩ : ∃ y : Int32, y = L2 + 1 := ⟨_, rfl⟩
  have h := h x7 ex7
  refine lv_iinc (v := x7) (lv' := [(2, .int x7), (0, .ref a_fi), (1, .int L1), (3, .long L3), (5, .int L5)]) hx hb d_FI_sortEnds_84 hl (k := 2) rfl (by rw [ex7]; rfl) (by decide) rfl (fun ls hl => ?_)
  refine lv_goto (tgt := 13) hx hb d_FI_sortEnds_87 (by decide) ?_
  exact hK13 fr cr sc sk cc ec m1 ftr m2 f6 fcu L1 x7 a_fitr a_fien H locs ls h hP hD hS (lv_sub hl [1, 2, 0] rfl)
set_option maxHeartbeats 4000000 in
set_option maxRecDepth 100000 in
theorem l_FI_sortEnds_31 {p : Program} {l : Launch} {e : Env} {s : State} {m : MethodId} {args : Array Value} {below : List Frame} {meth : Method} {c : Code} {dC : Nat → ClassId} {dI : Nat → Nat → Nat} {cI cJ cZ cQ : ClassId} {a_fi a_ficu : Nat} {A : Nat → Prop} {Post : Int32 → Int32 → Int32 → Int32 → Int32 → Int32 → Nat → (Nat → Int32) → Nat → (Nat → Int64) → (Nat → Int32) → Prop} (C0 : jC p l s m args meth c b_FI_sortEnds none 6 R_FI (dC, dI) cI cJ cZ cQ A) (K7 : Int32 → Int32 → Int32 → Int32 → Int32 → Int32 → Nat → (Nat → Int32) → Nat → (Nat → Int64) → (Nat → Int32) → Int32 → Prop) (hK7 : ∀ (fr cr sc sk cc ec : Int32) (m1 : Nat) (ftr : Nat → Int32) (m2 : Nat) (fen : Nat → Int64) (fcu : Nat → Int32) (L1 : Int32), ∀ (a_fitr a_fien : Nat), ∀ (H : Heap) (locs : List Loc) (ls : Array Slot), K7 fr cr sc sk cc ec m1 ftr m2 fen fcu L1 → va_P (dC, dI) vwCl [(a_fi, .inr (3, [.int fr, .int cr, .int sc, .int sk, .int cc, .int ec, .ref a_fitr, .ref a_fien, .ref a_ficu])), (a_fitr, .inl (cI, m1, .inl ftr)), (a_fien, .inl (cJ, m2, .inr (.inl fen))), (a_ficu, .inl (cI, 256, .inl fcu))] H → va_D A [(a_fi, .inr (3, [.int fr, .int cr, .int sc, .int sk, .int cc, .int ec, .ref a_fitr, .ref a_fien, .ref a_ficu])), (a_fitr, .inl (cI, m1, .inl ftr)), (a_fien, .inl (cJ, m2, .inr (.inl fen))), (a_ficu, .inl (cI, 256, .inl fcu))] → va_S A s.heap H locs → lv_has ls 6 [(0, .ref a_fi), (1, .int L1)] → W p l e ({ frames := 10, cells := 0, slots := 0, locals := 150 } : Room) s m args below meth c H locs 0 0 (MQ below (jQ_FI_sortEnds dC dI cI cJ cZ cQ A a_fi a_ficu Post) args s 0 0 A) (F0 m 7 ls [])) (K13 : Int32 → Int32 → Int32 → Int32 → Int32 → Int32 → Nat → (Nat → Int32) → Nat → (Nat → Int64) → (Nat → Int32) → Int32 → Int32 → Prop) (hK13 : ∀ (fr cr sc sk cc ec : Int32) (m1 : Nat) (ftr : Nat → Int32) (m2 : Nat) (fen : Nat → Int64) (fcu : Nat → Int32) (L1 L2 : Int32), ∀ (a_fitr a_fien : Nat), ∀ (H : Heap) (locs : List Loc) (ls : Array Slot), K13 fr cr sc sk cc ec m1 ftr m2 fen fcu L1 L2 → va_P (dC, dI) vwCl [(a_fi, .inr (3, [.int fr, .int cr, .int sc, .int sk, .int cc, .int ec, .ref a_fitr, .ref a_fien, .ref a_ficu])), (a_fitr, .inl (cI, m1, .inl ftr)), (a_fien, .inl (cJ, m2, .inr (.inl fen))), (a_ficu, .inl (cI, 256, .inl fcu))] H → va_D A [(a_fi, .inr (3, [.int fr, .int cr, .int sc, .int sk, .int cc, .int ec, .ref a_fitr, .ref a_fien, .ref a_ficu])), (a_fitr, .inl (cI, m1, .inl ftr)), (a_fien, .inl (cJ, m2, .inr (.inl fen))), (a_ficu, .inl (cI, 256, .inl fcu))] → va_S A s.heap H locs → lv_has ls 6 [(0, .ref a_fi), (1, .int L1), (2, .int L2)] → W p l e ({ frames := 10, cells := 0, slots := 0, locals := 150 } : Room) s m args below meth c H locs 0 0 (MQ below (jQ_FI_sortEnds dC dI cI cJ cZ cQ A a_fi a_ficu Post) args s 0 0 A) (F0 m 13 ls [])) : ∀ n9 : Nat, ∀ (fr cr sc sk cc ec : Int32) (m1 : Nat) (ftr : Nat → Int32) (m2 : Nat) (fen : Nat → Int64) (fcu : Nat → Int32) (L1 L2 : Int32) (L3 : Int64) (L5 : Int32), ∀ (a_fitr a_fien : Nat), ∀ (H : Heap) (locs : List Loc) (ls : Array Slot), wp_FI_sortEnds_31 Post K7 K13 n9 fr cr sc sk cc ec m1 ftr m2 fen fcu L1 L2 L3 L5 → va_P (dC, dI) vwCl [(a_fi, .inr (3, [.int fr, .int cr, .int sc, .int sk, .int cc, .int ec, .ref a_fitr, .ref a_fien, .ref a_ficu])), (a_fitr, .inl (cI, m1, .inl ftr)), (a_fien, .inl (cJ, m2, .inr (.inl fen))), (a_ficu, .inl (cI, 256, .inl fcu))] H → va_D A [(a_fi, .inr (3, [.int fr, .int cr, .int sc, .int sk, .int cc, .int ec, .ref a_fitr, .ref a_fien, .ref a_ficu])), (a_fitr, .inl (cI, m1, .inl ftr)), (a_fien, .inl (cJ, m2, .inr (.inl fen))), (a_ficu, .inl (cI, 256, .inl fcu))] → va_S A s.heap H locs → lv_has ls 6 [(0, .ref a_fi), (1, .int L1), (2, .int L2), (3, .long L3), (5, .int L5)] → W p l e ({ frames := 10, cells := 0, slots := 0, locals := 150 } : Room) s m args below meth c H locs 0 0 (MQ below (jQ_FI_sortEnds dC dI cI cJ cZ cQ A a_fi a_ficu Post) args s 0 0 A) (F0 m 31 ls []) := by
  obtain ⟨hx, hb, hr, hml, hown, hts, hlocks, hK, hZ, hA, hst⟩ := id C0
  intro n9
  induction n9 with
  | zero =>
    intro fr cr sc sk cc ec m1 ftr m2 fen fcu L1 L2 L3 L5 a_fitr a_fien H locs ls h hP hD hS hl
    exact False.elim h
  | succ n_31 ih =>
    intro fr cr sc sk cc ec m1 ftr m2 fen fcu L1 L2 L3 L5 a_fitr a_fien H locs ls h hP hD hS hl
    rw [wp_FI_sortEnds_31] at h
    refine lv_iload hx hb d_FI_sortEnds_31 (lv_at hl 4 rfl) ?_
    refine lv_iload_n hx hb d_FI_sortEnds_33 rfl (lv_at hl 1 rfl) ?_
    refine lv_icmp_lt (tgt := 76) hx hb d_FI_sortEnds_34 (by decide) (fun c34 => ?_) (fun c34 => ?_)
    · have h := h.1 c34
      exact l_FI_sortEnds_76 C0 K7 hK7 K13 hK13 fr cr sc sk cc ec m1 ftr m2 fen fcu L1 L2 L3 L5 a_fitr a_fien H locs ls h hP hD hS hl
    · have h := h.2 c34
      refine lv_aload_n hx hb d_FI_sortEnds_37 rfl (lv_at hl 0 rfl) ?_
      refine va_get (D := (dC, dI)) (ci := 3) (v := .ref a_fien) (C := R_FI) (T := T_FI) (N := 9) hx hb hts in_FI hown hK hP 0 rfl rfl 7 (by decide) (hts _ mw_140) (fun _ h9 => h9) rfl d_FI_sortEnds_38 ?_
      refine lv_iload hx hb d_FI_sortEnds_41 (lv_at hl 4 rfl) ?_
      refine lv_iload_n hx hb d_FI_sortEnds_43 rfl (lv_at hl 1 rfl) ?_
      refine lv_isub hx hb d_FI_sortEnds_44 ?_
      refine va_lald hx hb hK hP 2 1 rfl rfl h.1 d_FI_sortEnds_45 ?_
      have h := h.2
      refine lv_lload_n hx hb d_FI_sortEnds_46 rfl (lv_at hl 3 rfl) ?_
      refine W.lcmp hx hb d_FI_sortEnds_47 ?_
      refine lv_if_le (tgt := 76) hx hb d_FI_sortEnds_48 (by decide) (fun c48 => ?_) (fun c48 => ?_)
      · have h := h.1 c48
        exact l_FI_sortEnds_76 C0 K7 hK7 K13 hK13 fr cr sc sk cc ec m1 ftr m2 fen fcu L1 L2 L3 L5 a_fitr a_fien H locs ls h hP hD hS hl
      · have h := h.2 c48
        refine lv_aload_n hx hb d_FI_sortEnds_51 rfl (lv_at hl 0 rfl) ?_
        refine va_get (D := (dC, dI)) (ci := 3) (v := .ref a_fien) (C := R_FI) (T := T_FI) (N := 9) hx hb hts in_FI hown hK hP 0 rfl rfl 7 (by decide) (hts _ mw_140) (fun _ h9 => h9) rfl d_FI_sortEnds_52 ?_
        refine lv_iload hx hb d_FI_sortEnds_55 (lv_at hl 4 rfl) ?_
        refine lv_aload_n hx hb d_FI_sortEnds_57 rfl (lv_at hl 0 rfl) ?_
        refine va_get (D := (dC, dI)) (ci := 3) (v := .ref a_fien) (C := R_FI) (T := T_FI) (N := 9) hx hb hts in_FI hown hK hP 0 rfl rfl 7 (by decide) (hts _ mw_140) (fun _ h9 => h9) rfl d_FI_sortEnds_58 ?_
        refine lv_iload hx hb d_FI_sortEnds_61 (lv_at hl 4 rfl) ?_
        refine lv_iload_n hx hb d_FI_sortEnds_63 rfl (lv_at hl 1 rfl) ?_
        refine lv_isub hx hb d_FI_sortEnds_64 ?_
        refine va_lald hx hb hK hP 2 1 rfl rfl h.1 d_FI_sortEnds_65 ?_
        have h := h.2
        refine va_last hx hb hK hP hD hS 2 1 rfl rfl h.1 d_FI_sortEnds_66 (fun H locs hP hD hS => ?_)
        have h := h.2
        obtain ⟨f4, ef4⟩ : ∃ y : Nat → Int64, y = vp_updL fen L5.toNatClampNeg (fen (L5 - L1).toNatClampNeg) := ⟨_, rfl⟩
        rw [← ef4] at hP hD
        have h := h f4 ef4
        have hP : va_P (dC, dI) vwCl [(a_fi, .inr (3, [.int fr, .int cr, .int sc, .int sk, .int cc, .int ec, .ref a_fitr, .ref a_fien, .ref a_ficu])), (a_fitr, .inl (cI, m1, .inl ftr)), (a_fien, .inl (cJ, m2, .inr (.inl f4))), (a_ficu, .inl (cI, 256, .inl fcu))] H := hP
        have hD : va_D A [(a_fi, .inr (3, [.int fr, .int cr, .int sc, .int sk, .int cc, .int ec, .ref a_fitr, .ref a_fien, .ref a_ficu])), (a_fitr, .inl (cI, m1, .inl ftr)), (a_fien, .inl (cJ, m2, .inr (.inl f4))), (a_ficu, .inl (cI, 256, .inl fcu))] := hD
        refine lv_iload hx hb d_FI_sortEnds_67 (lv_at hl 4 rfl) ?_
        refine lv_iload_n hx hb d_FI_sortEnds_69 rfl (lv_at hl 1 rfl) ?_
        refine lv_isub hx hb d_FI_sortEnds_70 ?_
        refine lv_topi (fun x5 ex5 => ?_)
        have h := h x5 ex5
        refine lv_istore (lv' := [(5, .int x5), (0, .ref a_fi), (1, .int L1), (2, .int L2), (3, .long L3)]) hx hb d_FI_sortEnds_71 hl (by decide) rfl (fun ls hl => ?_)
        refine lv_goto (tgt := 31) hx hb d_FI_sortEnds_73 (by decide) ?_
        exact ih fr cr sc sk cc ec m1 ftr m2 f4 fcu L1 L2 L3 x5 a_fitr a_fien H locs ls h hP hD hS (lv_sub hl [1, 2, 3, 4, 0] rfl)
set_option maxHeartbeats 4000000 in
set_option maxRecDepth 100000 in
theorem l_FI_sortEnds_13 {p : Program} {l : Launch} {e : Env} {s : State} {m : MethodId} {args : Array Value} {below : List Frame} {meth : Method} {c : Code} {dC : Nat → ClassId} {dI : Nat → Nat → Nat} {cI cJ cZ cQ : ClassId} {a_fi a_ficu : Nat} {A : Nat → Prop} {Post : Int32 → Int32 → Int32 → Int32 → Int32 → Int32 → Nat → (Nat → Int32) → Nat → (Nat → Int64) → (Nat → Int32) → Prop} (C0 : jC p l s m args meth c b_FI_sortEnds none 6 R_FI (dC, dI) cI cJ cZ cQ A) (K7 : Int32 → Int32 → Int32 → Int32 → Int32 → Int32 → Nat → (Nat → Int32) → Nat → (Nat → Int64) → (Nat → Int32) → Int32 → Prop) (hK7 : ∀ (fr cr sc sk cc ec : Int32) (m1 : Nat) (ftr : Nat → Int32) (m2 : Nat) (fen : Nat → Int64) (fcu : Nat → Int32) (L1 : Int32), ∀ (a_fitr a_fien : Nat), ∀ (H : Heap) (locs : List Loc) (ls : Array Slot), K7 fr cr sc sk cc ec m1 ftr m2 fen fcu L1 → va_P (dC, dI) vwCl [(a_fi, .inr (3, [.int fr, .int cr, .int sc, .int sk, .int cc, .int ec, .ref a_fitr, .ref a_fien, .ref a_ficu])), (a_fitr, .inl (cI, m1, .inl ftr)), (a_fien, .inl (cJ, m2, .inr (.inl fen))), (a_ficu, .inl (cI, 256, .inl fcu))] H → va_D A [(a_fi, .inr (3, [.int fr, .int cr, .int sc, .int sk, .int cc, .int ec, .ref a_fitr, .ref a_fien, .ref a_ficu])), (a_fitr, .inl (cI, m1, .inl ftr)), (a_fien, .inl (cJ, m2, .inr (.inl fen))), (a_ficu, .inl (cI, 256, .inl fcu))] → va_S A s.heap H locs → lv_has ls 6 [(0, .ref a_fi), (1, .int L1)] → W p l e ({ frames := 10, cells := 0, slots := 0, locals := 150 } : Room) s m args below meth c H locs 0 0 (MQ below (jQ_FI_sortEnds dC dI cI cJ cZ cQ A a_fi a_ficu Post) args s 0 0 A) (F0 m 7 ls [])) : ∀ n9 : Nat, ∀ (fr cr sc sk cc ec : Int32) (m1 : Nat) (ftr : Nat → Int32) (m2 : Nat) (fen : Nat → Int64) (fcu : Nat → Int32) (L1 L2 : Int32), ∀ (a_fitr a_fien : Nat), ∀ (H : Heap) (locs : List Loc) (ls : Array Slot), wp_FI_sortEnds_13 Post K7 n9 fr cr sc sk cc ec m1 ftr m2 fen fcu L1 L2 → va_P (dC, dI) vwCl [(a_fi, .inr (3, [.int fr, .int cr, .int sc, .int sk, .int cc, .int ec, .ref a_fitr, .ref a_fien, .ref a_ficu])), (a_fitr, .inl (cI, m1, .inl ftr)), (a_fien, .inl (cJ, m2, .inr (.inl fen))), (a_ficu, .inl (cI, 256, .inl fcu))] H → va_D A [(a_fi, .inr (3, [.int fr, .int cr, .int sc, .int sk, .int cc, .int ec, .ref a_fitr, .ref a_fien, .ref a_ficu])), (a_fitr, .inl (cI, m1, .inl ftr)), (a_fien, .inl (cJ, m2, .inr (.inl fen))), (a_ficu, .inl (cI, 256, .inl fcu))] → va_S A s.heap H locs → lv_has ls 6 [(0, .ref a_fi), (1, .int L1), (2, .int L2)] → W p l e ({ frames := 10, cells := 0, slots := 0, locals := 150 } : Room) s m args below meth c H locs 0 0 (MQ below (jQ_FI_sortEnds dC dI cI cJ cZ cQ A a_fi a_ficu Post) args s 0 0 A) (F0 m 13 ls []) := by
  obtain ⟨hx, hb, hr, hml, hown, hts, hlocks, hK, hZ, hA, hst⟩ := id C0
  intro n9
  induction n9 with
  | zero =>
    intro fr cr sc sk cc ec m1 ftr m2 fen fcu L1 L2 a_fitr a_fien H locs ls h hP hD hS hl
    exact False.elim h
  | succ n_13 ih =>
    intro fr cr sc sk cc ec m1 ftr m2 fen fcu L1 L2 a_fitr a_fien H locs ls h hP hD hS hl
    rw [wp_FI_sortEnds_13] at h
    refine lv_iload_n hx hb d_FI_sortEnds_13 rfl (lv_at hl 2 rfl) ?_
    refine lv_aload_n hx hb d_FI_sortEnds_14 rfl (lv_at hl 0 rfl) ?_
    refine va_get (D := (dC, dI)) (ci := 3) (v := .int ec) (C := R_FI) (T := T_FI) (N := 9) hx hb hts in_FI hown hK hP 0 rfl rfl 5 (by decide) (hts _ mw_137) (fun _ h9 => h9) rfl d_FI_sortEnds_15 ?_
    refine lv_icmp_ge (tgt := 90) hx hb d_FI_sortEnds_18 (by decide) (fun c18 => ?_) (fun c18 => ?_)
    · have h := h.1 c18
      refine lv_iload_n hx hb d_FI_sortEnds_90 rfl (lv_at hl 1 rfl) ?_
      refine lv_iconst (v := 2) hx hb d_FI_sortEnds_91 (by decide) ?_
      refine lv_idiv hx hb d_FI_sortEnds_92 (by decide) ?_
      refine lv_topi (fun x2 ex2 => ?_)
      have h := h x2 ex2
      refine lv_istore_n (lv' := [(1, .int x2), (0, .ref a_fi), (2, .int L2)]) hx hb d_FI_sortEnds_93 rfl hl (by decide) rfl (fun ls hl => ?_)
      refine lv_goto (tgt := 7) hx hb d_FI_sortEnds_94 (by decide) ?_
      exact hK7 fr cr sc sk cc ec m1 ftr m2 fen fcu x2 a_fitr a_fien H locs ls h hP hD hS (lv_sub hl [1, 0] rfl)
    · have h := h.2 c18
      refine lv_aload_n hx hb d_FI_sortEnds_21 rfl (lv_at hl 0 rfl) ?_
      refine va_get (D := (dC, dI)) (ci := 3) (v := .ref a_fien) (C := R_FI) (T := T_FI) (N := 9) hx hb hts in_FI hown hK hP 0 rfl rfl 7 (by decide) (hts _ mw_140) (fun _ h9 => h9) rfl d_FI_sortEnds_22 ?_
      refine lv_iload_n hx hb d_FI_sortEnds_25 rfl (lv_at hl 2 rfl) ?_
      refine va_lald hx hb hK hP 2 1 rfl rfl h.1 d_FI_sortEnds_26 ?_
      have h := h.2
      refine lv_topl (fun x3 ex3 => ?_)
      have h := h x3 ex3
      refine lv_lstore_n (lv' := [(3, .long x3), (0, .ref a_fi), (1, .int L1), (2, .int L2)]) hx hb d_FI_sortEnds_27 rfl hl (by decide) rfl (fun ls hl => ?_)
      refine lv_iload_n hx hb d_FI_sortEnds_28 rfl (lv_at hl 3 rfl) ?_
      refine lv_istore (lv' := [(5, .int L2), (3, .long x3), (0, .ref a_fi), (1, .int L1), (2, .int L2)]) hx hb d_FI_sortEnds_29 hl (by decide) rfl (fun ls hl => ?_)
      obtain ⟨n_31, h⟩ := h
      exact l_FI_sortEnds_31 C0 K7 hK7 (fun (fr : Int32) (cr : Int32) (sc : Int32) (sk : Int32) (cc : Int32) (ec : Int32) (m1 : Nat) (ftr : Nat → Int32) (m2 : Nat) (fen : Nat → Int64) (fcu : Nat → Int32) (L1 : Int32) (L2 : Int32) => wp_FI_sortEnds_13 Post K7 n_13 fr cr sc sk cc ec m1 ftr m2 fen fcu L1 L2) ih n_31 fr cr sc sk cc ec m1 ftr m2 fen fcu L1 L2 x3 L2 a_fitr a_fien H locs ls h hP hD hS (lv_sub hl [2, 3, 4, 1, 0] rfl)
set_option maxHeartbeats 4000000 in
set_option maxRecDepth 100000 in
theorem l_FI_sortEnds_7 {p : Program} {l : Launch} {e : Env} {s : State} {m : MethodId} {args : Array Value} {below : List Frame} {meth : Method} {c : Code} {dC : Nat → ClassId} {dI : Nat → Nat → Nat} {cI cJ cZ cQ : ClassId} {a_fi a_ficu : Nat} {A : Nat → Prop} {Post : Int32 → Int32 → Int32 → Int32 → Int32 → Int32 → Nat → (Nat → Int32) → Nat → (Nat → Int64) → (Nat → Int32) → Prop} (C0 : jC p l s m args meth c b_FI_sortEnds none 6 R_FI (dC, dI) cI cJ cZ cQ A)  : ∀ n9 : Nat, ∀ (fr cr sc sk cc ec : Int32) (m1 : Nat) (ftr : Nat → Int32) (m2 : Nat) (fen : Nat → Int64) (fcu : Nat → Int32) (L1 : Int32), ∀ (a_fitr a_fien : Nat), ∀ (H : Heap) (locs : List Loc) (ls : Array Slot), wp_FI_sortEnds_7 Post  n9 fr cr sc sk cc ec m1 ftr m2 fen fcu L1 → va_P (dC, dI) vwCl [(a_fi, .inr (3, [.int fr, .int cr, .int sc, .int sk, .int cc, .int ec, .ref a_fitr, .ref a_fien, .ref a_ficu])), (a_fitr, .inl (cI, m1, .inl ftr)), (a_fien, .inl (cJ, m2, .inr (.inl fen))), (a_ficu, .inl (cI, 256, .inl fcu))] H → va_D A [(a_fi, .inr (3, [.int fr, .int cr, .int sc, .int sk, .int cc, .int ec, .ref a_fitr, .ref a_fien, .ref a_ficu])), (a_fitr, .inl (cI, m1, .inl ftr)), (a_fien, .inl (cJ, m2, .inr (.inl fen))), (a_ficu, .inl (cI, 256, .inl fcu))] → va_S A s.heap H locs → lv_has ls 6 [(0, .ref a_fi), (1, .int L1)] → W p l e ({ frames := 10, cells := 0, slots := 0, locals := 150 } : Room) s m args below meth c H locs 0 0 (MQ below (jQ_FI_sortEnds dC dI cI cJ cZ cQ A a_fi a_ficu Post) args s 0 0 A) (F0 m 7 ls []) := by
  obtain ⟨hx, hb, hr, hml, hown, hts, hlocks, hK, hZ, hA, hst⟩ := id C0
  intro n9
  induction n9 with
  | zero =>
    intro fr cr sc sk cc ec m1 ftr m2 fen fcu L1 a_fitr a_fien H locs ls h hP hD hS hl
    exact False.elim h
  | succ n_7 ih =>
    intro fr cr sc sk cc ec m1 ftr m2 fen fcu L1 a_fitr a_fien H locs ls h hP hD hS hl
    rw [wp_FI_sortEnds_7] at h
    refine lv_iload_n hx hb d_FI_sortEnds_7 rfl (lv_at hl 1 rfl) ?_
    refine lv_if_le (tgt := 97) hx hb d_FI_sortEnds_8 (by decide) (fun c8 => ?_) (fun c8 => ?_)
    · have h := h.1 c8
      have hP9 := hP
      have hD9 := hD
      exact W.vret hx hb hr (fun t ht hW => ⟨⟨(fr, cr, sc, sk, cc, ec, m1, ftr, m2, fen, fcu), rfl, h, a_fitr, a_fien, by rw [ht]; exact hP9, va_K.moved hW.alike hK, hD9⟩, hS.F ht⟩) hS.2.2 d_FI_sortEnds_97
    · have h := h.2 c8
      refine lv_iload_n hx hb d_FI_sortEnds_11 rfl (lv_at hl 1 rfl) ?_
      refine lv_istore_n (lv' := [(2, .int L1), (0, .ref a_fi), (1, .int L1)]) hx hb d_FI_sortEnds_12 rfl hl (by decide) rfl (fun ls hl => ?_)
      obtain ⟨n_13, h⟩ := h
      exact l_FI_sortEnds_13 C0 (fun (fr : Int32) (cr : Int32) (sc : Int32) (sk : Int32) (cc : Int32) (ec : Int32) (m1 : Nat) (ftr : Nat → Int32) (m2 : Nat) (fen : Nat → Int64) (fcu : Nat → Int32) (L1 : Int32) => wp_FI_sortEnds_7 Post n_7 fr cr sc sk cc ec m1 ftr m2 fen fcu L1) ih n_13 fr cr sc sk cc ec m1 ftr m2 fen fcu L1 L1 a_fitr a_fien H locs ls h hP hD hS (lv_sub hl [1, 2, 0] rfl)
set_option maxHeartbeats 4000000 in
set_option maxRecDepth 100000 in
theorem c_FI_sortEnds (l : Launch) (dC : Nat → ClassId) (dI : Nat → Nat → Nat) (cI cJ cZ cQ : ClassId) (a_fi a_ficu : Nat) (a_fitr a_fien : Nat) (sz : Nat) (fr cr sc sk cc ec : Int32) (m1 : Nat) (ftr : Nat → Int32) (m2 : Nat) (fen : Nat → Int64) (fcu : Nat → Int32) (Post : Int32 → Int32 → Int32 → Int32 → Int32 → Int32 → Nat → (Nat → Int32) → Nat → (Nat → Int64) → (Nat → Int32) → Prop) (h : wp_FI_sortEnds Post fr cr sc sk cc ec m1 ftr m2 fen fcu) : Met l y_FI_sortEnds (.code y_FI_sortEnds b_FI_sortEnds 6 none :: jW) ({ frames := 10, cells := 0, slots := 0, locals := 150 } : Room) (jPre l (dC, dI) cI cJ cZ cQ [(a_fi, .inr (3, [.int fr, .int cr, .int sc, .int sk, .int cc, .int ec, .ref a_fitr, .ref a_fien, .ref a_ficu])), (a_fitr, .inl (cI, m1, .inl ftr)), (a_fien, .inl (cJ, m2, .inr (.inl fen))), (a_ficu, .inl (cI, 256, .inl fcu))] sz [.ref a_fi]) (jQ_FI_sortEnds dC dI cI cJ cZ cQ (va_A [(a_fi, .inr (3, [.int fr, .int cr, .int sc, .int sk, .int cc, .int ec, .ref a_fitr, .ref a_fien, .ref a_ficu])), (a_fitr, .inl (cI, m1, .inl ftr)), (a_fien, .inl (cJ, m2, .inr (.inl fen))), (a_ficu, .inl (cI, 256, .inl fcu))] sz) a_fi a_ficu Post) 0 0 (va_A [(a_fi, .inr (3, [.int fr, .int cr, .int sc, .int sk, .int cc, .int ec, .ref a_fitr, .ref a_fien, .ref a_ficu])), (a_fitr, .inl (cI, m1, .inl ftr)), (a_fien, .inl (cJ, m2, .inr (.inl fen))), (a_ficu, .inl (cI, 256, .inl fcu))] sz) := by
  refine Met.ofW (cc := b_FI_sortEnds) (maxL := 6) (ret := none) (by decide) rfl ?_
  intro p e s m args below meth c s₁ B hml hv
  obtain ⟨rfl, hsz, hP, hK, hD0, hZ, hst⟩ := hv
  subst hsz
  have hD := hD0.self (sz := s.heap.size)
  generalize hAe : va_A [(a_fi, .inr (3, [.int fr, .int cr, .int sc, .int sk, .int cc, .int ec, .ref a_fitr, .ref a_fien, .ref a_ficu])), (a_fitr, .inl (cI, m1, .inl ftr)), (a_fien, .inl (cJ, m2, .inr (.inl fen))), (a_ficu, .inl (cI, 256, .inl fcu))] s.heap.size = A at hD hZ ⊢
  have hA : ∀ q : Nat, s.heap.size ≤ q → A q := fun q h => by rw [← hAe]; exact Or.inr h
  have C0 : jC p l s m ([.ref a_fi] : List Value).toArray meth c b_FI_sortEnds none 6 R_FI (dC, dI) cI cJ cZ cQ A := ⟨B.exec, B.bytes, B.returns, hml, findClass_of_methodNamed B.named, fun w hw => atoms_spec (ws := (.code y_FI_sortEnds b_FI_sortEnds 6 none :: jW)) B.pre w (List.mem_cons_of_mem _ hw), B.notSynchronized, hK, hZ, hA, hst⟩
  obtain ⟨hx, hb, hr, hml, hown, hts, hlocks, hK, hZ, hA, hst⟩ := id C0
  have hS : va_S A s.heap s.heap [] := va_S.rf
  have hl := lv_entry ([.ref a_fi]) (n := 6) (Nat.le_of_ble_eq_true rfl)
  rw [lg_entry_eq]
  generalize (lg_sl ([.ref a_fi]) ++ List.replicate (6 - (lg_sl ([.ref a_fi])).length) Slot.unset).toArray = ls at hl ⊢
  have hl : lv_has ls 6 [(0, .ref a_fi)] := hl
  obtain ⟨H, hH⟩ : ∃ H : Heap, H = s.heap := ⟨_, rfl⟩
  obtain ⟨locs, hlc⟩ : ∃ L : List Loc, L = [] := ⟨_, rfl⟩
  have hP : va_P (dC, dI) vwCl [(a_fi, .inr (3, [.int fr, .int cr, .int sc, .int sk, .int cc, .int ec, .ref a_fitr, .ref a_fien, .ref a_ficu])), (a_fitr, .inl (cI, m1, .inl ftr)), (a_fien, .inl (cJ, m2, .inr (.inl fen))), (a_ficu, .inl (cI, 256, .inl fcu))] H := by rw [hH]; exact hP
  have hS : va_S A s.heap H locs := by rw [hH, hlc]; exact hS
  suffices hW9 : W p l e ({ frames := 10, cells := 0, slots := 0, locals := 150 } : Room) s m ([.ref a_fi] : List Value).toArray below meth c H locs 0 0 (MQ below (jQ_FI_sortEnds dC dI cI cJ cZ cQ A a_fi a_ficu Post) ([.ref a_fi] : List Value).toArray s 0 0 A) (F0 m 0 ls []) by rw [hH, hlc] at hW9; exact hW9
  clear hH hlc
  rw [wp_FI_sortEnds] at h
  refine lv_aload_n hx hb d_FI_sortEnds_0 rfl (lv_at hl 0 rfl) ?_
  refine va_get (D := (dC, dI)) (ci := 3) (v := .int ec) (C := R_FI) (T := T_FI) (N := 9) hx hb hts in_FI hown hK hP 0 rfl rfl 5 (by decide) (hts _ mw_137) (fun _ h9 => h9) rfl d_FI_sortEnds_1 ?_
  refine lv_iconst (v := 2) hx hb d_FI_sortEnds_4 (by decide) ?_
  refine lv_idiv hx hb d_FI_sortEnds_5 (by decide) ?_
  refine lv_topi (fun x1 ex1 => ?_)
  have h := h x1 ex1
  refine lv_istore_n (lv' := [(1, .int x1), (0, .ref a_fi)]) hx hb d_FI_sortEnds_6 rfl hl (by decide) rfl (fun ls hl => ?_)
  obtain ⟨n_7, h⟩ := h
  exact l_FI_sortEnds_7 C0  n_7 fr cr sc sk cc ec m1 ftr m2 fen fcu x1 a_fitr a_fien H locs ls h hP hD hS (lv_sub hl [1, 0] rfl)

/-- what OrderMachines$Findings.hasEnd(I)Z leaves -/
abbrev jQ_FI_hasEnd (dC : Nat → ClassId) (dI : Nat → Nat → Nat) (cI cJ cZ cQ : ClassId) (A : Nat → Prop) (a_fi a_ficu : Nat) (Post : Int32 → Int32 → Int32 → Int32 → Int32 → Int32 → Int32 → Nat → (Nat → Int32) → Nat → (Nat → Int64) → (Nat → Int32) → Prop) : Array Value → State → Outcome → State → Prop := va_Qi (fun (r : Int32) (u : Int32 × Int32 × Int32 × Int32 × Int32 × Int32 × Nat × (Nat → Int32) × Nat × (Nat → Int64) × (Nat → Int32)) => Post r u.1 u.2.1 u.2.2.1 u.2.2.2.1 u.2.2.2.2.1 u.2.2.2.2.2.1 u.2.2.2.2.2.2.1 u.2.2.2.2.2.2.2.1 u.2.2.2.2.2.2.2.2.1 u.2.2.2.2.2.2.2.2.2.1 u.2.2.2.2.2.2.2.2.2.2) (fun (u : Int32 × Int32 × Int32 × Int32 × Int32 × Int32 × Nat × (Nat → Int32) × Nat × (Nat → Int64) × (Nat → Int32)) (t : State) => match u with
  | (fr, cr, sc, sk, cc, ec, m1, ftr, m2, fen, fcu) => ∃ (a_fitr a_fien : Nat), jPost (dC, dI) (jT cI cJ cZ cQ) A [(a_fi, .inr (3, [.int fr, .int cr, .int sc, .int sk, .int cc, .int ec, .ref a_fitr, .ref a_fien, .ref a_ficu])), (a_fitr, .inl (cI, m1, .inl ftr)), (a_fien, .inl (cJ, m2, .inr (.inl fen))), (a_ficu, .inl (cI, 256, .inl fcu))] t) A
/-- OrderMachines$Findings.hasEnd(I)Z -/
def wp_FI_hasEnd (Post : Int32 → Int32 → Int32 → Int32 → Int32 → Int32 → Int32 → Nat → (Nat → Int32) → Nat → (Nat → Int64) → (Nat → Int32) → Prop) (fr cr sc sk cc ec : Int32) (m1 : Nat) (ftr : Nat → Int32) (m2 : Nat) (fen : Nat → Int64) (fcu : Nat → Int32) (k0 : Int32) : Prop :=
  ((k0 < 0 → Post 0 fr cr sc sk cc ec m1 ftr m2 fen fcu) ∧
  (¬ k0 < 0 → ((ec ≤ k0 → Post 0 fr cr sc sk cc ec m1 ftr m2 fen fcu) ∧
    (¬ ec ≤ k0 → Post 1 fr cr sc sk cc ec m1 ftr m2 fen fcu))))
set_option maxHeartbeats 4000000 in
set_option maxRecDepth 100000 in
theorem c_FI_hasEnd (l : Launch) (dC : Nat → ClassId) (dI : Nat → Nat → Nat) (cI cJ cZ cQ : ClassId) (a_fi a_ficu : Nat) (a_fitr a_fien : Nat) (sz : Nat) (fr cr sc sk cc ec : Int32) (m1 : Nat) (ftr : Nat → Int32) (m2 : Nat) (fen : Nat → Int64) (fcu : Nat → Int32) (k0 : Int32) (Post : Int32 → Int32 → Int32 → Int32 → Int32 → Int32 → Int32 → Nat → (Nat → Int32) → Nat → (Nat → Int64) → (Nat → Int32) → Prop) (h : wp_FI_hasEnd Post fr cr sc sk cc ec m1 ftr m2 fen fcu k0) : Met l y_FI_hasEnd (.code y_FI_hasEnd b_FI_hasEnd 2 (some .boolean) :: jW) ({ frames := 10, cells := 0, slots := 0, locals := 150 } : Room) (jPre l (dC, dI) cI cJ cZ cQ [(a_fi, .inr (3, [.int fr, .int cr, .int sc, .int sk, .int cc, .int ec, .ref a_fitr, .ref a_fien, .ref a_ficu])), (a_fitr, .inl (cI, m1, .inl ftr)), (a_fien, .inl (cJ, m2, .inr (.inl fen))), (a_ficu, .inl (cI, 256, .inl fcu))] sz [.ref a_fi, .int k0]) (jQ_FI_hasEnd dC dI cI cJ cZ cQ (va_A [(a_fi, .inr (3, [.int fr, .int cr, .int sc, .int sk, .int cc, .int ec, .ref a_fitr, .ref a_fien, .ref a_ficu])), (a_fitr, .inl (cI, m1, .inl ftr)), (a_fien, .inl (cJ, m2, .inr (.inl fen))), (a_ficu, .inl (cI, 256, .inl fcu))] sz) a_fi a_ficu Post) 0 0 (va_A [(a_fi, .inr (3, [.int fr, .int cr, .int sc, .int sk, .int cc, .int ec, .ref a_fitr, .ref a_fien, .ref a_ficu])), (a_fitr, .inl (cI, m1, .inl ftr)), (a_fien, .inl (cJ, m2, .inr (.inl fen))), (a_ficu, .inl (cI, 256, .inl fcu))] sz) := by
  refine Met.ofW (cc := b_FI_hasEnd) (maxL := 2) (ret := (some .boolean)) (by decide) rfl ?_
  intro p e s m args below meth c s₁ B hml hv
  obtain ⟨rfl, hsz, hP, hK, hD0, hZ, hst⟩ := hv
  subst hsz
  have hD := hD0.self (sz := s.heap.size)
  generalize hAe : va_A [(a_fi, .inr (3, [.int fr, .int cr, .int sc, .int sk, .int cc, .int ec, .ref a_fitr, .ref a_fien, .ref a_ficu])), (a_fitr, .inl (cI, m1, .inl ftr)), (a_fien, .inl (cJ, m2, .inr (.inl fen))), (a_ficu, .inl (cI, 256, .inl fcu))] s.heap.size = A at hD hZ ⊢
  have hA : ∀ q : Nat, s.heap.size ≤ q → A q := fun q h => by rw [← hAe]; exact Or.inr h
  have C0 : jC p l s m ([.ref a_fi, .int k0] : List Value).toArray meth c b_FI_hasEnd (some .boolean) 2 R_FI (dC, dI) cI cJ cZ cQ A := ⟨B.exec, B.bytes, B.returns, hml, findClass_of_methodNamed B.named, fun w hw => atoms_spec (ws := (.code y_FI_hasEnd b_FI_hasEnd 2 (some .boolean) :: jW)) B.pre w (List.mem_cons_of_mem _ hw), B.notSynchronized, hK, hZ, hA, hst⟩
  obtain ⟨hx, hb, hr, hml, hown, hts, hlocks, hK, hZ, hA, hst⟩ := id C0
  have hS : va_S A s.heap s.heap [] := va_S.rf
  have hl := lv_entry ([.ref a_fi, .int k0]) (n := 2) (Nat.le_of_ble_eq_true rfl)
  rw [lg_entry_eq]
  generalize (lg_sl ([.ref a_fi, .int k0]) ++ List.replicate (2 - (lg_sl ([.ref a_fi, .int k0])).length) Slot.unset).toArray = ls at hl ⊢
  have hl : lv_has ls 2 [(0, .ref a_fi), (1, .int k0)] := hl
  obtain ⟨H, hH⟩ : ∃ H : Heap, H = s.heap := ⟨_, rfl⟩
  obtain ⟨locs, hlc⟩ : ∃ L : List Loc, L = [] := ⟨_, rfl⟩
  have hP : va_P (dC, dI) vwCl [(a_fi, .inr (3, [.int fr, .int cr, .int sc, .int sk, .int cc, .int ec, .ref a_fitr, .ref a_fien, .ref a_ficu])), (a_fitr, .inl (cI, m1, .inl ftr)), (a_fien, .inl (cJ, m2, .inr (.inl fen))), (a_ficu, .inl (cI, 256, .inl fcu))] H := by rw [hH]; exact hP
  have hS : va_S A s.heap H locs := by rw [hH, hlc]; exact hS
  suffices hW9 : W p l e ({ frames := 10, cells := 0, slots := 0, locals := 150 } : Room) s m ([.ref a_fi, .int k0] : List Value).toArray below meth c H locs 0 0 (MQ below (jQ_FI_hasEnd dC dI cI cJ cZ cQ A a_fi a_ficu Post) ([.ref a_fi, .int k0] : List Value).toArray s 0 0 A) (F0 m 0 ls []) by rw [hH, hlc] at hW9; exact hW9
  clear hH hlc
  rw [wp_FI_hasEnd] at h
  refine lv_iload_n hx hb d_FI_hasEnd_0 rfl (lv_at hl 1 rfl) ?_
  refine lv_if_lt (tgt := 16) hx hb d_FI_hasEnd_1 (by decide) (fun c1 => ?_) (fun c1 => ?_)
  · have h := h.1 c1
    refine lv_iconst (v := 0) hx hb d_FI_hasEnd_16 (by decide) ?_
    have hP9 := hP
    have hD9 := hD
    exact W.zret (v := 0) hx hb hr rfl (fun t ht hW => ⟨⟨0, (fr, cr, sc, sk, cc, ec, m1, ftr, m2, fen, fcu), rfl, h, a_fitr, a_fien, by rw [ht]; exact hP9, va_K.moved hW.alike hK, hD9⟩, hS.F ht⟩) hS.2.2 d_FI_hasEnd_17
  · have h := h.2 c1
    refine lv_iload_n hx hb d_FI_hasEnd_4 rfl (lv_at hl 1 rfl) ?_
    refine lv_aload_n hx hb d_FI_hasEnd_5 rfl (lv_at hl 0 rfl) ?_
    refine va_get (D := (dC, dI)) (ci := 3) (v := .int ec) (C := R_FI) (T := T_FI) (N := 9) hx hb hts in_FI hown hK hP 0 rfl rfl 5 (by decide) (hts _ mw_137) (fun _ h9 => h9) rfl d_FI_hasEnd_6 ?_
    refine lv_icmp_ge (tgt := 16) hx hb d_FI_hasEnd_9 (by decide) (fun c9 => ?_) (fun c9 => ?_)
    · have h := h.1 c9
      refine lv_iconst (v := 0) hx hb d_FI_hasEnd_16 (by decide) ?_
      have hP9 := hP
      have hD9 := hD
      exact W.zret (v := 0) hx hb hr rfl (fun t ht hW => ⟨⟨0, (fr, cr, sc, sk, cc, ec, m1, ftr, m2, fen, fcu), rfl, h, a_fitr, a_fien, by rw [ht]; exact hP9, va_K.moved hW.alike hK, hD9⟩, hS.F ht⟩) hS.2.2 d_FI_hasEnd_17
    · have h := h.2 c9
      refine lv_iconst (v := 1) hx hb d_FI_hasEnd_12 (by decide) ?_
      refine lv_goto (tgt := 17) hx hb d_FI_hasEnd_13 (by decide) ?_
      have hP9 := hP
      have hD9 := hD
      exact W.zret (v := 1) hx hb hr rfl (fun t ht hW => ⟨⟨1, (fr, cr, sc, sk, cc, ec, m1, ftr, m2, fen, fcu), rfl, h, a_fitr, a_fien, by rw [ht]; exact hP9, va_K.moved hW.alike hK, hD9⟩, hS.F ht⟩) hS.2.2 d_FI_hasEnd_17

/-- what OrderMachines$Findings.outcomeAt(I)J leaves -/
abbrev jQ_FI_outcomeAt (dC : Nat → ClassId) (dI : Nat → Nat → Nat) (cI cJ cZ cQ : ClassId) (A : Nat → Prop) (a_fi a_ficu : Nat) (Post : Int64 → Int32 → Int32 → Int32 → Int32 → Int32 → Int32 → Nat → (Nat → Int32) → Nat → (Nat → Int64) → (Nat → Int32) → Prop) : Array Value → State → Outcome → State → Prop := va_Ql (fun (r : Int64) (u : Int32 × Int32 × Int32 × Int32 × Int32 × Int32 × Nat × (Nat → Int32) × Nat × (Nat → Int64) × (Nat → Int32)) => Post r u.1 u.2.1 u.2.2.1 u.2.2.2.1 u.2.2.2.2.1 u.2.2.2.2.2.1 u.2.2.2.2.2.2.1 u.2.2.2.2.2.2.2.1 u.2.2.2.2.2.2.2.2.1 u.2.2.2.2.2.2.2.2.2.1 u.2.2.2.2.2.2.2.2.2.2) (fun (u : Int32 × Int32 × Int32 × Int32 × Int32 × Int32 × Nat × (Nat → Int32) × Nat × (Nat → Int64) × (Nat → Int32)) (t : State) => match u with
  | (fr, cr, sc, sk, cc, ec, m1, ftr, m2, fen, fcu) => ∃ (a_fitr a_fien : Nat), jPost (dC, dI) (jT cI cJ cZ cQ) A [(a_fi, .inr (3, [.int fr, .int cr, .int sc, .int sk, .int cc, .int ec, .ref a_fitr, .ref a_fien, .ref a_ficu])), (a_fitr, .inl (cI, m1, .inl ftr)), (a_fien, .inl (cJ, m2, .inr (.inl fen))), (a_ficu, .inl (cI, 256, .inl fcu))] t) A
/-- OrderMachines$Findings.outcomeAt(I)J -/
def wp_FI_outcomeAt (Post : Int64 → Int32 → Int32 → Int32 → Int32 → Int32 → Int32 → Nat → (Nat → Int32) → Nat → (Nat → Int64) → (Nat → Int32) → Prop) (fr cr sc sk cc ec : Int32) (m1 : Nat) (ftr : Nat → Int32) (m2 : Nat) (fen : Nat → Int64) (fcu : Nat → Int32) (k0 : Int32) : Prop :=
  vp_in k0 m2 ∧ Post ((fen k0.toNatClampNeg) >>> ((14 : Int32).toInt64 &&& 63)) fr cr sc sk cc ec m1 ftr m2 fen fcu
set_option maxHeartbeats 4000000 in
set_option maxRecDepth 100000 in
theorem c_FI_outcomeAt (l : Launch) (dC : Nat → ClassId) (dI : Nat → Nat → Nat) (cI cJ cZ cQ : ClassId) (a_fi a_ficu : Nat) (a_fitr a_fien : Nat) (sz : Nat) (fr cr sc sk cc ec : Int32) (m1 : Nat) (ftr : Nat → Int32) (m2 : Nat) (fen : Nat → Int64) (fcu : Nat → Int32) (k0 : Int32) (Post : Int64 → Int32 → Int32 → Int32 → Int32 → Int32 → Int32 → Nat → (Nat → Int32) → Nat → (Nat → Int64) → (Nat → Int32) → Prop) (h : wp_FI_outcomeAt Post fr cr sc sk cc ec m1 ftr m2 fen fcu k0) : Met l y_FI_outcomeAt (.code y_FI_outcomeAt b_FI_outcomeAt 2 (some .long) :: jW) ({ frames := 10, cells := 0, slots := 0, locals := 150 } : Room) (jPre l (dC, dI) cI cJ cZ cQ [(a_fi, .inr (3, [.int fr, .int cr, .int sc, .int sk, .int cc, .int ec, .ref a_fitr, .ref a_fien, .ref a_ficu])), (a_fitr, .inl (cI, m1, .inl ftr)), (a_fien, .inl (cJ, m2, .inr (.inl fen))), (a_ficu, .inl (cI, 256, .inl fcu))] sz [.ref a_fi, .int k0]) (jQ_FI_outcomeAt dC dI cI cJ cZ cQ (va_A [(a_fi, .inr (3, [.int fr, .int cr, .int sc, .int sk, .int cc, .int ec, .ref a_fitr, .ref a_fien, .ref a_ficu])), (a_fitr, .inl (cI, m1, .inl ftr)), (a_fien, .inl (cJ, m2, .inr (.inl fen))), (a_ficu, .inl (cI, 256, .inl fcu))] sz) a_fi a_ficu Post) 0 0 (va_A [(a_fi, .inr (3, [.int fr, .int cr, .int sc, .int sk, .int cc, .int ec, .ref a_fitr, .ref a_fien, .ref a_ficu])), (a_fitr, .inl (cI, m1, .inl ftr)), (a_fien, .inl (cJ, m2, .inr (.inl fen))), (a_ficu, .inl (cI, 256, .inl fcu))] sz) := by
  refine Met.ofW (cc := b_FI_outcomeAt) (maxL := 2) (ret := (some .long)) (by decide) rfl ?_
  intro p e s m args below meth c s₁ B hml hv
  obtain ⟨rfl, hsz, hP, hK, hD0, hZ, hst⟩ := hv
  subst hsz
  have hD := hD0.self (sz := s.heap.size)
  generalize hAe : va_A [(a_fi, .inr (3, [.int fr, .int cr, .int sc, .int sk, .int cc, .int ec, .ref a_fitr, .ref a_fien, .ref a_ficu])), (a_fitr, .inl (cI, m1, .inl ftr)), (a_fien, .inl (cJ, m2, .inr (.inl fen))), (a_ficu, .inl (cI, 256, .inl fcu))] s.heap.size = A at hD hZ ⊢
  have hA : ∀ q : Nat, s.heap.size ≤ q → A q := fun q h => by rw [← hAe]; exact Or.inr h
  have C0 : jC p l s m ([.ref a_fi, .int k0] : List Value).toArray meth c b_FI_outcomeAt (some .long) 2 R_FI (dC, dI) cI cJ cZ cQ A := ⟨B.exec, B.bytes, B.returns, hml, findClass_of_methodNamed B.named, fun w hw => atoms_spec (ws := (.code y_FI_outcomeAt b_FI_outcomeAt 2 (some .long) :: jW)) B.pre w (List.mem_cons_of_mem _ hw), B.notSynchronized, hK, hZ, hA, hst⟩
  obtain ⟨hx, hb, hr, hml, hown, hts, hlocks, hK, hZ, hA, hst⟩ := id C0
  have hS : va_S A s.heap s.heap [] := va_S.rf
  have hl := lv_entry ([.ref a_fi, .int k0]) (n := 2) (Nat.le_of_ble_eq_true rfl)
  rw [lg_entry_eq]
  generalize (lg_sl ([.ref a_fi, .int k0]) ++ List.replicate (2 - (lg_sl ([.ref a_fi, .int k0])).length) Slot.unset).toArray = ls at hl ⊢
  have hl : lv_has ls 2 [(0, .ref a_fi), (1, .int k0)] := hl
  obtain ⟨H, hH⟩ : ∃ H : Heap, H = s.heap := ⟨_, rfl⟩
  obtain ⟨locs, hlc⟩ : ∃ L : List Loc, L = [] := ⟨_, rfl⟩
  have hP : va_P (dC, dI) vwCl [(a_fi, .inr (3, [.int fr, .int cr, .int sc, .int sk, .int cc, .int ec, .ref a_fitr, .ref a_fien, .ref a_ficu])), (a_fitr, .inl (cI, m1, .inl ftr)), (a_fien, .inl (cJ, m2, .inr (.inl fen))), (a_ficu, .inl (cI, 256, .inl fcu))] H := by rw [hH]; exact hP
  have hS : va_S A s.heap H locs := by rw [hH, hlc]; exact hS
  suffices hW9 : W p l e ({ frames := 10, cells := 0, slots := 0, locals := 150 } : Room) s m ([.ref a_fi, .int k0] : List Value).toArray below meth c H locs 0 0 (MQ below (jQ_FI_outcomeAt dC dI cI cJ cZ cQ A a_fi a_ficu Post) ([.ref a_fi, .int k0] : List Value).toArray s 0 0 A) (F0 m 0 ls []) by rw [hH, hlc] at hW9; exact hW9
  clear hH hlc
  rw [wp_FI_outcomeAt] at h
  refine lv_aload_n hx hb d_FI_outcomeAt_0 rfl (lv_at hl 0 rfl) ?_
  refine va_get (D := (dC, dI)) (ci := 3) (v := .ref a_fien) (C := R_FI) (T := T_FI) (N := 9) hx hb hts in_FI hown hK hP 0 rfl rfl 7 (by decide) (hts _ mw_140) (fun _ h9 => h9) rfl d_FI_outcomeAt_1 ?_
  refine lv_iload_n hx hb d_FI_outcomeAt_4 rfl (lv_at hl 1 rfl) ?_
  refine va_lald hx hb hK hP 2 1 rfl rfl h.1 d_FI_outcomeAt_5 ?_
  have h := h.2
  refine lv_bipush (v := 14) hx hb d_FI_outcomeAt_6 (by decide) ?_
  refine lv_lshr hx hb d_FI_outcomeAt_8 rfl ?_
  have hP9 := hP
  have hD9 := hD
  exact W.lret (v := (fen k0.toNatClampNeg) >>> ((14 : Int32).toInt64 &&& 63)) hx hb hr (fun t ht hW => ⟨⟨(fen k0.toNatClampNeg) >>> ((14 : Int32).toInt64 &&& 63), (fr, cr, sc, sk, cc, ec, m1, ftr, m2, fen, fcu), rfl, h, a_fitr, a_fien, by rw [ht]; exact hP9, va_K.moved hW.alike hK, hD9⟩, hS.F ht⟩) hS.2.2 d_FI_outcomeAt_9

/-- what OrderMachines$Findings.hasOutcome(J)Z leaves -/
abbrev jQ_FI_hasOutcome (dC : Nat → ClassId) (dI : Nat → Nat → Nat) (cI cJ cZ cQ : ClassId) (A : Nat → Prop) (a_fi a_ficu : Nat) (Post : Int32 → Int32 → Int32 → Int32 → Int32 → Int32 → Int32 → Nat → (Nat → Int32) → Nat → (Nat → Int64) → (Nat → Int32) → Prop) : Array Value → State → Outcome → State → Prop := va_Qi (fun (r : Int32) (u : Int32 × Int32 × Int32 × Int32 × Int32 × Int32 × Nat × (Nat → Int32) × Nat × (Nat → Int64) × (Nat → Int32)) => Post r u.1 u.2.1 u.2.2.1 u.2.2.2.1 u.2.2.2.2.1 u.2.2.2.2.2.1 u.2.2.2.2.2.2.1 u.2.2.2.2.2.2.2.1 u.2.2.2.2.2.2.2.2.1 u.2.2.2.2.2.2.2.2.2.1 u.2.2.2.2.2.2.2.2.2.2) (fun (u : Int32 × Int32 × Int32 × Int32 × Int32 × Int32 × Nat × (Nat → Int32) × Nat × (Nat → Int64) × (Nat → Int32)) (t : State) => match u with
  | (fr, cr, sc, sk, cc, ec, m1, ftr, m2, fen, fcu) => ∃ (a_fitr a_fien : Nat), jPost (dC, dI) (jT cI cJ cZ cQ) A [(a_fi, .inr (3, [.int fr, .int cr, .int sc, .int sk, .int cc, .int ec, .ref a_fitr, .ref a_fien, .ref a_ficu])), (a_fitr, .inl (cI, m1, .inl ftr)), (a_fien, .inl (cJ, m2, .inr (.inl fen))), (a_ficu, .inl (cI, 256, .inl fcu))] t) A
def wp_FI_hasOutcome_45 (Post : Int32 → Int32 → Int32 → Int32 → Int32 → Int32 → Int32 → Nat → (Nat → Int32) → Nat → (Nat → Int64) → (Nat → Int32) → Prop) (K8 : Int32 → Int32 → Int32 → Int32 → Int32 → Int32 → Nat → (Nat → Int32) → Nat → (Nat → Int64) → (Nat → Int32) → Int64 → Int32 → Int32 → Prop) (fr cr sc sk cc ec : Int32) (m1 : Nat) (ftr : Nat → Int32) (m2 : Nat) (fen : Nat → Int64) (fcu : Nat → Int32) (L1 : Int64) (L3 L4 : Int32) : Prop :=
    K8 fr cr sc sk cc ec m1 ftr m2 fen fcu L1 L3 L4
def wp_FI_hasOutcome_8 (Post : Int32 → Int32 → Int32 → Int32 → Int32 → Int32 → Int32 → Nat → (Nat → Int32) → Nat → (Nat → Int64) → (Nat → Int32) → Prop)  : Nat → Int32 → Int32 → Int32 → Int32 → Int32 → Int32 → Nat → (Nat → Int32) → Nat → (Nat → Int64) → (Nat → Int32) → Int64 → Int32 → Int32 → Prop
  | 0, _, _, _, _, _, _, _, _, _, _, _, _, _, _ => False
  | n_8 + 1, fr, cr, sc, sk, cc, ec, m1, ftr, m2, fen, fcu, L1, L3, L4 =>
    ((L4 ≤ L3 → ((ec ≤ L3 → Post 0 fr cr sc sk cc ec m1 ftr m2 fen fcu) ∧
      (¬ ec ≤ L3 → wp_FI_outcomeAt (fun (r1 : Int64) (u2 : Int32) (u3 : Int32) (u4 : Int32) (u5 : Int32) (u6 : Int32) (u7 : Int32) (u8 : Nat) (u9 : Nat → Int32) (u10 : Nat) (u11 : Nat → Int64) (u12 : Nat → Int32) => ((¬ (lg_cmp r1 L1) = 0 → Post 0 u2 u3 u4 u5 u6 u7 u8 u9 u10 u11 u12) ∧
        ((lg_cmp r1 L1) = 0 → Post 1 u2 u3 u4 u5 u6 u7 u8 u9 u10 u11 u12))) fr cr sc sk cc ec m1 ftr m2 fen fcu L3))) ∧
    (¬ L4 ≤ L3 → ∀ x15 : Int32, x15 = (L3 + L4) / 2 → wp_FI_outcomeAt (fun (r16 : Int64) (u17 : Int32) (u18 : Int32) (u19 : Int32) (u20 : Int32) (u21 : Int32) (u22 : Int32) (u23 : Nat) (u24 : Nat → Int32) (u25 : Nat) (u26 : Nat → Int64) (u27 : Nat → Int32) => ((0 ≤ (lg_cmp r16 L1) → wp_FI_hasOutcome_45 Post (fun (fr : Int32) (cr : Int32) (sc : Int32) (sk : Int32) (cc : Int32) (ec : Int32) (m1 : Nat) (ftr : Nat → Int32) (m2 : Nat) (fen : Nat → Int64) (fcu : Nat → Int32) (L1 : Int64) (L3 : Int32) (L4 : Int32) => wp_FI_hasOutcome_8 Post n_8 fr cr sc sk cc ec m1 ftr m2 fen fcu L1 L3 L4) u17 u18 u19 u20 u21 u22 u23 u24 u25 u26 u27 L1 L3 x15) ∧
      (¬ 0 ≤ (lg_cmp r16 L1) → ∀ x30 : Int32, x30 = x15 + 1 → wp_FI_hasOutcome_45 Post (fun (fr : Int32) (cr : Int32) (sc : Int32) (sk : Int32) (cc : Int32) (ec : Int32) (m1 : Nat) (ftr : Nat → Int32) (m2 : Nat) (fen : Nat → Int64) (fcu : Nat → Int32) (L1 : Int64) (L3 : Int32) (L4 : Int32) => wp_FI_hasOutcome_8 Post n_8 fr cr sc sk cc ec m1 ftr m2 fen fcu L1 L3 L4) u17 u18 u19 u20 u21 u22 u23 u24 u25 u26 u27 L1 x30 L4))) fr cr sc sk cc ec m1 ftr m2 fen fcu x15))
/-- OrderMachines$Findings.hasOutcome(J)Z -/
def wp_FI_hasOutcome (Post : Int32 → Int32 → Int32 → Int32 → Int32 → Int32 → Int32 → Nat → (Nat → Int32) → Nat → (Nat → Int64) → (Nat → Int32) → Prop) (fr cr sc sk cc ec : Int32) (m1 : Nat) (ftr : Nat → Int32) (m2 : Nat) (fen : Nat → Int64) (fcu : Nat → Int32) (oc : Int64) : Prop :=
  (∃ n_8 : Nat, wp_FI_hasOutcome_8 Post n_8 fr cr sc sk cc ec m1 ftr m2 fen fcu oc 0 ec)
set_option maxHeartbeats 4000000 in
set_option maxRecDepth 100000 in
theorem l_FI_hasOutcome_45 {p : Program} {l : Launch} {e : Env} {s : State} {m : MethodId} {args : Array Value} {below : List Frame} {meth : Method} {c : Code} {dC : Nat → ClassId} {dI : Nat → Nat → Nat} {cI cJ cZ cQ : ClassId} {a_fi a_ficu : Nat} {A : Nat → Prop} {Post : Int32 → Int32 → Int32 → Int32 → Int32 → Int32 → Int32 → Nat → (Nat → Int32) → Nat → (Nat → Int64) → (Nat → Int32) → Prop} (C0 : jC p l s m args meth c b_FI_hasOutcome (some .boolean) 6 R_FI (dC, dI) cI cJ cZ cQ A) (K8 : Int32 → Int32 → Int32 → Int32 → Int32 → Int32 → Nat → (Nat → Int32) → Nat → (Nat → Int64) → (Nat → Int32) → Int64 → Int32 → Int32 → Prop) (hK8 : ∀ (fr cr sc sk cc ec : Int32) (m1 : Nat) (ftr : Nat → Int32) (m2 : Nat) (fen : Nat → Int64) (fcu : Nat → Int32) (L1 : Int64) (L3 L4 : Int32), ∀ (a_fitr a_fien : Nat), ∀ (H : Heap) (locs : List Loc) (ls : Array Slot), K8 fr cr sc sk cc ec m1 ftr m2 fen fcu L1 L3 L4 → va_P (dC, dI) vwCl [(a_fi, .inr (3, [.int fr, .int cr, .int sc, .int sk, .int cc, .int ec, .ref a_fitr, .ref a_fien, .ref a_ficu])), (a_fitr, .inl (cI, m1, .inl ftr)), (a_fien, .inl (cJ, m2, .inr (.inl fen))), (a_ficu, .inl (cI, 256, .inl fcu))] H → va_D A [(a_fi, .inr (3, [.int fr, .int cr, .int sc, .int sk, .int cc, .int ec, .ref a_fitr, .ref a_fien, .ref a_ficu])), (a_fitr, .inl (cI, m1, .inl ftr)), (a_fien, .inl (cJ, m2, .inr (.inl fen))), (a_ficu, .inl (cI, 256, .inl fcu))] → va_S A s.heap H locs → lv_has ls 6 [(0, .ref a_fi), (1, .long L1), (3, .int L3), (4, .int L4)] → W p l e ({ frames := 11, cells := 0, slots := 0, locals := 171 } : Room) s m args below meth c H locs 0 0 (MQ below (jQ_FI_hasOutcome dC dI cI cJ cZ cQ A a_fi a_ficu Post) args s 0 0 A) (F0 m 8 ls [])) : ∀ (fr cr sc sk cc ec : Int32) (m1 : Nat) (ftr : Nat → Int32) (m2 : Nat) (fen : Nat → Int64) (fcu : Nat → Int32) (L1 : Int64) (L3 L4 : Int32), ∀ (a_fitr a_fien : Nat), ∀ (H : Heap) (locs : List Loc) (ls : Array Slot), wp_FI_hasOutcome_45 Post K8 fr cr sc sk cc ec m1 ftr m2 fen fcu L1 L3 L4 → va_P (dC, dI) vwCl [(a_fi, .inr (3, [.int fr, .int cr, .int sc, .int sk, .int cc, .int ec, .ref a_fitr, .ref a_fien, .ref a_ficu])), (a_fitr, .inl (cI, m1, .inl ftr)), (a_fien, .inl (cJ, m2, .inr (.inl fen))), (a_ficu, .inl (cI, 256, .inl fcu))] H → va_D A [(a_fi, .inr (3, [.int fr, .int cr, .int sc, .int sk, .int cc, .int ec, .ref a_fitr, .ref a_fien, .ref a_ficu])), (a_fitr, .inl (cI, m1, .inl ftr)), (a_fien, .inl (cJ, m2, .inr (.inl fen))), (a_ficu, .inl (cI, 256, .inl fcu))] → va_S A s.heap H locs → lv_has ls 6 [(0, .ref a_fi), (1, .long L1), (3, .int L3), (4, .int L4)] → W p l e ({ frames := 11, cells := 0, slots := 0, locals := 171 } : Room) s m args below meth c H locs 0 0 (MQ below (jQ_FI_hasOutcome dC dI cI cJ cZ cQ A a_fi a_ficu Post) args s 0 0 A) (F0 m 45 ls []) := by
  obtain ⟨hx, hb, hr, hml, hown, hts, hlocks, hK, hZ, hA, hst⟩ := id C0
  intro fr cr sc sk cc ec m1 ftr m2 fen fcu L1 L3 L4 a_fitr a_fien H locs ls h hP hD hS hl
  rw [wp_FI_hasOutcome_45] at h
  refine lv_goto (tgt := 8) hx hb d_FI_hasOutcome_45 (by decide) ?_
  exact hK8 fr cr sc sk cc ec m1 ftr m2 fen fcu L1 L3 L4 a_fitr a_fien H locs ls h hP hD hS hl
set_option maxHeartbeats 4000000 in
set_option maxRecDepth 100000 in
theorem l_FI_hasOutcome_8 {p : Program} {l : Launch} {e : Env} {s : State} {m : MethodId} {args : Array Value} {below : List Frame} {meth : Method} {c : Code} {dC : Nat → ClassId} {dI : Nat → Nat → Nat} {cI cJ cZ cQ : ClassId} {a_fi a_ficu : Nat} {A : Nat → Prop} {Post : Int32 → Int32 → Int32 → Int32 → Int32 → Int32 → Int32 → Nat → (Nat → Int32) → Nat → (Nat → Int64) → (Nat → Int32) → Prop} (C0 : jC p l s m args meth c b_FI_hasOutcome (some .boolean) 6 R_FI (dC, dI) cI cJ cZ cQ A)  : ∀ n9 : Nat, ∀ (fr cr sc sk cc ec : Int32) (m1 : Nat) (ftr : Nat → Int32) (m2 : Nat) (fen : Nat → Int64) (fcu : Nat → Int32) (L1 : Int64) (L3 L4 : Int32), ∀ (a_fitr a_fien : Nat), ∀ (H : Heap) (locs : List Loc) (ls : Array Slot), wp_FI_hasOutcome_8 Post  n9 fr cr sc sk cc ec m1 ftr m2 fen fcu L1 L3 L4 → va_P (dC, dI) vwCl [(a_fi, .inr (3, [.int fr, .int cr, .int sc, .int sk, .int cc, .int ec, .ref a_fitr, .ref a_fien, .ref a_ficu])), (a_fitr, .inl (cI, m1, .inl ftr)), (a_fien, .inl (cJ, m2, .inr (.inl fen))), (a_ficu, .inl (cI, 256, .inl fcu))] H → va_D A [(a_fi, .inr (3, [.int fr, .int cr, .int sc, .int sk, .int cc, .int ec, .ref a_fitr, .ref a_fien, .ref a_ficu])), (a_fitr, .inl (cI, m1, .inl ftr)), (a_fien, .inl (cJ, m2, .inr (.inl fen))), (a_ficu, .inl (cI, 256, .inl fcu))] → va_S A s.heap H locs → lv_has ls 6 [(0, .ref a_fi), (1, .long L1), (3, .int L3), (4, .int L4)] → W p l e ({ frames := 11, cells := 0, slots := 0, locals := 171 } : Room) s m args below meth c H locs 0 0 (MQ below (jQ_FI_hasOutcome dC dI cI cJ cZ cQ A a_fi a_ficu Post) args s 0 0 A) (F0 m 8 ls []) := by
  obtain ⟨hx, hb, hr, hml, hown, hts, hlocks, hK, hZ, hA, hst⟩ := id C0
  intro n9
  induction n9 with
  | zero =>
    intro fr cr sc sk cc ec m1 ftr m2 fen fcu L1 L3 L4 a_fitr a_fien H locs ls h hP hD hS hl
    exact False.elim h
  | succ n_8 ih =>
    intro fr cr sc sk cc ec m1 ftr m2 fen fcu L1 L3 L4 a_fitr a_fien H locs ls h hP hD hS hl
    rw [wp_FI_hasOutcome_8] at h
    refine lv_iload_n hx hb d_FI_hasOutcome_8 rfl (lv_at hl 2 rfl) ?_
    refine lv_iload hx hb d_FI_hasOutcome_9 (lv_at hl 3 rfl) ?_
    refine lv_icmp_ge (tgt := 48) hx hb d_FI_hasOutcome_11 (by decide) (fun c11 => ?_) (fun c11 => ?_)
    · have h := h.1 c11
      refine lv_iload_n hx hb d_FI_hasOutcome_48 rfl (lv_at hl 2 rfl) ?_
      refine lv_aload_n hx hb d_FI_hasOutcome_49 rfl (lv_at hl 0 rfl) ?_
      refine va_get (D := (dC, dI)) (ci := 3) (v := .int ec) (C := R_FI) (T := T_FI) (N := 9) hx hb hts in_FI hown hK hP 0 rfl rfl 5 (by decide) (hts _ mw_137) (fun _ h9 => h9) rfl d_FI_hasOutcome_50 ?_
      refine lv_icmp_ge (tgt := 70) hx hb d_FI_hasOutcome_53 (by decide) (fun c53 => ?_) (fun c53 => ?_)
      · have h := h.1 c53
        refine lv_iconst (v := 0) hx hb d_FI_hasOutcome_70 (by decide) ?_
        have hP9 := hP
        have hD9 := hD
        exact W.zret (v := 0) hx hb hr rfl (fun t ht hW => ⟨⟨0, (fr, cr, sc, sk, cc, ec, m1, ftr, m2, fen, fcu), rfl, h, a_fitr, a_fien, by rw [ht]; exact hP9, va_K.moved hW.alike hK, hD9⟩, hS.F ht⟩) hS.2.2 d_FI_hasOutcome_71
      · have h := h.2 c53
        refine lv_aload_n hx hb d_FI_hasOutcome_56 rfl (lv_at hl 0 rfl) ?_
        refine lv_iload_n hx hb d_FI_hasOutcome_57 rfl (lv_at hl 2 rfl) ?_
        have hPc := hP.sub (ws' := [(a_fi, .inr (3, [.int fr, .int cr, .int sc, .int sk, .int cc, .int ec, .ref a_fitr, .ref a_fien, .ref a_ficu])), (a_fitr, .inl (cI, m1, .inl ftr)), (a_fien, .inl (cJ, m2, .inr (.inl fen))), (a_ficu, .inl (cI, 256, .inl fcu))]) [0, 1, 2, 3] rfl
        have hDc := hD.sub (ws' := [(a_fi, .inr (3, [.int fr, .int cr, .int sc, .int sk, .int cc, .int ec, .ref a_fitr, .ref a_fien, .ref a_ficu])), (a_fitr, .inl (cI, m1, .inl ftr)), (a_fien, .inl (cJ, m2, .inr (.inl fen))), (a_ficu, .inl (cI, 256, .inl fcu))]) [0, 1, 2, 3] (by decide) rfl
        have hFc := va_free (wc := [(a_fi, .inr (3, [.int fr, .int cr, .int sc, .int sk, .int cc, .int ec, .ref a_fitr, .ref a_fien, .ref a_ficu])), (a_fitr, .inl (cI, m1, .inl ftr)), (a_fien, .inl (cJ, m2, .inr (.inl fen))), (a_ficu, .inl (cI, 256, .inl fcu))]) hD hS hA [0, 1, 2, 3] rfl
        refine va_calll (va_runV (As := [.int L3]) (rest := []) ⟨hx, hb, hml, hown, hts⟩ (c_FI_outcomeAt l dC dI cI cJ cZ cQ a_fi a_ficu a_fitr a_fien H.size fr cr sc sk cc ec m1 ftr m2 fen fcu L3 _  h) (cwV 1 hts (goodIn_app (jGl (List.forall_mem_cons.mpr ⟨mw_823, List.forall_mem_cons.mpr ⟨mw_767, List.forall_mem_cons.mpr ⟨mw_768, List.forall_mem_cons.mpr ⟨mw_6, fun _ h => absurd h List.not_mem_nil⟩⟩⟩⟩)) (jG mw_769)) rfl rfl rfl (by decide +kernel) ⟨Nat.le_of_ble_eq_true rfl, Nat.le_of_ble_eq_true rfl⟩) ⟨jPre_blind, va_recv hK hPc (ci := 3) (q0 := 0) rfl rfl, jPre_in hPc hK hDc hZ hS hFc hst⟩ rfl rfl hl.1 rfl (lv_room (Nat.le_of_ble_eq_true rfl)) d_FI_hasOutcome_58 ⟨(Nat.zero_le _), (Nat.zero_le _)⟩) hS (fun q _ h => hFc q h) hFc (fun r1 u t H1 locs ht hvm hw hB hz1 hk1 hS => ?_)
        obtain ⟨u2, u3, u4, u5, u6, u7, u8, u9, u10, u11, u12⟩ := u
        obtain ⟨q13, q14, hP1, hK1, hD1⟩ := hB
        rw [ht] at hP1
        have h := hw
        obtain ⟨hP, hD⟩ := va_join (wr := []) (w1 := [(a_fi, .inr (3, [.int u2, .int u3, .int u4, .int u5, .int u6, .int u7, .ref q13, .ref q14, .ref a_ficu])), (q13, .inl (cI, u8, .inl u9)), (q14, .inl (cJ, u10, .inr (.inl u11))), (a_ficu, .inl (cI, 256, .inl u12))]) hP hD [0, 1, 2, 3] [] rfl rfl (by decide) (by decide) hk1 hFc hP1 hD1
        generalize H1 = H at hP hS ⊢
        have hP : va_P (dC, dI) vwCl [(a_fi, .inr (3, [.int u2, .int u3, .int u4, .int u5, .int u6, .int u7, .ref q13, .ref q14, .ref a_ficu])), (q13, .inl (cI, u8, .inl u9)), (q14, .inl (cJ, u10, .inr (.inl u11))), (a_ficu, .inl (cI, 256, .inl u12))] H := hP
        have hD : va_D A [(a_fi, .inr (3, [.int u2, .int u3, .int u4, .int u5, .int u6, .int u7, .ref q13, .ref q14, .ref a_ficu])), (q13, .inl (cI, u8, .inl u9)), (q14, .inl (cJ, u10, .inr (.inl u11))), (a_ficu, .inl (cI, 256, .inl u12))] := hD
        refine lv_lload_n hx hb d_FI_hasOutcome_61 rfl (lv_at hl 1 rfl) ?_
        refine W.lcmp hx hb d_FI_hasOutcome_62 ?_
        refine lv_if_ne (tgt := 70) hx hb d_FI_hasOutcome_63 (by decide) (fun c63 => ?_) (fun c63 => ?_)
        · have h := h.1 c63
          refine lv_iconst (v := 0) hx hb d_FI_hasOutcome_70 (by decide) ?_
          have hP9 := hP
          have hD9 := hD
          exact W.zret (v := 0) hx hb hr rfl (fun t ht hW => ⟨⟨0, (u2, u3, u4, u5, u6, u7, u8, u9, u10, u11, u12), rfl, h, q13, q14, by rw [ht]; exact hP9, va_K.moved hW.alike hK, hD9⟩, hS.F ht⟩) hS.2.2 d_FI_hasOutcome_71
        · have h := h.2 c63
          refine lv_iconst (v := 1) hx hb d_FI_hasOutcome_66 (by decide) ?_
          refine lv_goto (tgt := 71) hx hb d_FI_hasOutcome_67 (by decide) ?_
          have hP9 := hP
          have hD9 := hD
          exact W.zret (v := 1) hx hb hr rfl (fun t ht hW => ⟨⟨1, (u2, u3, u4, u5, u6, u7, u8, u9, u10, u11, u12), rfl, h, q13, q14, by rw [ht]; exact hP9, va_K.moved hW.alike hK, hD9⟩, hS.F ht⟩) hS.2.2 d_FI_hasOutcome_71
    · have h := h.2 c11
      refine lv_iload_n hx hb d_FI_hasOutcome_14 rfl (lv_at hl 2 rfl) ?_
      refine lv_iload hx hb d_FI_hasOutcome_15 (lv_at hl 3 rfl) ?_
      refine lv_iadd hx hb d_FI_hasOutcome_17 ?_
      refine lv_iconst (v := 2) hx hb d_FI_hasOutcome_18 (by decide) ?_
      refine lv_idiv hx hb d_FI_hasOutcome_19 (by decide) ?_
      refine lv_topi (fun x15 ex15 => ?_)
      have h := h x15 ex15
      refine lv_istore (lv' := [(5, .int x15), (0, .ref a_fi), (1, .long L1), (3, .int L3), (4, .int L4)]) hx hb d_FI_hasOutcome_20 hl (by decide) rfl (fun ls hl => ?_)
      refine lv_aload_n hx hb d_FI_hasOutcome_22 rfl (lv_at hl 1 rfl) ?_
      refine lv_iload hx hb d_FI_hasOutcome_23 (lv_at hl 0 rfl) ?_
      have hPc := hP.sub (ws' := [(a_fi, .inr (3, [.int fr, .int cr, .int sc, .int sk, .int cc, .int ec, .ref a_fitr, .ref a_fien, .ref a_ficu])), (a_fitr, .inl (cI, m1, .inl ftr)), (a_fien, .inl (cJ, m2, .inr (.inl fen))), (a_ficu, .inl (cI, 256, .inl fcu))]) [0, 1, 2, 3] rfl
      have hDc := hD.sub (ws' := [(a_fi, .inr (3, [.int fr, .int cr, .int sc, .int sk, .int cc, .int ec, .ref a_fitr, .ref a_fien, .ref a_ficu])), (a_fitr, .inl (cI, m1, .inl ftr)), (a_fien, .inl (cJ, m2, .inr (.inl fen))), (a_ficu, .inl (cI, 256, .inl fcu))]) [0, 1, 2, 3] (by decide) rfl
      have hFc := va_free (wc := [(a_fi, .inr (3, [.int fr, .int cr, .int sc, .int sk, .int cc, .int ec, .ref a_fitr, .ref a_fien, .ref a_ficu])), (a_fitr, .inl (cI, m1, .inl ftr)), (a_fien, .inl (cJ, m2, .inr (.inl fen))), (a_ficu, .inl (cI, 256, .inl fcu))]) hD hS hA [0, 1, 2, 3] rfl
      refine va_calll (va_runV (As := [.int x15]) (rest := []) ⟨hx, hb, hml, hown, hts⟩ (c_FI_outcomeAt l dC dI cI cJ cZ cQ a_fi a_ficu a_fitr a_fien H.size fr cr sc sk cc ec m1 ftr m2 fen fcu x15 _  h) (cwV 1 hts (goodIn_app (jGl (List.forall_mem_cons.mpr ⟨mw_823, List.forall_mem_cons.mpr ⟨mw_767, List.forall_mem_cons.mpr ⟨mw_768, List.forall_mem_cons.mpr ⟨mw_6, fun _ h => absurd h List.not_mem_nil⟩⟩⟩⟩)) (jG mw_769)) rfl rfl rfl (by decide +kernel) ⟨Nat.le_of_ble_eq_true rfl, Nat.le_of_ble_eq_true rfl⟩) ⟨jPre_blind, va_recv hK hPc (ci := 3) (q0 := 0) rfl rfl, jPre_in hPc hK hDc hZ hS hFc hst⟩ rfl rfl hl.1 rfl (lv_room (Nat.le_of_ble_eq_true rfl)) d_FI_hasOutcome_25 ⟨(Nat.zero_le _), (Nat.zero_le _)⟩) hS (fun q _ h => hFc q h) hFc (fun r16 u t H1 locs ht hvm hw hB hz1 hk1 hS => ?_)
      obtain ⟨u17, u18, u19, u20, u21, u22, u23, u24, u25, u26, u27⟩ := u
      obtain ⟨q28, q29, hP1, hK1, hD1⟩ := hB
      rw [ht] at hP1
      have h := hw
      obtain ⟨hP, hD⟩ := va_join (wr := []) (w1 := [(a_fi, .inr (3, [.int u17, .int u18, .int u19, .int u20, .int u21, .int u22, .ref q28, .ref q29, .ref a_ficu])), (q28, .inl (cI, u23, .inl u24)), (q29, .inl (cJ, u25, .inr (.inl u26))), (a_ficu, .inl (cI, 256, .inl u27))]) hP hD [0, 1, 2, 3] [] rfl rfl (by decide) (by decide) hk1 hFc hP1 hD1
      generalize H1 = H at hP hS ⊢
      have hP : va_P (dC, dI) vwCl [(a_fi, .inr (3, [.int u17, .int u18, .int u19, .int u20, .int u21, .int u22, .ref q28, .ref q29, .ref a_ficu])), (q28, .inl (cI, u23, .inl u24)), (q29, .inl (cJ, u25, .inr (.inl u26))), (a_ficu, .inl (cI, 256, .inl u27))] H := hP
      have hD : va_D A [(a_fi, .inr (3, [.int u17, .int u18, .int u19, .int u20, .int u21, .int u22, .ref q28, .ref q29, .ref a_ficu])), (q28, .inl (cI, u23, .inl u24)), (q29, .inl (cJ, u25, .inr (.inl u26))), (a_ficu, .inl (cI, 256, .inl u27))] := hD
      refine lv_lload_n hx hb d_FI_hasOutcome_28 rfl (lv_at hl 2 rfl) ?_
      refine W.lcmp hx hb d_FI_hasOutcome_29 ?_
      refine lv_if_ge (tgt := 41) hx hb d_FI_hasOutcome_30 (by decide) (fun c30 => ?_) (fun c30 => ?_)
      · have h := h.1 c30
        refine lv_iload hx hb d_FI_hasOutcome_41 (lv_at hl 0 rfl) ?_
        refine lv_istore (lv' := [(4, .int x15), (5, .int x15), (0, .ref a_fi), (1, .long L1), (3, .int L3)]) hx hb d_FI_hasOutcome_43 hl (by decide) rfl (fun ls hl => ?_)
        exact l_FI_hasOutcome_45 C0 (fun (fr : Int32) (cr : Int32) (sc : Int32) (sk : Int32) (cc : Int32) (ec : Int32) (m1 : Nat) (ftr : Nat → Int32) (m2 : Nat) (fen : Nat → Int64) (fcu : Nat → Int32) (L1 : Int64) (L3 : Int32) (L4 : Int32) => wp_FI_hasOutcome_8 Post n_8 fr cr sc sk cc ec m1 ftr m2 fen fcu L1 L3 L4) ih u17 u18 u19 u20 u21 u22 u23 u24 u25 u26 u27 L1 L3 x15 q28 q29 H locs ls h hP hD hS (lv_sub hl [2, 3, 4, 0] rfl)
      · have h := h.2 c30
        refine lv_iload hx hb d_FI_hasOutcome_33 (lv_at hl 0 rfl) ?_
        refine lv_iconst (v := 1) hx hb d_FI_hasOutcome_35 (by decide) ?_
        refine lv_iadd hx hb d_FI_hasOutcome_36 ?_
        refine lv_topi (fun x30 ex30 => ?_)
        have h := h x30 ex30
        refine lv_istore_n (lv' := [(3, .int x30), (5, .int x15), (0, .ref a_fi), (1, .long L1), (4, .int L4)]) hx hb d_FI_hasOutcome_37 rfl hl (by decide) rfl (fun ls hl => ?_)
        refine lv_goto (tgt := 45) hx hb d_FI_hasOutcome_38 (by decide) ?_
        exact l_FI_hasOutcome_45 C0 (fun (fr : Int32) (cr : Int32) (sc : Int32) (sk : Int32) (cc : Int32) (ec : Int32) (m1 : Nat) (ftr : Nat → Int32) (m2 : Nat) (fen : Nat → Int64) (fcu : Nat → Int32) (L1 : Int64) (L3 : Int32) (L4 : Int32) => wp_FI_hasOutcome_8 Post n_8 fr cr sc sk cc ec m1 ftr m2 fen fcu L1 L3 L4) ih u17 u18 u19 u20 u21 u22 u23 u24 u25 u26 u27 L1 x30 L4 q28 q29 H locs ls h hP hD hS (lv_sub hl [2, 3, 0, 4] rfl)
set_option maxHeartbeats 4000000 in
set_option maxRecDepth 100000 in
theorem c_FI_hasOutcome (l : Launch) (dC : Nat → ClassId) (dI : Nat → Nat → Nat) (cI cJ cZ cQ : ClassId) (a_fi a_ficu : Nat) (a_fitr a_fien : Nat) (sz : Nat) (fr cr sc sk cc ec : Int32) (m1 : Nat) (ftr : Nat → Int32) (m2 : Nat) (fen : Nat → Int64) (fcu : Nat → Int32) (oc : Int64) (Post : Int32 → Int32 → Int32 → Int32 → Int32 → Int32 → Int32 → Nat → (Nat → Int32) → Nat → (Nat → Int64) → (Nat → Int32) → Prop) (h : wp_FI_hasOutcome Post fr cr sc sk cc ec m1 ftr m2 fen fcu oc) : Met l y_FI_hasOutcome (.code y_FI_hasOutcome b_FI_hasOutcome 6 (some .boolean) :: jW) ({ frames := 11, cells := 0, slots := 0, locals := 171 } : Room) (jPre l (dC, dI) cI cJ cZ cQ [(a_fi, .inr (3, [.int fr, .int cr, .int sc, .int sk, .int cc, .int ec, .ref a_fitr, .ref a_fien, .ref a_ficu])), (a_fitr, .inl (cI, m1, .inl ftr)), (a_fien, .inl (cJ, m2, .inr (.inl fen))), (a_ficu, .inl (cI, 256, .inl fcu))] sz [.ref a_fi, .long oc]) (jQ_FI_hasOutcome dC dI cI cJ cZ cQ (va_A [(a_fi, .inr (3, [.int fr, .int cr, .int sc, .int sk, .int cc, .int ec, .ref a_fitr, .ref a_fien, .ref a_ficu])), (a_fitr, .inl (cI, m1, .inl ftr)), (a_fien, .inl (cJ, m2, .inr (.inl fen))), (a_ficu, .inl (cI, 256, .inl fcu))] sz) a_fi a_ficu Post) 0 0 (va_A [(a_fi, .inr (3, [.int fr, .int cr, .int sc, .int sk, .int cc, .int ec, .ref a_fitr, .ref a_fien, .ref a_ficu])), (a_fitr, .inl (cI, m1, .inl ftr)), (a_fien, .inl (cJ, m2, .inr (.inl fen))), (a_ficu, .inl (cI, 256, .inl fcu))] sz) := by
  refine Met.ofW (cc := b_FI_hasOutcome) (maxL := 6) (ret := (some .boolean)) (by decide) rfl ?_
  intro p e s m args below meth c s₁ B hml hv
  obtain ⟨rfl, hsz, hP, hK, hD0, hZ, hst⟩ := hv
  subst hsz
  have hD := hD0.self (sz := s.heap.size)
  generalize hAe : va_A [(a_fi, .inr (3, [.int fr, .int cr, .int sc, .int sk, .int cc, .int ec, .ref a_fitr, .ref a_fien, .ref a_ficu])), (a_fitr, .inl (cI, m1, .inl ftr)), (a_fien, .inl (cJ, m2, .inr (.inl fen))), (a_ficu, .inl (cI, 256, .inl fcu))] s.heap.size = A at hD hZ ⊢
  have hA : ∀ q : Nat, s.heap.size ≤ q → A q := fun q h => by rw [← hAe]; exact Or.inr h
  have C0 : jC p l s m ([.ref a_fi, .long oc] : List Value).toArray meth c b_FI_hasOutcome (some .boolean) 6 R_FI (dC, dI) cI cJ cZ cQ A := ⟨B.exec, B.bytes, B.returns, hml, findClass_of_methodNamed B.named, fun w hw => atoms_spec (ws := (.code y_FI_hasOutcome b_FI_hasOutcome 6 (some .boolean) :: jW)) B.pre w (List.mem_cons_of_mem _ hw), B.notSynchronized, hK, hZ, hA, hst⟩
  obtain ⟨hx, hb, hr, hml, hown, hts, hlocks, hK, hZ, hA, hst⟩ := id C0
  have hS : va_S A s.heap s.heap [] := va_S.rf
  have hl := lv_entry ([.ref a_fi, .long oc]) (n := 6) (Nat.le_of_ble_eq_true rfl)
  rw [lg_entry_eq]
  generalize (lg_sl ([.ref a_fi, .long oc]) ++ List.replicate (6 - (lg_sl ([.ref a_fi, .long oc])).length) Slot.unset).toArray = ls at hl ⊢
  have hl : lv_has ls 6 [(0, .ref a_fi), (1, .long oc)] := hl
  obtain ⟨H, hH⟩ : ∃ H : Heap, H = s.heap := ⟨_, rfl⟩
  obtain ⟨locs, hlc⟩ : ∃ L : List Loc, L = [] := ⟨_, rfl⟩
  have hP : va_P (dC, dI) vwCl [(a_fi, .inr (3, [.int fr, .int cr, .int sc, .int sk, .int cc, .int ec, .ref a_fitr, .ref a_fien, .ref a_ficu])), (a_fitr, .inl (cI, m1, .inl ftr)), (a_fien, .inl (cJ, m2, .inr (.inl fen))), (a_ficu, .inl (cI, 256, .inl fcu))] H := by rw [hH]; exact hP
  have hS : va_S A s.heap H locs := by rw [hH, hlc]; exact hS
  suffices hW9 : W p l e ({ frames := 11, cells := 0, slots := 0, locals := 171 } : Room) s m ([.ref a_fi, .long oc] : List Value).toArray below meth c H locs 0 0 (MQ below (jQ_FI_hasOutcome dC dI cI cJ cZ cQ A a_fi a_ficu Post) ([.ref a_fi, .long oc] : List Value).toArray s 0 0 A) (F0 m 0 ls []) by rw [hH, hlc] at hW9; exact hW9
  clear hH hlc
  rw [wp_FI_hasOutcome] at h
  refine lv_iconst (v := 0) hx hb d_FI_hasOutcome_0 (by decide) ?_
  refine lv_istore_n (lv' := [(3, .int 0), (0, .ref a_fi), (1, .long oc)]) hx hb d_FI_hasOutcome_1 rfl hl (by decide) rfl (fun ls hl => ?_)
  refine lv_aload_n hx hb d_FI_hasOutcome_2 rfl (lv_at hl 1 rfl) ?_
  refine va_get (D := (dC, dI)) (ci := 3) (v := .int ec) (C := R_FI) (T := T_FI) (N := 9) hx hb hts in_FI hown hK hP 0 rfl rfl 5 (by decide) (hts _ mw_137) (fun _ h9 => h9) rfl d_FI_hasOutcome_3 ?_
  refine lv_istore (lv' := [(4, .int ec), (3, .int 0), (0, .ref a_fi), (1, .long oc)]) hx hb d_FI_hasOutcome_6 hl (by decide) rfl (fun ls hl => ?_)
  obtain ⟨n_8, h⟩ := h
  exact l_FI_hasOutcome_8 C0  n_8 fr cr sc sk cc ec m1 ftr m2 fen fcu oc 0 ec a_fitr a_fien H locs ls h hP hD hS (lv_sub hl [2, 3, 1, 0] rfl)

/-- what OrderMachines$Findings.before(I)I leaves -/
abbrev jQ_FI_before (dC : Nat → ClassId) (dI : Nat → Nat → Nat) (cI cJ cZ cQ : ClassId) (A : Nat → Prop) (a_fi a_ficu : Nat) (Post : Int32 → Int32 → Int32 → Int32 → Int32 → Int32 → Int32 → Nat → (Nat → Int32) → Nat → (Nat → Int64) → (Nat → Int32) → Prop) : Array Value → State → Outcome → State → Prop := va_Qi (fun (r : Int32) (u : Int32 × Int32 × Int32 × Int32 × Int32 × Int32 × Nat × (Nat → Int32) × Nat × (Nat → Int64) × (Nat → Int32)) => Post r u.1 u.2.1 u.2.2.1 u.2.2.2.1 u.2.2.2.2.1 u.2.2.2.2.2.1 u.2.2.2.2.2.2.1 u.2.2.2.2.2.2.2.1 u.2.2.2.2.2.2.2.2.1 u.2.2.2.2.2.2.2.2.2.1 u.2.2.2.2.2.2.2.2.2.2) (fun (u : Int32 × Int32 × Int32 × Int32 × Int32 × Int32 × Nat × (Nat → Int32) × Nat × (Nat → Int64) × (Nat → Int32)) (t : State) => match u with
  | (fr, cr, sc, sk, cc, ec, m1, ftr, m2, fen, fcu) => ∃ (a_fitr a_fien : Nat), jPost (dC, dI) (jT cI cJ cZ cQ) A [(a_fi, .inr (3, [.int fr, .int cr, .int sc, .int sk, .int cc, .int ec, .ref a_fitr, .ref a_fien, .ref a_ficu])), (a_fitr, .inl (cI, m1, .inl ftr)), (a_fien, .inl (cJ, m2, .inr (.inl fen))), (a_ficu, .inl (cI, 256, .inl fcu))] t) A
/-- OrderMachines$Findings.before(I)I -/
def wp_FI_before (Post : Int32 → Int32 → Int32 → Int32 → Int32 → Int32 → Int32 → Nat → (Nat → Int32) → Nat → (Nat → Int64) → (Nat → Int32) → Prop) (fr cr sc sk cc ec : Int32) (m1 : Nat) (ftr : Nat → Int32) (m2 : Nat) (fen : Nat → Int64) (fcu : Nat → Int32) (k0 : Int32) : Prop :=
  vp_in k0 m1 ∧ Post ((ftr k0.toNatClampNeg) >>> (5 &&& 31)) fr cr sc sk cc ec m1 ftr m2 fen fcu
set_option maxHeartbeats 4000000 in
set_option maxRecDepth 100000 in
theorem c_FI_before (l : Launch) (dC : Nat → ClassId) (dI : Nat → Nat → Nat) (cI cJ cZ cQ : ClassId) (a_fi a_ficu : Nat) (a_fitr a_fien : Nat) (sz : Nat) (fr cr sc sk cc ec : Int32) (m1 : Nat) (ftr : Nat → Int32) (m2 : Nat) (fen : Nat → Int64) (fcu : Nat → Int32) (k0 : Int32) (Post : Int32 → Int32 → Int32 → Int32 → Int32 → Int32 → Int32 → Nat → (Nat → Int32) → Nat → (Nat → Int64) → (Nat → Int32) → Prop) (h : wp_FI_before Post fr cr sc sk cc ec m1 ftr m2 fen fcu k0) : Met l y_FI_before (.code y_FI_before b_FI_before 2 (some .int) :: jW) ({ frames := 10, cells := 0, slots := 0, locals := 150 } : Room) (jPre l (dC, dI) cI cJ cZ cQ [(a_fi, .inr (3, [.int fr, .int cr, .int sc, .int sk, .int cc, .int ec, .ref a_fitr, .ref a_fien, .ref a_ficu])), (a_fitr, .inl (cI, m1, .inl ftr)), (a_fien, .inl (cJ, m2, .inr (.inl fen))), (a_ficu, .inl (cI, 256, .inl fcu))] sz [.ref a_fi, .int k0]) (jQ_FI_before dC dI cI cJ cZ cQ (va_A [(a_fi, .inr (3, [.int fr, .int cr, .int sc, .int sk, .int cc, .int ec, .ref a_fitr, .ref a_fien, .ref a_ficu])), (a_fitr, .inl (cI, m1, .inl ftr)), (a_fien, .inl (cJ, m2, .inr (.inl fen))), (a_ficu, .inl (cI, 256, .inl fcu))] sz) a_fi a_ficu Post) 0 0 (va_A [(a_fi, .inr (3, [.int fr, .int cr, .int sc, .int sk, .int cc, .int ec, .ref a_fitr, .ref a_fien, .ref a_ficu])), (a_fitr, .inl (cI, m1, .inl ftr)), (a_fien, .inl (cJ, m2, .inr (.inl fen))), (a_ficu, .inl (cI, 256, .inl fcu))] sz) := by
  refine Met.ofW (cc := b_FI_before) (maxL := 2) (ret := (some .int)) (by decide) rfl ?_
  intro p e s m args below meth c s₁ B hml hv
  obtain ⟨rfl, hsz, hP, hK, hD0, hZ, hst⟩ := hv
  subst hsz
  have hD := hD0.self (sz := s.heap.size)
  generalize hAe : va_A [(a_fi, .inr (3, [.int fr, .int cr, .int sc, .int sk, .int cc, .int ec, .ref a_fitr, .ref a_fien, .ref a_ficu])), (a_fitr, .inl (cI, m1, .inl ftr)), (a_fien, .inl (cJ, m2, .inr (.inl fen))), (a_ficu, .inl (cI, 256, .inl fcu))] s.heap.size = A at hD hZ ⊢
  have hA : ∀ q : Nat, s.heap.size ≤ q → A q := fun q h => by rw [← hAe]; exact Or.inr h
  have C0 : jC p l s m ([.ref a_fi, .int k0] : List Value).toArray meth c b_FI_before (some .int) 2 R_FI (dC, dI) cI cJ cZ cQ A := ⟨B.exec, B.bytes, B.returns, hml, findClass_of_methodNamed B.named, fun w hw => atoms_spec (ws := (.code y_FI_before b_FI_before 2 (some .int) :: jW)) B.pre w (List.mem_cons_of_mem _ hw), B.notSynchronized, hK, hZ, hA, hst⟩
  obtain ⟨hx, hb, hr, hml, hown, hts, hlocks, hK, hZ, hA, hst⟩ := id C0
  have hS : va_S A s.heap s.heap [] := va_S.rf
  have hl := lv_entry ([.ref a_fi, .int k0]) (n := 2) (Nat.le_of_ble_eq_true rfl)
  rw [lg_entry_eq]
  generalize (lg_sl ([.ref a_fi, .int k0]) ++ List.replicate (2 - (lg_sl ([.ref a_fi, .int k0])).length) Slot.unset).toArray = ls at hl ⊢
  have hl : lv_has ls 2 [(0, .ref a_fi), (1, .int k0)] := hl
  obtain ⟨H, hH⟩ : ∃ H : Heap, H = s.heap := ⟨_, rfl⟩
  obtain ⟨locs, hlc⟩ : ∃ L : List Loc, L = [] := ⟨_, rfl⟩
  have hP : va_P (dC, dI) vwCl [(a_fi, .inr (3, [.int fr, .int cr, .int sc, .int sk, .int cc, .int ec, .ref a_fitr, .ref a_fien, .ref a_ficu])), (a_fitr, .inl (cI, m1, .inl ftr)), (a_fien, .inl (cJ, m2, .inr (.inl fen))), (a_ficu, .inl (cI, 256, .inl fcu))] H := by rw [hH]; exact hP
  have hS : va_S A s.heap H locs := by rw [hH, hlc]; exact hS
  suffices hW9 : W p l e ({ frames := 10, cells := 0, slots := 0, locals := 150 } : Room) s m ([.ref a_fi, .int k0] : List Value).toArray below meth c H locs 0 0 (MQ below (jQ_FI_before dC dI cI cJ cZ cQ A a_fi a_ficu Post) ([.ref a_fi, .int k0] : List Value).toArray s 0 0 A) (F0 m 0 ls []) by rw [hH, hlc] at hW9; exact hW9
  clear hH hlc
  rw [wp_FI_before] at h
  refine lv_aload_n hx hb d_FI_before_0 rfl (lv_at hl 0 rfl) ?_
  refine va_get (D := (dC, dI)) (ci := 3) (v := .ref a_fitr) (C := R_FI) (T := T_FI) (N := 9) hx hb hts in_FI hown hK hP 0 rfl rfl 6 (by decide) (hts _ mw_139) (fun _ h9 => h9) rfl d_FI_before_1 ?_
  refine lv_iload_n hx hb d_FI_before_4 rfl (lv_at hl 1 rfl) ?_
  refine va_iald hx hb hK hP 1 0 rfl rfl h.1 d_FI_before_5 ?_
  have h := h.2
  refine lv_iconst (v := 5) hx hb d_FI_before_6 (by decide) ?_
  refine lv_ishr hx hb d_FI_before_7 ?_
  have hP9 := hP
  have hD9 := hD
  exact W.iret (v := (ftr k0.toNatClampNeg) >>> (5 &&& 31)) hx hb hr (fun t ht hW => ⟨⟨(ftr k0.toNatClampNeg) >>> (5 &&& 31), (fr, cr, sc, sk, cc, ec, m1, ftr, m2, fen, fcu), rfl, h, a_fitr, a_fien, by rw [ht]; exact hP9, va_K.moved hW.alike hK, hD9⟩, hS.F ht⟩) hS.2.2 d_FI_before_8

/-- what OrderMachines$Findings.stepOfRow(II)I leaves -/
abbrev jQ_FI_stepOfRow (dC : Nat → ClassId) (dI : Nat → Nat → Nat) (cI cJ cZ cQ : ClassId) (A : Nat → Prop) (a_fi a_ficu : Nat) (Post : Int32 → Int32 → Int32 → Int32 → Int32 → Int32 → Int32 → Nat → (Nat → Int32) → Nat → (Nat → Int64) → (Nat → Int32) → Prop) : Array Value → State → Outcome → State → Prop := va_Qi (fun (r : Int32) (u : Int32 × Int32 × Int32 × Int32 × Int32 × Int32 × Nat × (Nat → Int32) × Nat × (Nat → Int64) × (Nat → Int32)) => Post r u.1 u.2.1 u.2.2.1 u.2.2.2.1 u.2.2.2.2.1 u.2.2.2.2.2.1 u.2.2.2.2.2.2.1 u.2.2.2.2.2.2.2.1 u.2.2.2.2.2.2.2.2.1 u.2.2.2.2.2.2.2.2.2.1 u.2.2.2.2.2.2.2.2.2.2) (fun (u : Int32 × Int32 × Int32 × Int32 × Int32 × Int32 × Nat × (Nat → Int32) × Nat × (Nat → Int64) × (Nat → Int32)) (t : State) => match u with
  | (fr, cr, sc, sk, cc, ec, m1, ftr, m2, fen, fcu) => ∃ (a_fitr a_fien : Nat), jPost (dC, dI) (jT cI cJ cZ cQ) A [(a_fi, .inr (3, [.int fr, .int cr, .int sc, .int sk, .int cc, .int ec, .ref a_fitr, .ref a_fien, .ref a_ficu])), (a_fitr, .inl (cI, m1, .inl ftr)), (a_fien, .inl (cJ, m2, .inr (.inl fen))), (a_ficu, .inl (cI, 256, .inl fcu))] t) A
def wp_FI_stepOfRow_61 (Post : Int32 → Int32 → Int32 → Int32 → Int32 → Int32 → Int32 → Nat → (Nat → Int32) → Nat → (Nat → Int64) → (Nat → Int32) → Prop)  : Nat → Int32 → Int32 → Int32 → Int32 → Int32 → Int32 → Nat → (Nat → Int32) → Nat → (Nat → Int64) → (Nat → Int32) → Int32 → Int32 → Int32 → Prop
  | 0, _, _, _, _, _, _, _, _, _, _, _, _, _, _ => False
  | n_61 + 1, fr, cr, sc, sk, cc, ec, m1, ftr, m2, fen, fcu, L2, L5, L6 =>
    ((L6 ≤ L2 → vp_in L5 m1 ∧ Post ((ftr L5.toNatClampNeg) &&& 31) fr cr sc sk cc ec m1 ftr m2 fen fcu) ∧
    (¬ L6 ≤ L2 → wp_FI_before (fun (r18 : Int32) (u19 : Int32) (u20 : Int32) (u21 : Int32) (u22 : Int32) (u23 : Int32) (u24 : Int32) (u25 : Nat) (u26 : Nat → Int32) (u27 : Nat) (u28 : Nat → Int64) (u29 : Nat → Int32) => ∀ x32 : Int32, x32 = L6 + (-1) → (wp_FI_stepOfRow_61 Post n_61) u19 u20 u21 u22 u23 u24 u25 u26 u27 u28 u29 L2 r18 x32) fr cr sc sk cc ec m1 ftr m2 fen fcu L5))
def wp_FI_stepOfRow_44 (Post : Int32 → Int32 → Int32 → Int32 → Int32 → Int32 → Int32 → Nat → (Nat → Int32) → Nat → (Nat → Int64) → (Nat → Int32) → Prop)  (fr cr sc sk cc ec : Int32) (m1 : Nat) (ftr : Nat → Int32) (m2 : Nat) (fen : Nat → Int64) (fcu : Nat → Int32) (L2 L3 L4 : Int32) : Prop :=
    ((L2 < L4 → ∀ x17 : Int32, x17 = L4 - 1 → (∃ n_61 : Nat, wp_FI_stepOfRow_61 Post n_61 fr cr sc sk cc ec m1 ftr m2 fen fcu L2 L3 x17)) ∧
  (¬ L2 < L4 → Post (-1) fr cr sc sk cc ec m1 ftr m2 fen fcu))
def wp_FI_stepOfRow_18 (Post : Int32 → Int32 → Int32 → Int32 → Int32 → Int32 → Int32 → Nat → (Nat → Int32) → Nat → (Nat → Int64) → (Nat → Int32) → Prop)  : Nat → Int32 → Int32 → Int32 → Int32 → Int32 → Int32 → Nat → (Nat → Int32) → Nat → (Nat → Int64) → (Nat → Int32) → Int32 → Int32 → Int32 → Int32 → Prop
  | 0, _, _, _, _, _, _, _, _, _, _, _, _, _, _, _ => False
  | n_18 + 1, fr, cr, sc, sk, cc, ec, m1, ftr, m2, fen, fcu, L2, L3, L4, L5 =>
    ((L5 ≤ 0 → wp_FI_stepOfRow_44 Post fr cr sc sk cc ec m1 ftr m2 fen fcu L2 L3 L4) ∧
    (¬ L5 ≤ 0 → ((40 ≤ L4 → wp_FI_stepOfRow_44 Post fr cr sc sk cc ec m1 ftr m2 fen fcu L2 L3 L4) ∧
      (¬ 40 ≤ L4 → ∀ x2 : Int32, x2 = L4 + 1 → wp_FI_before (fun (r3 : Int32) (u4 : Int32) (u5 : Int32) (u6 : Int32) (u7 : Int32) (u8 : Int32) (u9 : Int32) (u10 : Nat) (u11 : Nat → Int32) (u12 : Nat) (u13 : Nat → Int64) (u14 : Nat → Int32) => (wp_FI_stepOfRow_18 Post n_18) u4 u5 u6 u7 u8 u9 u10 u11 u12 u13 u14 L2 L3 x2 r3) fr cr sc sk cc ec m1 ftr m2 fen fcu L5))))
/-- OrderMachines$Findings.stepOfRow(II)I -/
def wp_FI_stepOfRow (Post : Int32 → Int32 → Int32 → Int32 → Int32 → Int32 → Int32 → Nat → (Nat → Int32) → Nat → (Nat → Int64) → (Nat → Int32) → Prop) (fr cr sc sk cc ec : Int32) (m1 : Nat) (ftr : Nat → Int32) (m2 : Nat) (fen : Nat → Int64) (fcu : Nat → Int32) (k0 i0 : Int32) : Prop :=
  vp_in k0 m2 ∧ ∀ x1 : Int32, x1 = ((fen k0.toNatClampNeg).toInt32) &&& 16383 → (∃ n_18 : Nat, wp_FI_stepOfRow_18 Post n_18 fr cr sc sk cc ec m1 ftr m2 fen fcu i0 x1 0 x1)
set_option maxHeartbeats 4000000 in
set_option maxRecDepth 100000 in
theorem l_FI_stepOfRow_61 {p : Program} {l : Launch} {e : Env} {s : State} {m : MethodId} {args : Array Value} {below : List Frame} {meth : Method} {c : Code} {dC : Nat → ClassId} {dI : Nat → Nat → Nat} {cI cJ cZ cQ : ClassId} {a_fi a_ficu : Nat} {A : Nat → Prop} {Post : Int32 → Int32 → Int32 → Int32 → Int32 → Int32 → Int32 → Nat → (Nat → Int32) → Nat → (Nat → Int64) → (Nat → Int32) → Prop} (C0 : jC p l s m args meth c b_FI_stepOfRow (some .int) 7 R_FI (dC, dI) cI cJ cZ cQ A)  : ∀ n9 : Nat, ∀ (fr cr sc sk cc ec : Int32) (m1 : Nat) (ftr : Nat → Int32) (m2 : Nat) (fen : Nat → Int64) (fcu : Nat → Int32) (L2 L5 L6 : Int32), ∀ (a_fitr a_fien : Nat), ∀ (H : Heap) (locs : List Loc) (ls : Array Slot), wp_FI_stepOfRow_61 Post  n9 fr cr sc sk cc ec m1 ftr m2 fen fcu L2 L5 L6 → va_P (dC, dI) vwCl [(a_fi, .inr (3, [.int fr, .int cr, .int sc, .int sk, .int cc, .int ec, .ref a_fitr, .ref a_fien, .ref a_ficu])), (a_fitr, .inl (cI, m1, .inl ftr)), (a_fien, .inl (cJ, m2, .inr (.inl fen))), (a_ficu, .inl (cI, 256, .inl fcu))] H → va_D A [(a_fi, .inr (3, [.int fr, .int cr, .int sc, .int sk, .int cc, .int ec, .ref a_fitr, .ref a_fien, .ref a_ficu])), (a_fitr, .inl (cI, m1, .inl ftr)), (a_fien, .inl (cJ, m2, .inr (.inl fen))), (a_ficu, .inl (cI, 256, .inl fcu))] → va_S A s.heap H locs → lv_has ls 7 [(0, .ref a_fi), (2, .int L2), (5, .int L5), (6, .int L6)] → W p l e ({ frames := 11, cells := 0, slots := 0, locals := 171 } : Room) s m args below meth c H locs 0 0 (MQ below (jQ_FI_stepOfRow dC dI cI cJ cZ cQ A a_fi a_ficu Post) args s 0 0 A) (F0 m 61 ls []) := by
  obtain ⟨hx, hb, hr, hml, hown, hts, hlocks, hK, hZ, hA, hst⟩ := id C0
  intro n9
  induction n9 with
  | zero =>
    intro fr cr sc sk cc ec m1 ftr m2 fen fcu L2 L5 L6 a_fitr a_fien H locs ls h hP hD hS hl
    exact False.elim h
  | succ n_61 ih =>
    intro fr cr sc sk cc ec m1 ftr m2 fen fcu L2 L5 L6 a_fitr a_fien H locs ls h hP hD hS hl
    rw [wp_FI_stepOfRow_61] at h
    refine lv_iload hx hb d_FI_stepOfRow_61 (lv_at hl 3 rfl) ?_
    refine lv_iload_n hx hb d_FI_stepOfRow_63 rfl (lv_at hl 1 rfl) ?_
    refine lv_icmp_le (tgt := 81) hx hb d_FI_stepOfRow_64 (by decide) (fun c64 => ?_) (fun c64 => ?_)
    · have h := h.1 c64
      refine lv_aload_n hx hb d_FI_stepOfRow_81 rfl (lv_at hl 0 rfl) ?_
      refine va_get (D := (dC, dI)) (ci := 3) (v := .ref a_fitr) (C := R_FI) (T := T_FI) (N := 9) hx hb hts in_FI hown hK hP 0 rfl rfl 6 (by decide) (hts _ mw_139) (fun _ h9 => h9) rfl d_FI_stepOfRow_82 ?_
      refine lv_iload hx hb d_FI_stepOfRow_85 (lv_at hl 2 rfl) ?_
      refine va_iald hx hb hK hP 1 0 rfl rfl h.1 d_FI_stepOfRow_87 ?_
      have h := h.2
      refine lv_bipush (v := 31) hx hb d_FI_stepOfRow_88 (by decide) ?_
      refine lv_iand hx hb d_FI_stepOfRow_90 ?_
      have hP9 := hP
      have hD9 := hD
      exact W.iret (v := (ftr L5.toNatClampNeg) &&& 31) hx hb hr (fun t ht hW => ⟨⟨(ftr L5.toNatClampNeg) &&& 31, (fr, cr, sc, sk, cc, ec, m1, ftr, m2, fen, fcu), rfl, h, a_fitr, a_fien, by rw [ht]; exact hP9, va_K.moved hW.alike hK, hD9⟩, hS.F ht⟩) hS.2.2 d_FI_stepOfRow_91
    · have h := h.2 c64
      refine lv_aload_n hx hb d_FI_stepOfRow_67 rfl (lv_at hl 0 rfl) ?_
      refine lv_iload hx hb d_FI_stepOfRow_68 (lv_at hl 2 rfl) ?_
      have hPc := hP.sub (ws' := [(a_fi, .inr (3, [.int fr, .int cr, .int sc, .int sk, .int cc, .int ec, .ref a_fitr, .ref a_fien, .ref a_ficu])), (a_fitr, .inl (cI, m1, .inl ftr)), (a_fien, .inl (cJ, m2, .inr (.inl fen))), (a_ficu, .inl (cI, 256, .inl fcu))]) [0, 1, 2, 3] rfl
      have hDc := hD.sub (ws' := [(a_fi, .inr (3, [.int fr, .int cr, .int sc, .int sk, .int cc, .int ec, .ref a_fitr, .ref a_fien, .ref a_ficu])), (a_fitr, .inl (cI, m1, .inl ftr)), (a_fien, .inl (cJ, m2, .inr (.inl fen))), (a_ficu, .inl (cI, 256, .inl fcu))]) [0, 1, 2, 3] (by decide) rfl
      have hFc := va_free (wc := [(a_fi, .inr (3, [.int fr, .int cr, .int sc, .int sk, .int cc, .int ec, .ref a_fitr, .ref a_fien, .ref a_ficu])), (a_fitr, .inl (cI, m1, .inl ftr)), (a_fien, .inl (cJ, m2, .inr (.inl fen))), (a_ficu, .inl (cI, 256, .inl fcu))]) hD hS hA [0, 1, 2, 3] rfl
      refine va_calli (va_runV (As := [.int L5]) (rest := []) ⟨hx, hb, hml, hown, hts⟩ (c_FI_before l dC dI cI cJ cZ cQ a_fi a_ficu a_fitr a_fien H.size fr cr sc sk cc ec m1 ftr m2 fen fcu L5 _  h) (cwV 1 hts (goodIn_app (jGl (List.forall_mem_cons.mpr ⟨mw_789, List.forall_mem_cons.mpr ⟨mw_791, List.forall_mem_cons.mpr ⟨ms_FI_before, List.forall_mem_cons.mpr ⟨mw_6, fun _ h => absurd h List.not_mem_nil⟩⟩⟩⟩)) (jG mw_792)) rfl rfl rfl (by decide +kernel) ⟨Nat.le_of_ble_eq_true rfl, Nat.le_of_ble_eq_true rfl⟩) ⟨jPre_blind, va_recv hK hPc (ci := 3) (q0 := 0) rfl rfl, jPre_in hPc hK hDc hZ hS hFc hst⟩ rfl rfl hl.1 rfl (lv_room (Nat.le_of_ble_eq_true rfl)) d_FI_stepOfRow_70 ⟨(Nat.zero_le _), (Nat.zero_le _)⟩) hS (fun q _ h => hFc q h) hFc (fun r18 u t H1 locs ht hvm hw hB hz1 hk1 hS => ?_)
      obtain ⟨u19, u20, u21, u22, u23, u24, u25, u26, u27, u28, u29⟩ := u
      obtain ⟨q30, q31, hP1, hK1, hD1⟩ := hB
      rw [ht] at hP1
      have h := hw
      obtain ⟨hP, hD⟩ := va_join (wr := []) (w1 := [(a_fi, .inr (3, [.int u19, .int u20, .int u21, .int u22, .int u23, .int u24, .ref q30, .ref q31, .ref a_ficu])), (q30, .inl (cI, u25, .inl u26)), (q31, .inl (cJ, u27, .inr (.inl u28))), (a_ficu, .inl (cI, 256, .inl u29))]) hP hD [0, 1, 2, 3] [] rfl rfl (by decide) (by decide) hk1 hFc hP1 hD1
      generalize H1 = H at hP hS ⊢
      have hP : va_P (dC, dI) vwCl [(a_fi, .inr (3, [.int u19, .int u20, .int u21, .int u22, .int u23, .int u24, .ref q30, .ref q31, .ref a_ficu])), (q30, .inl (cI, u25, .inl u26)), (q31, .inl (cJ, u27, .inr (.inl u28))), (a_ficu, .inl (cI, 256, .inl u29))] H := hP
      have hD : va_D A [(a_fi, .inr (3, [.int u19, .int u20, .int u21, .int u22, .int u23, .int u24, .ref q30, .ref q31, .ref a_ficu])), (q30, .inl (cI, u25, .inl u26)), (q31, .inl (cJ, u27, .inr (.inl u28))), (a_ficu, .inl (cI, 256, .inl u29))] := hD
      refine lv_istore (lv' := [(5, .int r18), (0, .ref a_fi), (2, .int L2), (6, .int L6)]) hx hb d_FI_stepOfRow_73 hl (by decide) rfl (fun ls hl => ?_)
      obtain ⟨x32, ex32⟩ : ∃ y : Int32, y = L6 + (-1) := ⟨_, rfl⟩
      have h := h x32 ex32
      refine lv_iinc (v := x32) (lv' := [(6, .int x32), (5, .int r18), (0, .ref a_fi), (2, .int L2)]) hx hb d_FI_stepOfRow_75 hl (k := 3) rfl (by rw [ex32]; rfl) (by decide) rfl (fun ls hl => ?_)
      refine lv_goto (tgt := 61) hx hb d_FI_stepOfRow_78 (by decide) ?_
      exact ih u19 u20 u21 u22 u23 u24 u25 u26 u27 u28 u29 L2 r18 x32 q30 q31 H locs ls h hP hD hS (lv_sub hl [2, 3, 1, 0] rfl)
set_option maxHeartbeats 4000000 in
set_option maxRecDepth 100000 in
theorem l_FI_stepOfRow_44 {p : Program} {l : Launch} {e : Env} {s : State} {m : MethodId} {args : Array Value} {below : List Frame} {meth : Method} {c : Code} {dC : Nat → ClassId} {dI : Nat → Nat → Nat} {cI cJ cZ cQ : ClassId} {a_fi a_ficu : Nat} {A : Nat → Prop} {Post : Int32 → Int32 → Int32 → Int32 → Int32 → Int32 → Int32 → Nat → (Nat → Int32) → Nat → (Nat → Int64) → (Nat → Int32) → Prop} (C0 : jC p l s m args meth c b_FI_stepOfRow (some .int) 7 R_FI (dC, dI) cI cJ cZ cQ A)  : ∀ (fr cr sc sk cc ec : Int32) (m1 : Nat) (ftr : Nat → Int32) (m2 : Nat) (fen : Nat → Int64) (fcu : Nat → Int32) (L2 L3 L4 : Int32), ∀ (a_fitr a_fien : Nat), ∀ (H : Heap) (locs : List Loc) (ls : Array Slot), wp_FI_stepOfRow_44 Post  fr cr sc sk cc ec m1 ftr m2 fen fcu L2 L3 L4 → va_P (dC, dI) vwCl [(a_fi, .inr (3, [.int fr, .int cr, .int sc, .int sk, .int cc, .int ec, .ref a_fitr, .ref a_fien, .ref a_ficu])), (a_fitr, .inl (cI, m1, .inl ftr)), (a_fien, .inl (cJ, m2, .inr (.inl fen))), (a_ficu, .inl (cI, 256, .inl fcu))] H → va_D A [(a_fi, .inr (3, [.int fr, .int cr, .int sc, .int sk, .int cc, .int ec, .ref a_fitr, .ref a_fien, .ref a_ficu])), (a_fitr, .inl (cI, m1, .inl ftr)), (a_fien, .inl (cJ, m2, .inr (.inl fen))), (a_ficu, .inl (cI, 256, .inl fcu))] → va_S A s.heap H locs → lv_has ls 7 [(0, .ref a_fi), (2, .int L2), (3, .int L3), (4, .int L4)] → W p l e ({ frames := 11, cells := 0, slots := 0, locals := 171 } : Room) s m args below meth c H locs 0 0 (MQ below (jQ_FI_stepOfRow dC dI cI cJ cZ cQ A a_fi a_ficu Post) args s 0 0 A) (F0 m 44 ls []) := by
  obtain ⟨hx, hb, hr, hml, hown, hts, hlocks, hK, hZ, hA, hst⟩ := id C0
  intro fr cr sc sk cc ec m1 ftr m2 fen fcu L2 L3 L4 a_fitr a_fien H locs ls h hP hD hS hl
  rw [wp_FI_stepOfRow_44] at h
  refine lv_iload_n hx hb d_FI_stepOfRow_44 rfl (lv_at hl 1 rfl) ?_
  refine lv_iload hx hb d_FI_stepOfRow_45 (lv_at hl 3 rfl) ?_
  refine lv_icmp_lt (tgt := 52) hx hb d_FI_stepOfRow_47 (by decide) (fun c47 => ?_) (fun c47 => ?_)
  · have h := h.1 c47
    refine lv_iload_n hx hb d_FI_stepOfRow_52 rfl (lv_at hl 2 rfl) ?_
    refine lv_istore (lv' := [(5, .int L3), (0, .ref a_fi), (2, .int L2), (3, .int L3), (4, .int L4)]) hx hb d_FI_stepOfRow_53 hl (by decide) rfl (fun ls hl => ?_)
    refine lv_iload hx hb d_FI_stepOfRow_55 (lv_at hl 4 rfl) ?_
    refine lv_iconst (v := 1) hx hb d_FI_stepOfRow_57 (by decide) ?_
    refine lv_isub hx hb d_FI_stepOfRow_58 ?_
    refine lv_topi (fun x17 ex17 => ?_)
    have h := h x17 ex17
    refine lv_istore (lv' := [(6, .int x17), (5, .int L3), (0, .ref a_fi), (2, .int L2), (3, .int L3), (4, .int L4)]) hx hb d_FI_stepOfRow_59 hl (by decide) rfl (fun ls hl => ?_)
    obtain ⟨n_61, h⟩ := h
    exact l_FI_stepOfRow_61 C0  n_61 fr cr sc sk cc ec m1 ftr m2 fen fcu L2 L3 x17 a_fitr a_fien H locs ls h hP hD hS (lv_sub hl [2, 3, 1, 0] rfl)
  · have h := h.2 c47
    refine lv_iconst (v := (-1)) hx hb d_FI_stepOfRow_50 (by decide) ?_
    have hP9 := hP
    have hD9 := hD
    exact W.iret (v := (-1)) hx hb hr (fun t ht hW => ⟨⟨(-1), (fr, cr, sc, sk, cc, ec, m1, ftr, m2, fen, fcu), rfl, h, a_fitr, a_fien, by rw [ht]; exact hP9, va_K.moved hW.alike hK, hD9⟩, hS.F ht⟩) hS.2.2 d_FI_stepOfRow_51
set_option maxHeartbeats 4000000 in
set_option maxRecDepth 100000 in
theorem l_FI_stepOfRow_18 {p : Program} {l : Launch} {e : Env} {s : State} {m : MethodId} {args : Array Value} {below : List Frame} {meth : Method} {c : Code} {dC : Nat → ClassId} {dI : Nat → Nat → Nat} {cI cJ cZ cQ : ClassId} {a_fi a_ficu : Nat} {A : Nat → Prop} {Post : Int32 → Int32 → Int32 → Int32 → Int32 → Int32 → Int32 → Nat → (Nat → Int32) → Nat → (Nat → Int64) → (Nat → Int32) → Prop} (C0 : jC p l s m args meth c b_FI_stepOfRow (some .int) 7 R_FI (dC, dI) cI cJ cZ cQ A)  : ∀ n9 : Nat, ∀ (fr cr sc sk cc ec : Int32) (m1 : Nat) (ftr : Nat → Int32) (m2 : Nat) (fen : Nat → Int64) (fcu : Nat → Int32) (L2 L3 L4 L5 : Int32), ∀ (a_fitr a_fien : Nat), ∀ (H : Heap) (locs : List Loc) (ls : Array Slot), wp_FI_stepOfRow_18 Post  n9 fr cr sc sk cc ec m1 ftr m2 fen fcu L2 L3 L4 L5 → va_P (dC, dI) vwCl [(a_fi, .inr (3, [.int fr, .int cr, .int sc, .int sk, .int cc, .int ec, .ref a_fitr, .ref a_fien, .ref a_ficu])), (a_fitr, .inl (cI, m1, .inl ftr)), (a_fien, .inl (cJ, m2, .inr (.inl fen))), (a_ficu, .inl (cI, 256, .inl fcu))] H → va_D A [(a_fi, .inr (3, [.int fr, .int cr, .int sc, .int sk, .int cc, .int ec, .ref a_fitr, .ref a_fien, .ref a_ficu])), (a_fitr, .inl (cI, m1, .inl ftr)), (a_fien, .inl (cJ, m2, .inr (.inl fen))), (a_ficu, .inl (cI, 256, .inl fcu))] → va_S A s.heap H locs → lv_has ls 7 [(0, .ref a_fi), (2, .int L2), (3, .int L3), (4, .int L4), (5, .int L5)] → W p l e ({ frames := 11, cells := 0, slots := 0, locals := 171 } : Room) s m args below meth c H locs 0 0 (MQ below (jQ_FI_stepOfRow dC dI cI cJ cZ cQ A a_fi a_ficu Post) args s 0 0 A) (F0 m 18 ls []) := by
  obtain ⟨hx, hb, hr, hml, hown, hts, hlocks, hK, hZ, hA, hst⟩ := id C0
  intro n9
  induction n9 with
  | zero =>
    intro fr cr sc sk cc ec m1 ftr m2 fen fcu L2 L3 L4 L5 a_fitr a_fien H locs ls h hP hD hS hl
    exact False.elim h
  | succ n_18 ih =>
    intro fr cr sc sk cc ec m1 ftr m2 fen fcu L2 L3 L4 L5 a_fitr a_fien H locs ls h hP hD hS hl
    rw [wp_FI_stepOfRow_18] at h
    refine lv_iload hx hb d_FI_stepOfRow_18 (lv_at hl 4 rfl) ?_
    refine lv_if_le (tgt := 44) hx hb d_FI_stepOfRow_20 (by decide) (fun c20 => ?_) (fun c20 => ?_)
    · have h := h.1 c20
      exact l_FI_stepOfRow_44 C0  fr cr sc sk cc ec m1 ftr m2 fen fcu L2 L3 L4 a_fitr a_fien H locs ls h hP hD hS (lv_sub hl [0, 1, 2, 3] rfl)
    · have h := h.2 c20
      refine lv_iload hx hb d_FI_stepOfRow_23 (lv_at hl 3 rfl) ?_
      refine lv_bipush (v := 40) hx hb d_FI_stepOfRow_25 (by decide) ?_
      refine lv_icmp_ge (tgt := 44) hx hb d_FI_stepOfRow_27 (by decide) (fun c27 => ?_) (fun c27 => ?_)
      · have h := h.1 c27
        exact l_FI_stepOfRow_44 C0  fr cr sc sk cc ec m1 ftr m2 fen fcu L2 L3 L4 a_fitr a_fien H locs ls h hP hD hS (lv_sub hl [0, 1, 2, 3] rfl)
      · have h := h.2 c27
        obtain ⟨x2, ex2⟩ : ∃ y : Int32, y = L4 + 1 := ⟨_, rfl⟩
        have h := h x2 ex2
        refine lv_iinc (v := x2) (lv' := [(4, .int x2), (0, .ref a_fi), (2, .int L2), (3, .int L3), (5, .int L5)]) hx hb d_FI_stepOfRow_30 hl (k := 3) rfl (by rw [ex2]; rfl) (by decide) rfl (fun ls hl => ?_)
        refine lv_aload_n hx hb d_FI_stepOfRow_33 rfl (lv_at hl 1 rfl) ?_
        refine lv_iload hx hb d_FI_stepOfRow_34 (lv_at hl 4 rfl) ?_
        have hPc := hP.sub (ws' := [(a_fi, .inr (3, [.int fr, .int cr, .int sc, .int sk, .int cc, .int ec, .ref a_fitr, .ref a_fien, .ref a_ficu])), (a_fitr, .inl (cI, m1, .inl ftr)), (a_fien, .inl (cJ, m2, .inr (.inl fen))), (a_ficu, .inl (cI, 256, .inl fcu))]) [0, 1, 2, 3] rfl
        have hDc := hD.sub (ws' := [(a_fi, .inr (3, [.int fr, .int cr, .int sc, .int sk, .int cc, .int ec, .ref a_fitr, .ref a_fien, .ref a_ficu])), (a_fitr, .inl (cI, m1, .inl ftr)), (a_fien, .inl (cJ, m2, .inr (.inl fen))), (a_ficu, .inl (cI, 256, .inl fcu))]) [0, 1, 2, 3] (by decide) rfl
        have hFc := va_free (wc := [(a_fi, .inr (3, [.int fr, .int cr, .int sc, .int sk, .int cc, .int ec, .ref a_fitr, .ref a_fien, .ref a_ficu])), (a_fitr, .inl (cI, m1, .inl ftr)), (a_fien, .inl (cJ, m2, .inr (.inl fen))), (a_ficu, .inl (cI, 256, .inl fcu))]) hD hS hA [0, 1, 2, 3] rfl
        refine va_calli (va_runV (As := [.int L5]) (rest := []) ⟨hx, hb, hml, hown, hts⟩ (c_FI_before l dC dI cI cJ cZ cQ a_fi a_ficu a_fitr a_fien H.size fr cr sc sk cc ec m1 ftr m2 fen fcu L5 _  h) (cwV 1 hts (goodIn_app (jGl (List.forall_mem_cons.mpr ⟨mw_789, List.forall_mem_cons.mpr ⟨mw_791, List.forall_mem_cons.mpr ⟨ms_FI_before, List.forall_mem_cons.mpr ⟨mw_6, fun _ h => absurd h List.not_mem_nil⟩⟩⟩⟩)) (jG mw_792)) rfl rfl rfl (by decide +kernel) ⟨Nat.le_of_ble_eq_true rfl, Nat.le_of_ble_eq_true rfl⟩) ⟨jPre_blind, va_recv hK hPc (ci := 3) (q0 := 0) rfl rfl, jPre_in hPc hK hDc hZ hS hFc hst⟩ rfl rfl hl.1 rfl (lv_room (Nat.le_of_ble_eq_true rfl)) d_FI_stepOfRow_36 ⟨(Nat.zero_le _), (Nat.zero_le _)⟩) hS (fun q _ h => hFc q h) hFc (fun r3 u t H1 locs ht hvm hw hB hz1 hk1 hS => ?_)
        obtain ⟨u4, u5, u6, u7, u8, u9, u10, u11, u12, u13, u14⟩ := u
        obtain ⟨q15, q16, hP1, hK1, hD1⟩ := hB
        rw [ht] at hP1
        have h := hw
        obtain ⟨hP, hD⟩ := va_join (wr := []) (w1 := [(a_fi, .inr (3, [.int u4, .int u5, .int u6, .int u7, .int u8, .int u9, .ref q15, .ref q16, .ref a_ficu])), (q15, .inl (cI, u10, .inl u11)), (q16, .inl (cJ, u12, .inr (.inl u13))), (a_ficu, .inl (cI, 256, .inl u14))]) hP hD [0, 1, 2, 3] [] rfl rfl (by decide) (by decide) hk1 hFc hP1 hD1
        generalize H1 = H at hP hS ⊢
        have hP : va_P (dC, dI) vwCl [(a_fi, .inr (3, [.int u4, .int u5, .int u6, .int u7, .int u8, .int u9, .ref q15, .ref q16, .ref a_ficu])), (q15, .inl (cI, u10, .inl u11)), (q16, .inl (cJ, u12, .inr (.inl u13))), (a_ficu, .inl (cI, 256, .inl u14))] H := hP
        have hD : va_D A [(a_fi, .inr (3, [.int u4, .int u5, .int u6, .int u7, .int u8, .int u9, .ref q15, .ref q16, .ref a_ficu])), (q15, .inl (cI, u10, .inl u11)), (q16, .inl (cJ, u12, .inr (.inl u13))), (a_ficu, .inl (cI, 256, .inl u14))] := hD
        refine lv_istore (lv' := [(5, .int r3), (4, .int x2), (0, .ref a_fi), (2, .int L2), (3, .int L3)]) hx hb d_FI_stepOfRow_39 hl (by decide) rfl (fun ls hl => ?_)
        refine lv_goto (tgt := 18) hx hb d_FI_stepOfRow_41 (by decide) ?_
        exact ih u4 u5 u6 u7 u8 u9 u10 u11 u12 u13 u14 L2 L3 x2 r3 q15 q16 H locs ls h hP hD hS (lv_sub hl [2, 3, 4, 1, 0] rfl)
set_option maxHeartbeats 4000000 in
set_option maxRecDepth 100000 in
theorem c_FI_stepOfRow (l : Launch) (dC : Nat → ClassId) (dI : Nat → Nat → Nat) (cI cJ cZ cQ : ClassId) (a_fi a_ficu : Nat) (a_fitr a_fien : Nat) (sz : Nat) (fr cr sc sk cc ec : Int32) (m1 : Nat) (ftr : Nat → Int32) (m2 : Nat) (fen : Nat → Int64) (fcu : Nat → Int32) (k0 i0 : Int32) (Post : Int32 → Int32 → Int32 → Int32 → Int32 → Int32 → Int32 → Nat → (Nat → Int32) → Nat → (Nat → Int64) → (Nat → Int32) → Prop) (h : wp_FI_stepOfRow Post fr cr sc sk cc ec m1 ftr m2 fen fcu k0 i0) : Met l y_FI_stepOfRow (.code y_FI_stepOfRow b_FI_stepOfRow 7 (some .int) :: jW) ({ frames := 11, cells := 0, slots := 0, locals := 171 } : Room) (jPre l (dC, dI) cI cJ cZ cQ [(a_fi, .inr (3, [.int fr, .int cr, .int sc, .int sk, .int cc, .int ec, .ref a_fitr, .ref a_fien, .ref a_ficu])), (a_fitr, .inl (cI, m1, .inl ftr)), (a_fien, .inl (cJ, m2, .inr (.inl fen))), (a_ficu, .inl (cI, 256, .inl fcu))] sz [.ref a_fi, .int k0, .int i0]) (jQ_FI_stepOfRow dC dI cI cJ cZ cQ (va_A [(a_fi, .inr (3, [.int fr, .int cr, .int sc, .int sk, .int cc, .int ec, .ref a_fitr, .ref a_fien, .ref a_ficu])), (a_fitr, .inl (cI, m1, .inl ftr)), (a_fien, .inl (cJ, m2, .inr (.inl fen))), (a_ficu, .inl (cI, 256, .inl fcu))] sz) a_fi a_ficu Post) 0 0 (va_A [(a_fi, .inr (3, [.int fr, .int cr, .int sc, .int sk, .int cc, .int ec, .ref a_fitr, .ref a_fien, .ref a_ficu])), (a_fitr, .inl (cI, m1, .inl ftr)), (a_fien, .inl (cJ, m2, .inr (.inl fen))), (a_ficu, .inl (cI, 256, .inl fcu))] sz) := by
  refine Met.ofW (cc := b_FI_stepOfRow) (maxL := 7) (ret := (some .int)) (by decide) rfl ?_
  intro p e s m args below meth c s₁ B hml hv
  obtain ⟨rfl, hsz, hP, hK, hD0, hZ, hst⟩ := hv
  subst hsz
  have hD := hD0.self (sz := s.heap.size)
  generalize hAe : va_A [(a_fi, .inr (3, [.int fr, .int cr, .int sc, .int sk, .int cc, .int ec, .ref a_fitr, .ref a_fien, .ref a_ficu])), (a_fitr, .inl (cI, m1, .inl ftr)), (a_fien, .inl (cJ, m2, .inr (.inl fen))), (a_ficu, .inl (cI, 256, .inl fcu))] s.heap.size = A at hD hZ ⊢
  have hA : ∀ q : Nat, s.heap.size ≤ q → A q := fun q h => by rw [← hAe]; exact Or.inr h
  have C0 : jC p l s m ([.ref a_fi, .int k0, .int i0] : List Value).toArray meth c b_FI_stepOfRow (some .int) 7 R_FI (dC, dI) cI cJ cZ cQ A := ⟨B.exec, B.bytes, B.returns, hml, findClass_of_methodNamed B.named, fun w hw => atoms_spec (ws := (.code y_FI_stepOfRow b_FI_stepOfRow 7 (some .int) :: jW)) B.pre w (List.mem_cons_of_mem _ hw), B.notSynchronized, hK, hZ, hA, hst⟩
  obtain ⟨hx, hb, hr, hml, hown, hts, hlocks, hK, hZ, hA, hst⟩ := id C0
  have hS : va_S A s.heap s.heap [] := va_S.rf
  have hl := lv_entry ([.ref a_fi, .int k0, .int i0]) (n := 7) (Nat.le_of_ble_eq_true rfl)
  rw [lg_entry_eq]
  generalize (lg_sl ([.ref a_fi, .int k0, .int i0]) ++ List.replicate (7 - (lg_sl ([.ref a_fi, .int k0, .int i0])).length) Slot.unset).toArray = ls at hl ⊢
  have hl : lv_has ls 7 [(0, .ref a_fi), (1, .int k0), (2, .int i0)] := hl
  obtain ⟨H, hH⟩ : ∃ H : Heap, H = s.heap := ⟨_, rfl⟩
  obtain ⟨locs, hlc⟩ : ∃ L : List Loc, L = [] := ⟨_, rfl⟩
  have hP : va_P (dC, dI) vwCl [(a_fi, .inr (3, [.int fr, .int cr, .int sc, .int sk, .int cc, .int ec, .ref a_fitr, .ref a_fien, .ref a_ficu])), (a_fitr, .inl (cI, m1, .inl ftr)), (a_fien, .inl (cJ, m2, .inr (.inl fen))), (a_ficu, .inl (cI, 256, .inl fcu))] H := by rw [hH]; exact hP
  have hS : va_S A s.heap H locs := by rw [hH, hlc]; exact hS
  suffices hW9 : W p l e ({ frames := 11, cells := 0, slots := 0, locals := 171 } : Room) s m ([.ref a_fi, .int k0, .int i0] : List Value).toArray below meth c H locs 0 0 (MQ below (jQ_FI_stepOfRow dC dI cI cJ cZ cQ A a_fi a_ficu Post) ([.ref a_fi, .int k0, .int i0] : List Value).toArray s 0 0 A) (F0 m 0 ls []) by rw [hH, hlc] at hW9; exact hW9
  clear hH hlc
  rw [wp_FI_stepOfRow] at h
  refine lv_aload_n hx hb d_FI_stepOfRow_0 rfl (lv_at hl 0 rfl) ?_
  refine va_get (D := (dC, dI)) (ci := 3) (v := .ref a_fien) (C := R_FI) (T := T_FI) (N := 9) hx hb hts in_FI hown hK hP 0 rfl rfl 7 (by decide) (hts _ mw_140) (fun _ h9 => h9) rfl d_FI_stepOfRow_1 ?_
  refine lv_iload_n hx hb d_FI_stepOfRow_4 rfl (lv_at hl 1 rfl) ?_
  refine va_lald hx hb hK hP 2 1 rfl rfl h.1 d_FI_stepOfRow_5 ?_
  have h := h.2
  refine lv_l2i hx hb d_FI_stepOfRow_6 rfl ?_
  refine lv_sipush (v := 16383) hx hb d_FI_stepOfRow_7 (by decide) ?_
  refine lv_iand hx hb d_FI_stepOfRow_10 ?_
  refine lv_topi (fun x1 ex1 => ?_)
  have h := h x1 ex1
  refine lv_istore_n (lv' := [(3, .int x1), (0, .ref a_fi), (1, .int k0), (2, .int i0)]) hx hb d_FI_stepOfRow_11 rfl hl (by decide) rfl (fun ls hl => ?_)
  refine lv_iconst (v := 0) hx hb d_FI_stepOfRow_12 (by decide) ?_
  refine lv_istore (lv' := [(4, .int 0), (3, .int x1), (0, .ref a_fi), (1, .int k0), (2, .int i0)]) hx hb d_FI_stepOfRow_13 hl (by decide) rfl (fun ls hl => ?_)
  refine lv_iload_n hx hb d_FI_stepOfRow_15 rfl (lv_at hl 1 rfl) ?_
  refine lv_istore (lv' := [(5, .int x1), (4, .int 0), (3, .int x1), (0, .ref a_fi), (1, .int k0), (2, .int i0)]) hx hb d_FI_stepOfRow_16 hl (by decide) rfl (fun ls hl => ?_)
  obtain ⟨n_18, h⟩ := h
  exact l_FI_stepOfRow_18 C0  n_18 fr cr sc sk cc ec m1 ftr m2 fen fcu i0 x1 0 x1 a_fitr a_fien H locs ls h hP hD hS (lv_sub hl [3, 5, 2, 1, 0] rfl)

/-- what OrderMachines$Findings.cutAt(I)I leaves -/
abbrev jQ_FI_cutAt (dC : Nat → ClassId) (dI : Nat → Nat → Nat) (cI cJ cZ cQ : ClassId) (A : Nat → Prop) (a_fi a_ficu : Nat) (Post : Int32 → Int32 → Int32 → Int32 → Int32 → Int32 → Int32 → Nat → (Nat → Int32) → Nat → (Nat → Int64) → (Nat → Int32) → Prop) : Array Value → State → Outcome → State → Prop := va_Qi (fun (r : Int32) (u : Int32 × Int32 × Int32 × Int32 × Int32 × Int32 × Nat × (Nat → Int32) × Nat × (Nat → Int64) × (Nat → Int32)) => Post r u.1 u.2.1 u.2.2.1 u.2.2.2.1 u.2.2.2.2.1 u.2.2.2.2.2.1 u.2.2.2.2.2.2.1 u.2.2.2.2.2.2.2.1 u.2.2.2.2.2.2.2.2.1 u.2.2.2.2.2.2.2.2.2.1 u.2.2.2.2.2.2.2.2.2.2) (fun (u : Int32 × Int32 × Int32 × Int32 × Int32 × Int32 × Nat × (Nat → Int32) × Nat × (Nat → Int64) × (Nat → Int32)) (t : State) => match u with
  | (fr, cr, sc, sk, cc, ec, m1, ftr, m2, fen, fcu) => ∃ (a_fitr a_fien : Nat), jPost (dC, dI) (jT cI cJ cZ cQ) A [(a_fi, .inr (3, [.int fr, .int cr, .int sc, .int sk, .int cc, .int ec, .ref a_fitr, .ref a_fien, .ref a_ficu])), (a_fitr, .inl (cI, m1, .inl ftr)), (a_fien, .inl (cJ, m2, .inr (.inl fen))), (a_ficu, .inl (cI, 256, .inl fcu))] t) A
def wp_FI_cutAt_30 (Post : Int32 → Int32 → Int32 → Int32 → Int32 → Int32 → Int32 → Nat → (Nat → Int32) → Nat → (Nat → Int64) → (Nat → Int32) → Prop) (K4 : Int32 → Int32 → Int32 → Int32 → Int32 → Int32 → Nat → (Nat → Int32) → Nat → (Nat → Int64) → (Nat → Int32) → Int32 → Int32 → Prop) (fr cr sc sk cc ec : Int32) (m1 : Nat) (ftr : Nat → Int32) (m2 : Nat) (fen : Nat → Int64) (fcu : Nat → Int32) (L2 L3 : Int32) : Prop :=
    ∀ x2 : Int32, x2 = L3 + 1 → K4 fr cr sc sk cc ec m1 ftr m2 fen fcu L2 x2
def wp_FI_cutAt_4 (Post : Int32 → Int32 → Int32 → Int32 → Int32 → Int32 → Int32 → Nat → (Nat → Int32) → Nat → (Nat → Int64) → (Nat → Int32) → Prop)  : Nat → Int32 → Int32 → Int32 → Int32 → Int32 → Int32 → Nat → (Nat → Int32) → Nat → (Nat → Int64) → (Nat → Int32) → Int32 → Int32 → Prop
  | 0, _, _, _, _, _, _, _, _, _, _, _, _, _ => False
  | n_4 + 1, fr, cr, sc, sk, cc, ec, m1, ftr, m2, fen, fcu, L2, L3 =>
    ((256 ≤ L3 → Post (-1) fr cr sc sk cc ec m1 ftr m2 fen fcu) ∧
    (¬ 256 ≤ L3 → vp_in L3 256 ∧ (((fcu L3.toNatClampNeg) = (-1) → wp_FI_cutAt_30 Post (fun (fr : Int32) (cr : Int32) (sc : Int32) (sk : Int32) (cc : Int32) (ec : Int32) (m1 : Nat) (ftr : Nat → Int32) (m2 : Nat) (fen : Nat → Int64) (fcu : Nat → Int32) (L2 : Int32) (L3 : Int32) => wp_FI_cutAt_4 Post n_4 fr cr sc sk cc ec m1 ftr m2 fen fcu L2 L3) fr cr sc sk cc ec m1 ftr m2 fen fcu L2 L3) ∧
      (¬ (fcu L3.toNatClampNeg) = (-1) → ((¬ L2 = 0 → ∀ x1 : Int32, x1 = L2 + (-1) → wp_FI_cutAt_30 Post (fun (fr : Int32) (cr : Int32) (sc : Int32) (sk : Int32) (cc : Int32) (ec : Int32) (m1 : Nat) (ftr : Nat → Int32) (m2 : Nat) (fen : Nat → Int64) (fcu : Nat → Int32) (L2 : Int32) (L3 : Int32) => wp_FI_cutAt_4 Post n_4 fr cr sc sk cc ec m1 ftr m2 fen fcu L2 L3) fr cr sc sk cc ec m1 ftr m2 fen fcu x1 L3) ∧
        (L2 = 0 → Post L3 fr cr sc sk cc ec m1 ftr m2 fen fcu))))))
/-- OrderMachines$Findings.cutAt(I)I -/
def wp_FI_cutAt (Post : Int32 → Int32 → Int32 → Int32 → Int32 → Int32 → Int32 → Nat → (Nat → Int32) → Nat → (Nat → Int64) → (Nat → Int32) → Prop) (fr cr sc sk cc ec : Int32) (m1 : Nat) (ftr : Nat → Int32) (m2 : Nat) (fen : Nat → Int64) (fcu : Nat → Int32) (k0 : Int32) : Prop :=
  (∃ n_4 : Nat, wp_FI_cutAt_4 Post n_4 fr cr sc sk cc ec m1 ftr m2 fen fcu k0 0)
set_option maxHeartbeats 4000000 in
set_option maxRecDepth 100000 in
theorem l_FI_cutAt_30 {p : Program} {l : Launch} {e : Env} {s : State} {m : MethodId} {args : Array Value} {below : List Frame} {meth : Method} {c : Code} {dC : Nat → ClassId} {dI : Nat → Nat → Nat} {cI cJ cZ cQ : ClassId} {a_fi a_ficu : Nat} {A : Nat → Prop} {Post : Int32 → Int32 → Int32 → Int32 → Int32 → Int32 → Int32 → Nat → (Nat → Int32) → Nat → (Nat → Int64) → (Nat → Int32) → Prop} (C0 : jC p l s m args meth c b_FI_cutAt (some .int) 4 R_FI (dC, dI) cI cJ cZ cQ A) (K4 : Int32 → Int32 → Int32 → Int32 → Int32 → Int32 → Nat → (Nat → Int32) → Nat → (Nat → Int64) → (Nat → Int32) → Int32 → Int32 → Prop) (hK4 : ∀ (fr cr sc sk cc ec : Int32) (m1 : Nat) (ftr : Nat → Int32) (m2 : Nat) (fen : Nat → Int64) (fcu : Nat → Int32) (L2 L3 : Int32), ∀ (a_fitr a_fien : Nat), ∀ (H : Heap) (locs : List Loc) (ls : Array Slot), K4 fr cr sc sk cc ec m1 ftr m2 fen fcu L2 L3 → va_P (dC, dI) vwCl [(a_fi, .inr (3, [.int fr, .int cr, .int sc, .int sk, .int cc, .int ec, .ref a_fitr, .ref a_fien, .ref a_ficu])), (a_fitr, .inl (cI, m1, .inl ftr)), (a_fien, .inl (cJ, m2, .inr (.inl fen))), (a_ficu, .inl (cI, 256, .inl fcu))] H → va_D A [(a_fi, .inr (3, [.int fr, .int cr, .int sc, .int sk, .int cc, .int ec, .ref a_fitr, .ref a_fien, .ref a_ficu])), (a_fitr, .inl (cI, m1, .inl ftr)), (a_fien, .inl (cJ, m2, .inr (.inl fen))), (a_ficu, .inl (cI, 256, .inl fcu))] → va_S A s.heap H locs → lv_has ls 4 [(0, .ref a_fi), (2, .int L2), (3, .int L3)] → W p l e ({ frames := 10, cells := 0, slots := 0, locals := 150 } : Room) s m args below meth c H locs 0 0 (MQ below (jQ_FI_cutAt dC dI cI cJ cZ cQ A a_fi a_ficu Post) args s 0 0 A) (F0 m 4 ls [])) : ∀ (fr cr sc sk cc ec : Int32) (m1 : Nat) (ftr : Nat → Int32) (m2 : Nat) (fen : Nat → Int64) (fcu : Nat → Int32) (L2 L3 : Int32), ∀ (a_fitr a_fien : Nat), ∀ (H : Heap) (locs : List Loc) (ls : Array Slot), wp_FI_cutAt_30 Post K4 fr cr sc sk cc ec m1 ftr m2 fen fcu L2 L3 → va_P (dC, dI) vwCl [(a_fi, .inr (3, [.int fr, .int cr, .int sc, .int sk, .int cc, .int ec, .ref a_fitr, .ref a_fien, .ref a_ficu])), (a_fitr, .inl (cI, m1, .inl ftr)), (a_fien, .inl (cJ, m2, .inr (.inl fen))), (a_ficu, .inl (cI, 256, .inl fcu))] H → va_D A [(a_fi, .inr (3, [.int fr, .int cr, .int sc, .int sk, .int cc, .int ec, .ref a_fitr, .ref a_fien, .ref a_ficu])), (a_fitr, .inl (cI, m1, .inl ftr)), (a_fien, .inl (cJ, m2, .inr (.inl fen))), (a_ficu, .inl (cI, 256, .inl fcu))] → va_S A s.heap H locs → lv_has ls 4 [(0, .ref a_fi), (2, .int L2), (3, .int L3)] → W p l e ({ frames := 10, cells := 0, slots := 0, locals := 150 } : Room) s m args below meth c H locs 0 0 (MQ below (jQ_FI_cutAt dC dI cI cJ cZ cQ A a_fi a_ficu Post) args s 0 0 A) (F0 m 30 ls []) := by
  obtain ⟨hx, hb, hr, hml, hown, hts, hlocks, hK, hZ, hA, hst⟩ := id C0
  intro fr cr sc sk cc ec m1 ftr m2 fen fcu L2 L3 a_fitr a_fien H locs ls h hP hD hS hl
  rw [wp_FI_cutAt_30] at h
  obtain ⟨x2, ex2⟩ : ∃ y : Int32, y = L3 + 1 := ⟨_, rfl⟩
  have h := h x2 ex2
  refine lv_iinc (v := x2) (lv' := [(3, .int x2), (0, .ref a_fi), (2, .int L2)]) hx hb d_FI_cutAt_30 hl (k := 2) rfl (by rw [ex2]; rfl) (by decide) rfl (fun ls hl => ?_)
  refine lv_goto (tgt := 4) hx hb d_FI_cutAt_33 (by decide) ?_
  exact hK4 fr cr sc sk cc ec m1 ftr m2 fen fcu L2 x2 a_fitr a_fien H locs ls h hP hD hS (lv_sub hl [1, 2, 0] rfl)
set_option maxHeartbeats 4000000 in
set_option maxRecDepth 100000 in
theorem l_FI_cutAt_4 {p : Program} {l : Launch} {e : Env} {s : State} {m : MethodId} {args : Array Value} {below : List Frame} {meth : Method} {c : Code} {dC : Nat → ClassId} {dI : Nat → Nat → Nat} {cI cJ cZ cQ : ClassId} {a_fi a_ficu : Nat} {A : Nat → Prop} {Post : Int32 → Int32 → Int32 → Int32 → Int32 → Int32 → Int32 → Nat → (Nat → Int32) → Nat → (Nat → Int64) → (Nat → Int32) → Prop} (C0 : jC p l s m args meth c b_FI_cutAt (some .int) 4 R_FI (dC, dI) cI cJ cZ cQ A)  : ∀ n9 : Nat, ∀ (fr cr sc sk cc ec : Int32) (m1 : Nat) (ftr : Nat → Int32) (m2 : Nat) (fen : Nat → Int64) (fcu : Nat → Int32) (L2 L3 : Int32), ∀ (a_fitr a_fien : Nat), ∀ (H : Heap) (locs : List Loc) (ls : Array Slot), wp_FI_cutAt_4 Post  n9 fr cr sc sk cc ec m1 ftr m2 fen fcu L2 L3 → va_P (dC, dI) vwCl [(a_fi, .inr (3, [.int fr, .int cr, .int sc, .int sk, .int cc, .int ec, .ref a_fitr, .ref a_fien, .ref a_ficu])), (a_fitr, .inl (cI, m1, .inl ftr)), (a_fien, .inl (cJ, m2, .inr (.inl fen))), (a_ficu, .inl (cI, 256, .inl fcu))] H → va_D A [(a_fi, .inr (3, [.int fr, .int cr, .int sc, .int sk, .int cc, .int ec, .ref a_fitr, .ref a_fien, .ref a_ficu])), (a_fitr, .inl (cI, m1, .inl ftr)), (a_fien, .inl (cJ, m2, .inr (.inl fen))), (a_ficu, .inl (cI, 256, .inl fcu))] → va_S A s.heap H locs → lv_has ls 4 [(0, .ref a_fi), (2, .int L2), (3, .int L3)] → W p l e ({ frames := 10, cells := 0, slots := 0, locals := 150 } : Room) s m args below meth c H locs 0 0 (MQ below (jQ_FI_cutAt dC dI cI cJ cZ cQ A a_fi a_ficu Post) args s 0 0 A) (F0 m 4 ls []) := by
  obtain ⟨hx, hb, hr, hml, hown, hts, hlocks, hK, hZ, hA, hst⟩ := id C0
  intro n9
  induction n9 with
  | zero =>
    intro fr cr sc sk cc ec m1 ftr m2 fen fcu L2 L3 a_fitr a_fien H locs ls h hP hD hS hl
    exact False.elim h
  | succ n_4 ih =>
    intro fr cr sc sk cc ec m1 ftr m2 fen fcu L2 L3 a_fitr a_fien H locs ls h hP hD hS hl
    rw [wp_FI_cutAt_4] at h
    refine lv_iload_n hx hb d_FI_cutAt_4 rfl (lv_at hl 2 rfl) ?_
    refine lv_sipush (v := 256) hx hb d_FI_cutAt_5 (by decide) ?_
    refine lv_icmp_ge (tgt := 36) hx hb d_FI_cutAt_8 (by decide) (fun c8 => ?_) (fun c8 => ?_)
    · have h := h.1 c8
      refine lv_iconst (v := (-1)) hx hb d_FI_cutAt_36 (by decide) ?_
      have hP9 := hP
      have hD9 := hD
      exact W.iret (v := (-1)) hx hb hr (fun t ht hW => ⟨⟨(-1), (fr, cr, sc, sk, cc, ec, m1, ftr, m2, fen, fcu), rfl, h, a_fitr, a_fien, by rw [ht]; exact hP9, va_K.moved hW.alike hK, hD9⟩, hS.F ht⟩) hS.2.2 d_FI_cutAt_37
    · have h := h.2 c8
      refine lv_aload_n hx hb d_FI_cutAt_11 rfl (lv_at hl 0 rfl) ?_
      refine va_get (D := (dC, dI)) (ci := 3) (v := .ref a_ficu) (C := R_FI) (T := T_FI) (N := 9) hx hb hts in_FI hown hK hP 0 rfl rfl 8 (by decide) (hts _ mw_141) (fun _ h9 => h9) rfl d_FI_cutAt_12 ?_
      refine lv_iload_n hx hb d_FI_cutAt_15 rfl (lv_at hl 2 rfl) ?_
      refine va_iald hx hb hK hP 3 0 rfl rfl h.1 d_FI_cutAt_16 ?_
      have h := h.2
      refine lv_iconst (v := (-1)) hx hb d_FI_cutAt_17 (by decide) ?_
      refine lv_icmp_eq (tgt := 30) hx hb d_FI_cutAt_18 (by decide) (fun c18 => ?_) (fun c18 => ?_)
      · have h := h.1 c18
        exact l_FI_cutAt_30 C0 (fun (fr : Int32) (cr : Int32) (sc : Int32) (sk : Int32) (cc : Int32) (ec : Int32) (m1 : Nat) (ftr : Nat → Int32) (m2 : Nat) (fen : Nat → Int64) (fcu : Nat → Int32) (L2 : Int32) (L3 : Int32) => wp_FI_cutAt_4 Post n_4 fr cr sc sk cc ec m1 ftr m2 fen fcu L2 L3) ih fr cr sc sk cc ec m1 ftr m2 fen fcu L2 L3 a_fitr a_fien H locs ls h hP hD hS hl
      · have h := h.2 c18
        refine lv_iload_n hx hb d_FI_cutAt_21 rfl (lv_at hl 1 rfl) ?_
        refine lv_if_ne (tgt := 27) hx hb d_FI_cutAt_22 (by decide) (fun c22 => ?_) (fun c22 => ?_)
        · have h := h.1 c22
          obtain ⟨x1, ex1⟩ : ∃ y : Int32, y = L2 + (-1) := ⟨_, rfl⟩
          have h := h x1 ex1
          refine lv_iinc (v := x1) (lv' := [(2, .int x1), (0, .ref a_fi), (3, .int L3)]) hx hb d_FI_cutAt_27 hl (k := 1) rfl (by rw [ex1]; rfl) (by decide) rfl (fun ls hl => ?_)
          exact l_FI_cutAt_30 C0 (fun (fr : Int32) (cr : Int32) (sc : Int32) (sk : Int32) (cc : Int32) (ec : Int32) (m1 : Nat) (ftr : Nat → Int32) (m2 : Nat) (fen : Nat → Int64) (fcu : Nat → Int32) (L2 : Int32) (L3 : Int32) => wp_FI_cutAt_4 Post n_4 fr cr sc sk cc ec m1 ftr m2 fen fcu L2 L3) ih fr cr sc sk cc ec m1 ftr m2 fen fcu x1 L3 a_fitr a_fien H locs ls h hP hD hS (lv_sub hl [1, 0, 2] rfl)
        · have h := h.2 c22
          refine lv_iload_n hx hb d_FI_cutAt_25 rfl (lv_at hl 2 rfl) ?_
          have hP9 := hP
          have hD9 := hD
          exact W.iret (v := L3) hx hb hr (fun t ht hW => ⟨⟨L3, (fr, cr, sc, sk, cc, ec, m1, ftr, m2, fen, fcu), rfl, h, a_fitr, a_fien, by rw [ht]; exact hP9, va_K.moved hW.alike hK, hD9⟩, hS.F ht⟩) hS.2.2 d_FI_cutAt_26
set_option maxHeartbeats 4000000 in
set_option maxRecDepth 100000 in
theorem c_FI_cutAt (l : Launch) (dC : Nat → ClassId) (dI : Nat → Nat → Nat) (cI cJ cZ cQ : ClassId) (a_fi a_ficu : Nat) (a_fitr a_fien : Nat) (sz : Nat) (fr cr sc sk cc ec : Int32) (m1 : Nat) (ftr : Nat → Int32) (m2 : Nat) (fen : Nat → Int64) (fcu : Nat → Int32) (k0 : Int32) (Post : Int32 → Int32 → Int32 → Int32 → Int32 → Int32 → Int32 → Nat → (Nat → Int32) → Nat → (Nat → Int64) → (Nat → Int32) → Prop) (h : wp_FI_cutAt Post fr cr sc sk cc ec m1 ftr m2 fen fcu k0) : Met l y_FI_cutAt (.code y_FI_cutAt b_FI_cutAt 4 (some .int) :: jW) ({ frames := 10, cells := 0, slots := 0, locals := 150 } : Room) (jPre l (dC, dI) cI cJ cZ cQ [(a_fi, .inr (3, [.int fr, .int cr, .int sc, .int sk, .int cc, .int ec, .ref a_fitr, .ref a_fien, .ref a_ficu])), (a_fitr, .inl (cI, m1, .inl ftr)), (a_fien, .inl (cJ, m2, .inr (.inl fen))), (a_ficu, .inl (cI, 256, .inl fcu))] sz [.ref a_fi, .int k0]) (jQ_FI_cutAt dC dI cI cJ cZ cQ (va_A [(a_fi, .inr (3, [.int fr, .int cr, .int sc, .int sk, .int cc, .int ec, .ref a_fitr, .ref a_fien, .ref a_ficu])), (a_fitr, .inl (cI, m1, .inl ftr)), (a_fien, .inl (cJ, m2, .inr (.inl fen))), (a_ficu, .inl (cI, 256, .inl fcu))] sz) a_fi a_ficu Post) 0 0 (va_A [(a_fi, .inr (3, [.int fr, .int cr, .int sc, .int sk, .int cc, .int ec, .ref a_fitr, .ref a_fien, .ref a_ficu])), (a_fitr, .inl (cI, m1, .inl ftr)), (a_fien, .inl (cJ, m2, .inr (.inl fen))), (a_ficu, .inl (cI, 256, .inl fcu))] sz) := by
  refine Met.ofW (cc := b_FI_cutAt) (maxL := 4) (ret := (some .int)) (by decide) rfl ?_
  intro p e s m args below meth c s₁ B hml hv
  obtain ⟨rfl, hsz, hP, hK, hD0, hZ, hst⟩ := hv
  subst hsz
  have hD := hD0.self (sz := s.heap.size)
  generalize hAe : va_A [(a_fi, .inr (3, [.int fr, .int cr, .int sc, .int sk, .int cc, .int ec, .ref a_fitr, .ref a_fien, .ref a_ficu])), (a_fitr, .inl (cI, m1, .inl ftr)), (a_fien, .inl (cJ, m2, .inr (.inl fen))), (a_ficu, .inl (cI, 256, .inl fcu))] s.heap.size = A at hD hZ ⊢
  have hA : ∀ q : Nat, s.heap.size ≤ q → A q := fun q h => by rw [← hAe]; exact Or.inr h
  have C0 : jC p l s m ([.ref a_fi, .int k0] : List Value).toArray meth c b_FI_cutAt (some .int) 4 R_FI (dC, dI) cI cJ cZ cQ A := ⟨B.exec, B.bytes, B.returns, hml, findClass_of_methodNamed B.named, fun w hw => atoms_spec (ws := (.code y_FI_cutAt b_FI_cutAt 4 (some .int) :: jW)) B.pre w (List.mem_cons_of_mem _ hw), B.notSynchronized, hK, hZ, hA, hst⟩
  obtain ⟨hx, hb, hr, hml, hown, hts, hlocks, hK, hZ, hA, hst⟩ := id C0
  have hS : va_S A s.heap s.heap [] := va_S.rf
  have hl := lv_entry ([.ref a_fi, .int k0]) (n := 4) (Nat.le_of_ble_eq_true rfl)
  rw [lg_entry_eq]
  generalize (lg_sl ([.ref a_fi, .int k0]) ++ List.replicate (4 - (lg_sl ([.ref a_fi, .int k0])).length) Slot.unset).toArray = ls at hl ⊢
  have hl : lv_has ls 4 [(0, .ref a_fi), (1, .int k0)] := hl
  obtain ⟨H, hH⟩ : ∃ H : Heap, H = s.heap := ⟨_, rfl⟩
  obtain ⟨locs, hlc⟩ : ∃ L : List Loc, L = [] := ⟨_, rfl⟩
  have hP : va_P (dC, dI) vwCl [(a_fi, .inr (3, [.int fr, .int cr, .int sc, .int sk, .int cc, .int ec, .ref a_fitr, .ref a_fien, .ref a_ficu])), (a_fitr, .inl (cI, m1, .inl ftr)), (a_fien, .inl (cJ, m2, .inr (.inl fen))), (a_ficu, .inl (cI, 256, .inl fcu))] H := by rw [hH]; exact hP
  have hS : va_S A s.heap H locs := by rw [hH, hlc]; exact hS
  suffices hW9 : W p l e ({ frames := 10, cells := 0, slots := 0, locals := 150 } : Room) s m ([.ref a_fi, .int k0] : List Value).toArray below meth c H locs 0 0 (MQ below (jQ_FI_cutAt dC dI cI cJ cZ cQ A a_fi a_ficu Post) ([.ref a_fi, .int k0] : List Value).toArray s 0 0 A) (F0 m 0 ls []) by rw [hH, hlc] at hW9; exact hW9
  clear hH hlc
  rw [wp_FI_cutAt] at h
  refine lv_iload_n hx hb d_FI_cutAt_0 rfl (lv_at hl 1 rfl) ?_
  refine lv_istore_n (lv' := [(2, .int k0), (0, .ref a_fi), (1, .int k0)]) hx hb d_FI_cutAt_1 rfl hl (by decide) rfl (fun ls hl => ?_)
  refine lv_iconst (v := 0) hx hb d_FI_cutAt_2 (by decide) ?_
  refine lv_istore_n (lv' := [(3, .int 0), (2, .int k0), (0, .ref a_fi), (1, .int k0)]) hx hb d_FI_cutAt_3 rfl hl (by decide) rfl (fun ls hl => ?_)
  obtain ⟨n_4, h⟩ := h
  exact l_FI_cutAt_4 C0  n_4 fr cr sc sk cc ec m1 ftr m2 fen fcu k0 0 a_fitr a_fien H locs ls h hP hD hS (lv_sub hl [2, 1, 0] rfl)

/-- what OrderMachines$Findings.fewestSteps(II)I leaves -/
abbrev jQ_FI_fewestSteps (dC : Nat → ClassId) (dI : Nat → Nat → Nat) (cI cJ cZ cQ : ClassId) (A : Nat → Prop) (a_fi a_ficu : Nat) (Post : Int32 → Int32 → Int32 → Int32 → Int32 → Int32 → Int32 → Nat → (Nat → Int32) → Nat → (Nat → Int64) → (Nat → Int32) → Prop) : Array Value → State → Outcome → State → Prop := va_Qi (fun (r : Int32) (u : Int32 × Int32 × Int32 × Int32 × Int32 × Int32 × Nat × (Nat → Int32) × Nat × (Nat → Int64) × (Nat → Int32)) => Post r u.1 u.2.1 u.2.2.1 u.2.2.2.1 u.2.2.2.2.1 u.2.2.2.2.2.1 u.2.2.2.2.2.2.1 u.2.2.2.2.2.2.2.1 u.2.2.2.2.2.2.2.2.1 u.2.2.2.2.2.2.2.2.2.1 u.2.2.2.2.2.2.2.2.2.2) (fun (u : Int32 × Int32 × Int32 × Int32 × Int32 × Int32 × Nat × (Nat → Int32) × Nat × (Nat → Int64) × (Nat → Int32)) (t : State) => match u with
  | (fr, cr, sc, sk, cc, ec, m1, ftr, m2, fen, fcu) => ∃ (a_fitr a_fien : Nat), jPost (dC, dI) (jT cI cJ cZ cQ) A [(a_fi, .inr (3, [.int fr, .int cr, .int sc, .int sk, .int cc, .int ec, .ref a_fitr, .ref a_fien, .ref a_ficu])), (a_fitr, .inl (cI, m1, .inl ftr)), (a_fien, .inl (cJ, m2, .inr (.inl fen))), (a_ficu, .inl (cI, 256, .inl fcu))] t) A
def wp_FI_fewestSteps_58 (Post : Int32 → Int32 → Int32 → Int32 → Int32 → Int32 → Int32 → Nat → (Nat → Int32) → Nat → (Nat → Int64) → (Nat → Int32) → Prop) (K5 : Int32 → Int32 → Int32 → Int32 → Int32 → Int32 → Nat → (Nat → Int32) → Nat → (Nat → Int64) → (Nat → Int32) → Int32 → Int32 → Int32 → Int32 → Prop) (fr cr sc sk cc ec : Int32) (m1 : Nat) (ftr : Nat → Int32) (m2 : Nat) (fen : Nat → Int64) (fcu : Nat → Int32) (L1 L2 L3 L4 : Int32) : Prop :=
    ∀ x3 : Int32, x3 = L4 + 1 → K5 fr cr sc sk cc ec m1 ftr m2 fen fcu L1 L2 L3 x3
def wp_FI_fewestSteps_57 (Post : Int32 → Int32 → Int32 → Int32 → Int32 → Int32 → Int32 → Nat → (Nat → Int32) → Nat → (Nat → Int64) → (Nat → Int32) → Prop) (K5 : Int32 → Int32 → Int32 → Int32 → Int32 → Int32 → Nat → (Nat → Int32) → Nat → (Nat → Int64) → (Nat → Int32) → Int32 → Int32 → Int32 → Int32 → Prop) (fr cr sc sk cc ec : Int32) (m1 : Nat) (ftr : Nat → Int32) (m2 : Nat) (fen : Nat → Int64) (fcu : Nat → Int32) (L1 L2 L4 S0 : Int32) : Prop :=
    wp_FI_fewestSteps_58 Post K5 fr cr sc sk cc ec m1 ftr m2 fen fcu L1 L2 S0 L4
def wp_FI_fewestSteps_5 (Post : Int32 → Int32 → Int32 → Int32 → Int32 → Int32 → Int32 → Nat → (Nat → Int32) → Nat → (Nat → Int64) → (Nat → Int32) → Prop)  : Nat → Int32 → Int32 → Int32 → Int32 → Int32 → Int32 → Nat → (Nat → Int32) → Nat → (Nat → Int64) → (Nat → Int32) → Int32 → Int32 → Int32 → Int32 → Prop
  | 0, _, _, _, _, _, _, _, _, _, _, _, _, _, _, _ => False
  | n_5 + 1, fr, cr, sc, sk, cc, ec, m1, ftr, m2, fen, fcu, L1, L2, L3, L4 =>
    ((256 ≤ L4 → Post L3 fr cr sc sk cc ec m1 ftr m2 fen fcu) ∧
    (¬ 256 ≤ L4 → vp_in L4 256 ∧ ∀ x1 : Int32, x1 = fcu L4.toNatClampNeg → ((x1 = (-1) → wp_FI_fewestSteps_58 Post (fun (fr : Int32) (cr : Int32) (sc : Int32) (sk : Int32) (cc : Int32) (ec : Int32) (m1 : Nat) (ftr : Nat → Int32) (m2 : Nat) (fen : Nat → Int64) (fcu : Nat → Int32) (L1 : Int32) (L2 : Int32) (L3 : Int32) (L4 : Int32) => wp_FI_fewestSteps_5 Post n_5 fr cr sc sk cc ec m1 ftr m2 fen fcu L1 L2 L3 L4) fr cr sc sk cc ec m1 ftr m2 fen fcu L1 L2 L3 L4) ∧
      (¬ x1 = (-1) → wp_MA_placeShift (fun (r2 : Int32) => ((¬ ((L4 >>> (r2 &&& 31)) &&& 3) = L2 → wp_FI_fewestSteps_58 Post (fun (fr : Int32) (cr : Int32) (sc : Int32) (sk : Int32) (cc : Int32) (ec : Int32) (m1 : Nat) (ftr : Nat → Int32) (m2 : Nat) (fen : Nat → Int64) (fcu : Nat → Int32) (L1 : Int32) (L2 : Int32) (L3 : Int32) (L4 : Int32) => wp_FI_fewestSteps_5 Post n_5 fr cr sc sk cc ec m1 ftr m2 fen fcu L1 L2 L3 L4) fr cr sc sk cc ec m1 ftr m2 fen fcu L1 L2 L3 L4) ∧
        (((L4 >>> (r2 &&& 31)) &&& 3) = L2 → ((¬ L3 = (-1) → wp_FI_fewestSteps_57 Post (fun (fr : Int32) (cr : Int32) (sc : Int32) (sk : Int32) (cc : Int32) (ec : Int32) (m1 : Nat) (ftr : Nat → Int32) (m2 : Nat) (fen : Nat → Int64) (fcu : Nat → Int32) (L1 : Int32) (L2 : Int32) (L3 : Int32) (L4 : Int32) => wp_FI_fewestSteps_5 Post n_5 fr cr sc sk cc ec m1 ftr m2 fen fcu L1 L2 L3 L4) fr cr sc sk cc ec m1 ftr m2 fen fcu L1 L2 L4 (if x1 < L3 then x1 else L3)) ∧
          (L3 = (-1) → wp_FI_fewestSteps_57 Post (fun (fr : Int32) (cr : Int32) (sc : Int32) (sk : Int32) (cc : Int32) (ec : Int32) (m1 : Nat) (ftr : Nat → Int32) (m2 : Nat) (fen : Nat → Int64) (fcu : Nat → Int32) (L1 : Int32) (L2 : Int32) (L3 : Int32) (L4 : Int32) => wp_FI_fewestSteps_5 Post n_5 fr cr sc sk cc ec m1 ftr m2 fen fcu L1 L2 L3 L4) fr cr sc sk cc ec m1 ftr m2 fen fcu L1 L2 L4 x1))))) L1))))
/-- OrderMachines$Findings.fewestSteps(II)I -/
def wp_FI_fewestSteps (Post : Int32 → Int32 → Int32 → Int32 → Int32 → Int32 → Int32 → Nat → (Nat → Int32) → Nat → (Nat → Int64) → (Nat → Int32) → Prop) (fr cr sc sk cc ec : Int32) (m1 : Nat) (ftr : Nat → Int32) (m2 : Nat) (fen : Nat → Int64) (fcu : Nat → Int32) (p0 v0 : Int32) : Prop :=
  (∃ n_5 : Nat, wp_FI_fewestSteps_5 Post n_5 fr cr sc sk cc ec m1 ftr m2 fen fcu p0 v0 (-1) 0)
set_option maxHeartbeats 4000000 in
set_option maxRecDepth 100000 in
theorem l_FI_fewestSteps_58 {p : Program} {l : Launch} {e : Env} {s : State} {m : MethodId} {args : Array Value} {below : List Frame} {meth : Method} {c : Code} {dC : Nat → ClassId} {dI : Nat → Nat → Nat} {cI cJ cZ cQ : ClassId} {a_fi a_ficu : Nat} {A : Nat → Prop} {Post : Int32 → Int32 → Int32 → Int32 → Int32 → Int32 → Int32 → Nat → (Nat → Int32) → Nat → (Nat → Int64) → (Nat → Int32) → Prop} (C0 : jC p l s m args meth c b_FI_fewestSteps (some .int) 6 R_FI (dC, dI) cI cJ cZ cQ A) (K5 : Int32 → Int32 → Int32 → Int32 → Int32 → Int32 → Nat → (Nat → Int32) → Nat → (Nat → Int64) → (Nat → Int32) → Int32 → Int32 → Int32 → Int32 → Prop) (hK5 : ∀ (fr cr sc sk cc ec : Int32) (m1 : Nat) (ftr : Nat → Int32) (m2 : Nat) (fen : Nat → Int64) (fcu : Nat → Int32) (L1 L2 L3 L4 : Int32), ∀ (a_fitr a_fien : Nat), ∀ (H : Heap) (locs : List Loc) (ls : Array Slot), K5 fr cr sc sk cc ec m1 ftr m2 fen fcu L1 L2 L3 L4 → va_P (dC, dI) vwCl [(a_fi, .inr (3, [.int fr, .int cr, .int sc, .int sk, .int cc, .int ec, .ref a_fitr, .ref a_fien, .ref a_ficu])), (a_fitr, .inl (cI, m1, .inl ftr)), (a_fien, .inl (cJ, m2, .inr (.inl fen))), (a_ficu, .inl (cI, 256, .inl fcu))] H → va_D A [(a_fi, .inr (3, [.int fr, .int cr, .int sc, .int sk, .int cc, .int ec, .ref a_fitr, .ref a_fien, .ref a_ficu])), (a_fitr, .inl (cI, m1, .inl ftr)), (a_fien, .inl (cJ, m2, .inr (.inl fen))), (a_ficu, .inl (cI, 256, .inl fcu))] → va_S A s.heap H locs → lv_has ls 6 [(0, .ref a_fi), (1, .int L1), (2, .int L2), (3, .int L3), (4, .int L4)] → W p l e ({ frames := 11, cells := 0, slots := 0, locals := 170 } : Room) s m args below meth c H locs 0 0 (MQ below (jQ_FI_fewestSteps dC dI cI cJ cZ cQ A a_fi a_ficu Post) args s 0 0 A) (F0 m 5 ls [])) : ∀ (fr cr sc sk cc ec : Int32) (m1 : Nat) (ftr : Nat → Int32) (m2 : Nat) (fen : Nat → Int64) (fcu : Nat → Int32) (L1 L2 L3 L4 : Int32), ∀ (a_fitr a_fien : Nat), ∀ (H : Heap) (locs : List Loc) (ls : Array Slot), wp_FI_fewestSteps_58 Post K5 fr cr sc sk cc ec m1 ftr m2 fen fcu L1 L2 L3 L4 → va_P (dC, dI) vwCl [(a_fi, .inr (3, [.int fr, .int cr, .int sc, .int sk, .int cc, .int ec, .ref a_fitr, .ref a_fien, .ref a_ficu])), (a_fitr, .inl (cI, m1, .inl ftr)), (a_fien, .inl (cJ, m2, .inr (.inl fen))), (a_ficu, .inl (cI, 256, .inl fcu))] H → va_D A [(a_fi, .inr (3, [.int fr, .int cr, .int sc, .int sk, .int cc, .int ec, .ref a_fitr, .ref a_fien, .ref a_ficu])), (a_fitr, .inl (cI, m1, .inl ftr)), (a_fien, .inl (cJ, m2, .inr (.inl fen))), (a_ficu, .inl (cI, 256, .inl fcu))] → va_S A s.heap H locs → lv_has ls 6 [(0, .ref a_fi), (1, .int L1), (2, .int L2), (3, .int L3), (4, .int L4)] → W p l e ({ frames := 11, cells := 0, slots := 0, locals := 170 } : Room) s m args below meth c H locs 0 0 (MQ below (jQ_FI_fewestSteps dC dI cI cJ cZ cQ A a_fi a_ficu Post) args s 0 0 A) (F0 m 58 ls []) := by
  obtain ⟨hx, hb, hr, hml, hown, hts, hlocks, hK, hZ, hA, hst⟩ := id C0
  intro fr cr sc sk cc ec m1 ftr m2 fen fcu L1 L2 L3 L4 a_fitr a_fien H locs ls h hP hD hS hl
  rw [wp_FI_fewestSteps_58] at h
  obtain ⟨x3, ex3⟩ : ∃ y : Int32, y = L4 + 1 := ⟨_, rfl⟩
  have h := h x3 ex3
  refine lv_iinc (v := x3) (lv' := [(4, .int x3), (0, .ref a_fi), (1, .int L1), (2, .int L2), (3, .int L3)]) hx hb d_FI_fewestSteps_58 hl (k := 4) rfl (by rw [ex3]; rfl) (by decide) rfl (fun ls hl => ?_)
  refine lv_goto (tgt := 5) hx hb d_FI_fewestSteps_61 (by decide) ?_
  exact hK5 fr cr sc sk cc ec m1 ftr m2 fen fcu L1 L2 L3 x3 a_fitr a_fien H locs ls h hP hD hS (lv_sub hl [1, 2, 3, 4, 0] rfl)
set_option maxHeartbeats 4000000 in
set_option maxRecDepth 100000 in
theorem l_FI_fewestSteps_57 {p : Program} {l : Launch} {e : Env} {s : State} {m : MethodId} {args : Array Value} {below : List Frame} {meth : Method} {c : Code} {dC : Nat → ClassId} {dI : Nat → Nat → Nat} {cI cJ cZ cQ : ClassId} {a_fi a_ficu : Nat} {A : Nat → Prop} {Post : Int32 → Int32 → Int32 → Int32 → Int32 → Int32 → Int32 → Nat → (Nat → Int32) → Nat → (Nat → Int64) → (Nat → Int32) → Prop} (C0 : jC p l s m args meth c b_FI_fewestSteps (some .int) 6 R_FI (dC, dI) cI cJ cZ cQ A) (K5 : Int32 → Int32 → Int32 → Int32 → Int32 → Int32 → Nat → (Nat → Int32) → Nat → (Nat → Int64) → (Nat → Int32) → Int32 → Int32 → Int32 → Int32 → Prop) (hK5 : ∀ (fr cr sc sk cc ec : Int32) (m1 : Nat) (ftr : Nat → Int32) (m2 : Nat) (fen : Nat → Int64) (fcu : Nat → Int32) (L1 L2 L3 L4 : Int32), ∀ (a_fitr a_fien : Nat), ∀ (H : Heap) (locs : List Loc) (ls : Array Slot), K5 fr cr sc sk cc ec m1 ftr m2 fen fcu L1 L2 L3 L4 → va_P (dC, dI) vwCl [(a_fi, .inr (3, [.int fr, .int cr, .int sc, .int sk, .int cc, .int ec, .ref a_fitr, .ref a_fien, .ref a_ficu])), (a_fitr, .inl (cI, m1, .inl ftr)), (a_fien, .inl (cJ, m2, .inr (.inl fen))), (a_ficu, .inl (cI, 256, .inl fcu))] H → va_D A [(a_fi, .inr (3, [.int fr, .int cr, .int sc, .int sk, .int cc, .int ec, .ref a_fitr, .ref a_fien, .ref a_ficu])), (a_fitr, .inl (cI, m1, .inl ftr)), (a_fien, .inl (cJ, m2, .inr (.inl fen))), (a_ficu, .inl (cI, 256, .inl fcu))] → va_S A s.heap H locs → lv_has ls 6 [(0, .ref a_fi), (1, .int L1), (2, .int L2), (3, .int L3), (4, .int L4)] → W p l e ({ frames := 11, cells := 0, slots := 0, locals := 170 } : Room) s m args below meth c H locs 0 0 (MQ below (jQ_FI_fewestSteps dC dI cI cJ cZ cQ A a_fi a_ficu Post) args s 0 0 A) (F0 m 5 ls [])) : ∀ (fr cr sc sk cc ec : Int32) (m1 : Nat) (ftr : Nat → Int32) (m2 : Nat) (fen : Nat → Int64) (fcu : Nat → Int32) (L1 L2 L4 S0 : Int32), ∀ (a_fitr a_fien : Nat), ∀ (H : Heap) (locs : List Loc) (ls : Array Slot), wp_FI_fewestSteps_57 Post K5 fr cr sc sk cc ec m1 ftr m2 fen fcu L1 L2 L4 S0 → va_P (dC, dI) vwCl [(a_fi, .inr (3, [.int fr, .int cr, .int sc, .int sk, .int cc, .int ec, .ref a_fitr, .ref a_fien, .ref a_ficu])), (a_fitr, .inl (cI, m1, .inl ftr)), (a_fien, .inl (cJ, m2, .inr (.inl fen))), (a_ficu, .inl (cI, 256, .inl fcu))] H → va_D A [(a_fi, .inr (3, [.int fr, .int cr, .int sc, .int sk, .int cc, .int ec, .ref a_fitr, .ref a_fien, .ref a_ficu])), (a_fitr, .inl (cI, m1, .inl ftr)), (a_fien, .inl (cJ, m2, .inr (.inl fen))), (a_ficu, .inl (cI, 256, .inl fcu))] → va_S A s.heap H locs → lv_has ls 6 [(0, .ref a_fi), (1, .int L1), (2, .int L2), (4, .int L4)] → W p l e ({ frames := 11, cells := 0, slots := 0, locals := 170 } : Room) s m args below meth c H locs 0 0 (MQ below (jQ_FI_fewestSteps dC dI cI cJ cZ cQ A a_fi a_ficu Post) args s 0 0 A) (F0 m 57 ls [.int S0]) := by
  obtain ⟨hx, hb, hr, hml, hown, hts, hlocks, hK, hZ, hA, hst⟩ := id C0
  intro fr cr sc sk cc ec m1 ftr m2 fen fcu L1 L2 L4 S0 a_fitr a_fien H locs ls h hP hD hS hl
  rw [wp_FI_fewestSteps_57] at h
  refine lv_istore_n (lv' := [(3, .int S0), (0, .ref a_fi), (1, .int L1), (2, .int L2), (4, .int L4)]) hx hb d_FI_fewestSteps_57 rfl hl (by decide) rfl (fun ls hl => ?_)
  exact l_FI_fewestSteps_58 C0 K5 hK5 fr cr sc sk cc ec m1 ftr m2 fen fcu L1 L2 S0 L4 a_fitr a_fien H locs ls h hP hD hS (lv_sub hl [1, 2, 3, 0, 4] rfl)
set_option maxHeartbeats 4000000 in
set_option maxRecDepth 100000 in
theorem l_FI_fewestSteps_5 {p : Program} {l : Launch} {e : Env} {s : State} {m : MethodId} {args : Array Value} {below : List Frame} {meth : Method} {c : Code} {dC : Nat → ClassId} {dI : Nat → Nat → Nat} {cI cJ cZ cQ : ClassId} {a_fi a_ficu : Nat} {A : Nat → Prop} {Post : Int32 → Int32 → Int32 → Int32 → Int32 → Int32 → Int32 → Nat → (Nat → Int32) → Nat → (Nat → Int64) → (Nat → Int32) → Prop} (C0 : jC p l s m args meth c b_FI_fewestSteps (some .int) 6 R_FI (dC, dI) cI cJ cZ cQ A)  : ∀ n9 : Nat, ∀ (fr cr sc sk cc ec : Int32) (m1 : Nat) (ftr : Nat → Int32) (m2 : Nat) (fen : Nat → Int64) (fcu : Nat → Int32) (L1 L2 L3 L4 : Int32), ∀ (a_fitr a_fien : Nat), ∀ (H : Heap) (locs : List Loc) (ls : Array Slot), wp_FI_fewestSteps_5 Post  n9 fr cr sc sk cc ec m1 ftr m2 fen fcu L1 L2 L3 L4 → va_P (dC, dI) vwCl [(a_fi, .inr (3, [.int fr, .int cr, .int sc, .int sk, .int cc, .int ec, .ref a_fitr, .ref a_fien, .ref a_ficu])), (a_fitr, .inl (cI, m1, .inl ftr)), (a_fien, .inl (cJ, m2, .inr (.inl fen))), (a_ficu, .inl (cI, 256, .inl fcu))] H → va_D A [(a_fi, .inr (3, [.int fr, .int cr, .int sc, .int sk, .int cc, .int ec, .ref a_fitr, .ref a_fien, .ref a_ficu])), (a_fitr, .inl (cI, m1, .inl ftr)), (a_fien, .inl (cJ, m2, .inr (.inl fen))), (a_ficu, .inl (cI, 256, .inl fcu))] → va_S A s.heap H locs → lv_has ls 6 [(0, .ref a_fi), (1, .int L1), (2, .int L2), (3, .int L3), (4, .int L4)] → W p l e ({ frames := 11, cells := 0, slots := 0, locals := 170 } : Room) s m args below meth c H locs 0 0 (MQ below (jQ_FI_fewestSteps dC dI cI cJ cZ cQ A a_fi a_ficu Post) args s 0 0 A) (F0 m 5 ls []) := by
  obtain ⟨hx, hb, hr, hml, hown, hts, hlocks, hK, hZ, hA, hst⟩ := id C0
  intro n9
  induction n9 with
  | zero =>
    intro fr cr sc sk cc ec m1 ftr m2 fen fcu L1 L2 L3 L4 a_fitr a_fien H locs ls h hP hD hS hl
    exact False.elim h
  | succ n_5 ih =>
    intro fr cr sc sk cc ec m1 ftr m2 fen fcu L1 L2 L3 L4 a_fitr a_fien H locs ls h hP hD hS hl
    rw [wp_FI_fewestSteps_5] at h
    refine lv_iload hx hb d_FI_fewestSteps_5 (lv_at hl 4 rfl) ?_
    refine lv_sipush (v := 256) hx hb d_FI_fewestSteps_7 (by decide) ?_
    refine lv_icmp_ge (tgt := 64) hx hb d_FI_fewestSteps_10 (by decide) (fun c10 => ?_) (fun c10 => ?_)
    · have h := h.1 c10
      refine lv_iload_n hx hb d_FI_fewestSteps_64 rfl (lv_at hl 3 rfl) ?_
      have hP9 := hP
      have hD9 := hD
      exact W.iret (v := L3) hx hb hr (fun t ht hW => ⟨⟨L3, (fr, cr, sc, sk, cc, ec, m1, ftr, m2, fen, fcu), rfl, h, a_fitr, a_fien, by rw [ht]; exact hP9, va_K.moved hW.alike hK, hD9⟩, hS.F ht⟩) hS.2.2 d_FI_fewestSteps_65
    · have h := h.2 c10
      refine lv_aload_n hx hb d_FI_fewestSteps_13 rfl (lv_at hl 0 rfl) ?_
      refine va_get (D := (dC, dI)) (ci := 3) (v := .ref a_ficu) (C := R_FI) (T := T_FI) (N := 9) hx hb hts in_FI hown hK hP 0 rfl rfl 8 (by decide) (hts _ mw_141) (fun _ h9 => h9) rfl d_FI_fewestSteps_14 ?_
      refine lv_iload hx hb d_FI_fewestSteps_17 (lv_at hl 4 rfl) ?_
      refine va_iald hx hb hK hP 3 0 rfl rfl h.1 d_FI_fewestSteps_19 ?_
      have h := h.2
      refine lv_topi (fun x1 ex1 => ?_)
      have h := h x1 ex1
      refine lv_istore (lv' := [(5, .int x1), (0, .ref a_fi), (1, .int L1), (2, .int L2), (3, .int L3), (4, .int L4)]) hx hb d_FI_fewestSteps_20 hl (by decide) rfl (fun ls hl => ?_)
      refine lv_iload hx hb d_FI_fewestSteps_22 (lv_at hl 0 rfl) ?_
      refine lv_iconst (v := (-1)) hx hb d_FI_fewestSteps_24 (by decide) ?_
      refine lv_icmp_eq (tgt := 58) hx hb d_FI_fewestSteps_25 (by decide) (fun c25 => ?_) (fun c25 => ?_)
      · have h := h.1 c25
        exact l_FI_fewestSteps_58 C0 (fun (fr : Int32) (cr : Int32) (sc : Int32) (sk : Int32) (cc : Int32) (ec : Int32) (m1 : Nat) (ftr : Nat → Int32) (m2 : Nat) (fen : Nat → Int64) (fcu : Nat → Int32) (L1 : Int32) (L2 : Int32) (L3 : Int32) (L4 : Int32) => wp_FI_fewestSteps_5 Post n_5 fr cr sc sk cc ec m1 ftr m2 fen fcu L1 L2 L3 L4) ih fr cr sc sk cc ec m1 ftr m2 fen fcu L1 L2 L3 L4 a_fitr a_fien H locs ls h hP hD hS (lv_sub hl [1, 2, 3, 4, 5] rfl)
      · have h := h.2 c25
        refine lv_iload hx hb d_FI_fewestSteps_28 (lv_at hl 5 rfl) ?_
        refine lv_iload_n hx hb d_FI_fewestSteps_30 rfl (lv_at hl 2 rfl) ?_
        have hPc := hP.sub (ws' := []) [] rfl
        have hDc := hD.sub (ws' := []) [] (by decide) rfl
        have hFc := va_free (wc := []) hD hS hA [] rfl
        refine va_calli (va_runS (As := [.int L1]) (rest := [.int L4]) ⟨hx, hb, hml, hown, hts⟩ (c_MA_placeShift l dC dI cI cJ cZ cQ  H.size L1 _  h) (va_cwS 1 hts (goodIn_app (jGl (List.forall_mem_cons.mpr ⟨mw_848, List.forall_mem_cons.mpr ⟨mw_696, List.forall_mem_cons.mpr ⟨mw_5, fun _ h => absurd h List.not_mem_nil⟩⟩⟩)) (jG mw_697)) rfl rfl rfl (by decide +kernel) ⟨Nat.le_of_ble_eq_true rfl, Nat.le_of_ble_eq_true rfl⟩) ⟨jPre_blind, jPre_in hPc hK hDc hZ hS hFc hst⟩ rfl rfl hl.1 rfl (lv_room (Nat.le_of_ble_eq_true rfl)) d_FI_fewestSteps_31 ⟨(Nat.zero_le _), (Nat.zero_le _)⟩) hS (fun q _ h => hFc q h) hFc (fun r2 u t H1 locs ht hvm hw hB hz1 hk1 hS => ?_)
        obtain ⟨hP1, hK1, hD1⟩ := hB
        rw [ht] at hP1
        have h := hw
        obtain ⟨hP, hD⟩ := va_join (wr := [(a_fi, .inr (3, [.int fr, .int cr, .int sc, .int sk, .int cc, .int ec, .ref a_fitr, .ref a_fien, .ref a_ficu])), (a_fitr, .inl (cI, m1, .inl ftr)), (a_fien, .inl (cJ, m2, .inr (.inl fen))), (a_ficu, .inl (cI, 256, .inl fcu))]) (w1 := []) hP hD [] [0, 1, 2, 3] rfl rfl (by decide) (by decide) hk1 hFc hP1 hD1
        generalize H1 = H at hP hS ⊢
        have hP : va_P (dC, dI) vwCl [(a_fi, .inr (3, [.int fr, .int cr, .int sc, .int sk, .int cc, .int ec, .ref a_fitr, .ref a_fien, .ref a_ficu])), (a_fitr, .inl (cI, m1, .inl ftr)), (a_fien, .inl (cJ, m2, .inr (.inl fen))), (a_ficu, .inl (cI, 256, .inl fcu))] H := hP
        have hD : va_D A [(a_fi, .inr (3, [.int fr, .int cr, .int sc, .int sk, .int cc, .int ec, .ref a_fitr, .ref a_fien, .ref a_ficu])), (a_fitr, .inl (cI, m1, .inl ftr)), (a_fien, .inl (cJ, m2, .inr (.inl fen))), (a_ficu, .inl (cI, 256, .inl fcu))] := hD
        refine lv_ishr hx hb d_FI_fewestSteps_34 ?_
        refine lv_iconst (v := 3) hx hb d_FI_fewestSteps_35 (by decide) ?_
        refine lv_iand hx hb d_FI_fewestSteps_36 ?_
        refine lv_iload_n hx hb d_FI_fewestSteps_37 rfl (lv_at hl 3 rfl) ?_
        refine lv_icmp_ne (tgt := 58) hx hb d_FI_fewestSteps_38 (by decide) (fun c38 => ?_) (fun c38 => ?_)
        · have h := h.1 c38
          exact l_FI_fewestSteps_58 C0 (fun (fr : Int32) (cr : Int32) (sc : Int32) (sk : Int32) (cc : Int32) (ec : Int32) (m1 : Nat) (ftr : Nat → Int32) (m2 : Nat) (fen : Nat → Int64) (fcu : Nat → Int32) (L1 : Int32) (L2 : Int32) (L3 : Int32) (L4 : Int32) => wp_FI_fewestSteps_5 Post n_5 fr cr sc sk cc ec m1 ftr m2 fen fcu L1 L2 L3 L4) ih fr cr sc sk cc ec m1 ftr m2 fen fcu L1 L2 L3 L4 a_fitr a_fien H locs ls h hP hD hS (lv_sub hl [1, 2, 3, 4, 5] rfl)
        · have h := h.2 c38
          refine lv_iload_n hx hb d_FI_fewestSteps_41 rfl (lv_at hl 4 rfl) ?_
          refine lv_iconst (v := (-1)) hx hb d_FI_fewestSteps_42 (by decide) ?_
          refine lv_icmp_ne (tgt := 51) hx hb d_FI_fewestSteps_43 (by decide) (fun c43 => ?_) (fun c43 => ?_)
          · have h := h.1 c43
            refine lv_iload_n hx hb d_FI_fewestSteps_51 rfl (lv_at hl 4 rfl) ?_
            refine lv_iload hx hb d_FI_fewestSteps_52 (lv_at hl 0 rfl) ?_
            refine va_mmin hx hb (hml.trans hl.1.symm) hown (hts _ mw_643) (hts _ mw_421) (hts _ mw_19) (hts _ mw_422) (Nat.le_of_ble_eq_true rfl) (Nat.le_of_ble_eq_true rfl) (Nat.zero_le _) (Nat.zero_le _) d_FI_fewestSteps_54 ?_
            exact l_FI_fewestSteps_57 C0 (fun (fr : Int32) (cr : Int32) (sc : Int32) (sk : Int32) (cc : Int32) (ec : Int32) (m1 : Nat) (ftr : Nat → Int32) (m2 : Nat) (fen : Nat → Int64) (fcu : Nat → Int32) (L1 : Int32) (L2 : Int32) (L3 : Int32) (L4 : Int32) => wp_FI_fewestSteps_5 Post n_5 fr cr sc sk cc ec m1 ftr m2 fen fcu L1 L2 L3 L4) ih fr cr sc sk cc ec m1 ftr m2 fen fcu L1 L2 L4 (if x1 < L3 then x1 else L3) a_fitr a_fien H locs ls h hP hD hS (lv_sub hl [1, 2, 3, 5] rfl)
          · have h := h.2 c43
            refine lv_iload hx hb d_FI_fewestSteps_46 (lv_at hl 0 rfl) ?_
            refine lv_goto (tgt := 57) hx hb d_FI_fewestSteps_48 (by decide) ?_
            exact l_FI_fewestSteps_57 C0 (fun (fr : Int32) (cr : Int32) (sc : Int32) (sk : Int32) (cc : Int32) (ec : Int32) (m1 : Nat) (ftr : Nat → Int32) (m2 : Nat) (fen : Nat → Int64) (fcu : Nat → Int32) (L1 : Int32) (L2 : Int32) (L3 : Int32) (L4 : Int32) => wp_FI_fewestSteps_5 Post n_5 fr cr sc sk cc ec m1 ftr m2 fen fcu L1 L2 L3 L4) ih fr cr sc sk cc ec m1 ftr m2 fen fcu L1 L2 L4 x1 a_fitr a_fien H locs ls h hP hD hS (lv_sub hl [1, 2, 3, 5] rfl)
set_option maxHeartbeats 4000000 in
set_option maxRecDepth 100000 in
theorem c_FI_fewestSteps (l : Launch) (dC : Nat → ClassId) (dI : Nat → Nat → Nat) (cI cJ cZ cQ : ClassId) (a_fi a_ficu : Nat) (a_fitr a_fien : Nat) (sz : Nat) (fr cr sc sk cc ec : Int32) (m1 : Nat) (ftr : Nat → Int32) (m2 : Nat) (fen : Nat → Int64) (fcu : Nat → Int32) (p0 v0 : Int32) (Post : Int32 → Int32 → Int32 → Int32 → Int32 → Int32 → Int32 → Nat → (Nat → Int32) → Nat → (Nat → Int64) → (Nat → Int32) → Prop) (h : wp_FI_fewestSteps Post fr cr sc sk cc ec m1 ftr m2 fen fcu p0 v0) : Met l y_FI_fewestSteps (.code y_FI_fewestSteps b_FI_fewestSteps 6 (some .int) :: jW) ({ frames := 11, cells := 0, slots := 0, locals := 170 } : Room) (jPre l (dC, dI) cI cJ cZ cQ [(a_fi, .inr (3, [.int fr, .int cr, .int sc, .int sk, .int cc, .int ec, .ref a_fitr, .ref a_fien, .ref a_ficu])), (a_fitr, .inl (cI, m1, .inl ftr)), (a_fien, .inl (cJ, m2, .inr (.inl fen))), (a_ficu, .inl (cI, 256, .inl fcu))] sz [.ref a_fi, .int p0, .int v0]) (jQ_FI_fewestSteps dC dI cI cJ cZ cQ (va_A [(a_fi, .inr (3, [.int fr, .int cr, .int sc, .int sk, .int cc, .int ec, .ref a_fitr, .ref a_fien, .ref a_ficu])), (a_fitr, .inl (cI, m1, .inl ftr)), (a_fien, .inl (cJ, m2, .inr (.inl fen))), (a_ficu, .inl (cI, 256, .inl fcu))] sz) a_fi a_ficu Post) 0 0 (va_A [(a_fi, .inr (3, [.int fr, .int cr, .int sc, .int sk, .int cc, .int ec, .ref a_fitr, .ref a_fien, .ref a_ficu])), (a_fitr, .inl (cI, m1, .inl ftr)), (a_fien, .inl (cJ, m2, .inr (.inl fen))), (a_ficu, .inl (cI, 256, .inl fcu))] sz) := by
  refine Met.ofW (cc := b_FI_fewestSteps) (maxL := 6) (ret := (some .int)) (by decide) rfl ?_
  intro p e s m args below meth c s₁ B hml hv
  obtain ⟨rfl, hsz, hP, hK, hD0, hZ, hst⟩ := hv
  subst hsz
  have hD := hD0.self (sz := s.heap.size)
  generalize hAe : va_A [(a_fi, .inr (3, [.int fr, .int cr, .int sc, .int sk, .int cc, .int ec, .ref a_fitr, .ref a_fien, .ref a_ficu])), (a_fitr, .inl (cI, m1, .inl ftr)), (a_fien, .inl (cJ, m2, .inr (.inl fen))), (a_ficu, .inl (cI, 256, .inl fcu))] s.heap.size = A at hD hZ ⊢
  have hA : ∀ q : Nat, s.heap.size ≤ q → A q := fun q h => by rw [← hAe]; exact Or.inr h
  have C0 : jC p l s m ([.ref a_fi, .int p0, .int v0] : List Value).toArray meth c b_FI_fewestSteps (some .int) 6 R_FI (dC, dI) cI cJ cZ cQ A := ⟨B.exec, B.bytes, B.returns, hml, findClass_of_methodNamed B.named, fun w hw => atoms_spec (ws := (.code y_FI_fewestSteps b_FI_fewestSteps 6 (some .int) :: jW)) B.pre w (List.mem_cons_of_mem _ hw), B.notSynchronized, hK, hZ, hA, hst⟩
  obtain ⟨hx, hb, hr, hml, hown, hts, hlocks, hK, hZ, hA, hst⟩ := id C0
  have hS : va_S A s.heap s.heap [] := va_S.rf
  have hl := lv_entry ([.ref a_fi, .int p0, .int v0]) (n := 6) (Nat.le_of_ble_eq_true rfl)
  rw [lg_entry_eq]
  generalize (lg_sl ([.ref a_fi, .int p0, .int v0]) ++ List.replicate (6 - (lg_sl ([.ref a_fi, .int p0, .int v0])).length) Slot.unset).toArray = ls at hl ⊢
  have hl : lv_has ls 6 [(0, .ref a_fi), (1, .int p0), (2, .int v0)] := hl
  obtain ⟨H, hH⟩ : ∃ H : Heap, H = s.heap := ⟨_, rfl⟩
  obtain ⟨locs, hlc⟩ : ∃ L : List Loc, L = [] := ⟨_, rfl⟩
  have hP : va_P (dC, dI) vwCl [(a_fi, .inr (3, [.int fr, .int cr, .int sc, .int sk, .int cc, .int ec, .ref a_fitr, .ref a_fien, .ref a_ficu])), (a_fitr, .inl (cI, m1, .inl ftr)), (a_fien, .inl (cJ, m2, .inr (.inl fen))), (a_ficu, .inl (cI, 256, .inl fcu))] H := by rw [hH]; exact hP
  have hS : va_S A s.heap H locs := by rw [hH, hlc]; exact hS
  suffices hW9 : W p l e ({ frames := 11, cells := 0, slots := 0, locals := 170 } : Room) s m ([.ref a_fi, .int p0, .int v0] : List Value).toArray below meth c H locs 0 0 (MQ below (jQ_FI_fewestSteps dC dI cI cJ cZ cQ A a_fi a_ficu Post) ([.ref a_fi, .int p0, .int v0] : List Value).toArray s 0 0 A) (F0 m 0 ls []) by rw [hH, hlc] at hW9; exact hW9
  clear hH hlc
  rw [wp_FI_fewestSteps] at h
  refine lv_iconst (v := (-1)) hx hb d_FI_fewestSteps_0 (by decide) ?_
  refine lv_istore_n (lv' := [(3, .int (-1)), (0, .ref a_fi), (1, .int p0), (2, .int v0)]) hx hb d_FI_fewestSteps_1 rfl hl (by decide) rfl (fun ls hl => ?_)
  refine lv_iconst (v := 0) hx hb d_FI_fewestSteps_2 (by decide) ?_
  refine lv_istore (lv' := [(4, .int 0), (3, .int (-1)), (0, .ref a_fi), (1, .int p0), (2, .int v0)]) hx hb d_FI_fewestSteps_3 hl (by decide) rfl (fun ls hl => ?_)
  obtain ⟨n_5, h⟩ := h
  exact l_FI_fewestSteps_5 C0  n_5 fr cr sc sk cc ec m1 ftr m2 fen fcu p0 v0 (-1) 0 a_fitr a_fien H locs ls h hP hD hS (lv_sub hl [2, 3, 4, 1, 0] rfl)
