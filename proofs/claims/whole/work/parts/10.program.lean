/-- what OrderMachines.isDigit(I)Z leaves -/
abbrev jQ_OM_isDigit (dC : Nat → ClassId) (dI : Nat → Nat → Nat) (cI cJ cZ cQ : ClassId) (A : Nat → Prop) (Post : Int32 → Prop) : Array Value → State → Outcome → State → Prop := va_Qi (fun (r : Int32) (u : Unit) => Post r) (fun (u : Unit) (t : State) => match u with
  | _ => jPost (dC, dI) (jT cI cJ cZ cQ) A [] t) A
/-- OrderMachines.isDigit(I)Z -/
def wp_OM_isDigit (Post : Int32 → Prop) (n0 : Int32) : Prop :=
  ((n0 < 0 → Post 0) ∧
  (¬ n0 < 0 → ((4 ≤ n0 → Post 0) ∧
    (¬ 4 ≤ n0 → Post 1))))
set_option maxHeartbeats 4000000 in
set_option maxRecDepth 100000 in
theorem c_OM_isDigit (l : Launch) (dC : Nat → ClassId) (dI : Nat → Nat → Nat) (cI cJ cZ cQ : ClassId)  (sz : Nat) (n0 : Int32) (Post : Int32 → Prop) (h : wp_OM_isDigit Post n0) : Met l y_OM_isDigit (.code y_OM_isDigit b_OM_isDigit 1 (some .boolean) :: jW) ({ frames := 10, cells := 0, slots := 0, locals := 150 } : Room) (jPre l (dC, dI) cI cJ cZ cQ [] sz [.int n0]) (jQ_OM_isDigit dC dI cI cJ cZ cQ (va_A [] sz)  Post) 0 0 (va_A [] sz) := by
  refine Met.ofW (cc := b_OM_isDigit) (maxL := 1) (ret := (some .boolean)) (by decide) rfl ?_
  intro p e s m args below meth c s₁ B hml hv
  obtain ⟨rfl, hsz, hP, hK, hD0, hZ, hst⟩ := hv
  subst hsz
  have hD := hD0.self (sz := s.heap.size)
  generalize hAe : va_A [] s.heap.size = A at hD hZ ⊢
  have hA : ∀ q : Nat, s.heap.size ≤ q → A q := fun q h => by rw [← hAe]; exact Or.inr h
  have C0 : jC p l s m ([.int n0] : List Value).toArray meth c b_OM_isDigit (some .boolean) 1 R_OM (dC, dI) cI cJ cZ cQ A := ⟨B.exec, B.bytes, B.returns, hml, findClass_of_methodNamed B.named, fun w hw => atoms_spec (ws := (.code y_OM_isDigit b_OM_isDigit 1 (some .boolean) :: jW)) B.pre w (List.mem_cons_of_mem _ hw), B.notSynchronized, hK, hZ, hA, hst⟩
  obtain ⟨hx, hb, hr, hml, hown, hts, hlocks, hK, hZ, hA, hst⟩ := id C0
  have hS : va_S A s.heap s.heap [] := va_S.rf
  have hl := lv_entry ([.int n0]) (n := 1) (Nat.le_of_ble_eq_true rfl)
  rw [lg_entry_eq]
  generalize (lg_sl ([.int n0]) ++ List.replicate (1 - (lg_sl ([.int n0])).length) Slot.unset).toArray = ls at hl ⊢
  have hl : lv_has ls 1 [(0, .int n0)] := hl
  obtain ⟨H, hH⟩ : ∃ H : Heap, H = s.heap := ⟨_, rfl⟩
  obtain ⟨locs, hlc⟩ : ∃ L : List Loc, L = [] := ⟨_, rfl⟩
  have hP : va_P (dC, dI) vwCl [] H := by rw [hH]; exact hP
  have hS : va_S A s.heap H locs := by rw [hH, hlc]; exact hS
  suffices hW9 : W p l e ({ frames := 10, cells := 0, slots := 0, locals := 150 } : Room) s m ([.int n0] : List Value).toArray below meth c H locs 0 0 (MQ below (jQ_OM_isDigit dC dI cI cJ cZ cQ A  Post) ([.int n0] : List Value).toArray s 0 0 A) (F0 m 0 ls []) by rw [hH, hlc] at hW9; exact hW9
  clear hH hlc
  rw [wp_OM_isDigit] at h
  refine lv_iload_n hx hb d_OM_isDigit_0 rfl (lv_at hl 0 rfl) ?_
  refine lv_if_lt (tgt := 13) hx hb d_OM_isDigit_1 (by decide) (fun c1 => ?_) (fun c1 => ?_)
  · have h := h.1 c1
    refine lv_iconst (v := 0) hx hb d_OM_isDigit_13 (by decide) ?_
    have hP9 := hP
    have hD9 := hD
    exact W.zret (v := 0) hx hb hr rfl (fun t ht hW => ⟨⟨0, (), rfl, h, by rw [ht]; exact hP9, va_K.moved hW.alike hK, hD9⟩, hS.F ht⟩) hS.2.2 d_OM_isDigit_14
  · have h := h.2 c1
    refine lv_iload_n hx hb d_OM_isDigit_4 rfl (lv_at hl 0 rfl) ?_
    refine lv_iconst (v := 4) hx hb d_OM_isDigit_5 (by decide) ?_
    refine lv_icmp_ge (tgt := 13) hx hb d_OM_isDigit_6 (by decide) (fun c6 => ?_) (fun c6 => ?_)
    · have h := h.1 c6
      refine lv_iconst (v := 0) hx hb d_OM_isDigit_13 (by decide) ?_
      have hP9 := hP
      have hD9 := hD
      exact W.zret (v := 0) hx hb hr rfl (fun t ht hW => ⟨⟨0, (), rfl, h, by rw [ht]; exact hP9, va_K.moved hW.alike hK, hD9⟩, hS.F ht⟩) hS.2.2 d_OM_isDigit_14
    · have h := h.2 c6
      refine lv_iconst (v := 1) hx hb d_OM_isDigit_9 (by decide) ?_
      refine lv_goto (tgt := 14) hx hb d_OM_isDigit_10 (by decide) ?_
      have hP9 := hP
      have hD9 := hD
      exact W.zret (v := 1) hx hb hr rfl (fun t ht hW => ⟨⟨1, (), rfl, h, by rw [ht]; exact hP9, va_K.moved hW.alike hK, hD9⟩, hS.F ht⟩) hS.2.2 d_OM_isDigit_14

/-- what OrderMachines.isKind(I)Z leaves -/
abbrev jQ_OM_isKind (dC : Nat → ClassId) (dI : Nat → Nat → Nat) (cI cJ cZ cQ : ClassId) (A : Nat → Prop) (Post : Int32 → Prop) : Array Value → State → Outcome → State → Prop := va_Qi (fun (r : Int32) (u : Unit) => Post r) (fun (u : Unit) (t : State) => match u with
  | _ => jPost (dC, dI) (jT cI cJ cZ cQ) A [] t) A
/-- OrderMachines.isKind(I)Z -/
def wp_OM_isKind (Post : Int32 → Prop) (k0 : Int32) : Prop :=
  ((k0 < 0 → Post 0) ∧
  (¬ k0 < 0 → ((4 ≤ k0 → Post 0) ∧
    (¬ 4 ≤ k0 → Post 1))))
set_option maxHeartbeats 4000000 in
set_option maxRecDepth 100000 in
theorem c_OM_isKind (l : Launch) (dC : Nat → ClassId) (dI : Nat → Nat → Nat) (cI cJ cZ cQ : ClassId)  (sz : Nat) (k0 : Int32) (Post : Int32 → Prop) (h : wp_OM_isKind Post k0) : Met l y_OM_isKind (.code y_OM_isKind b_OM_isKind 1 (some .boolean) :: jW) ({ frames := 10, cells := 0, slots := 0, locals := 150 } : Room) (jPre l (dC, dI) cI cJ cZ cQ [] sz [.int k0]) (jQ_OM_isKind dC dI cI cJ cZ cQ (va_A [] sz)  Post) 0 0 (va_A [] sz) := by
  refine Met.ofW (cc := b_OM_isKind) (maxL := 1) (ret := (some .boolean)) (by decide) rfl ?_
  intro p e s m args below meth c s₁ B hml hv
  obtain ⟨rfl, hsz, hP, hK, hD0, hZ, hst⟩ := hv
  subst hsz
  have hD := hD0.self (sz := s.heap.size)
  generalize hAe : va_A [] s.heap.size = A at hD hZ ⊢
  have hA : ∀ q : Nat, s.heap.size ≤ q → A q := fun q h => by rw [← hAe]; exact Or.inr h
  have C0 : jC p l s m ([.int k0] : List Value).toArray meth c b_OM_isKind (some .boolean) 1 R_OM (dC, dI) cI cJ cZ cQ A := ⟨B.exec, B.bytes, B.returns, hml, findClass_of_methodNamed B.named, fun w hw => atoms_spec (ws := (.code y_OM_isKind b_OM_isKind 1 (some .boolean) :: jW)) B.pre w (List.mem_cons_of_mem _ hw), B.notSynchronized, hK, hZ, hA, hst⟩
  obtain ⟨hx, hb, hr, hml, hown, hts, hlocks, hK, hZ, hA, hst⟩ := id C0
  have hS : va_S A s.heap s.heap [] := va_S.rf
  have hl := lv_entry ([.int k0]) (n := 1) (Nat.le_of_ble_eq_true rfl)
  rw [lg_entry_eq]
  generalize (lg_sl ([.int k0]) ++ List.replicate (1 - (lg_sl ([.int k0])).length) Slot.unset).toArray = ls at hl ⊢
  have hl : lv_has ls 1 [(0, .int k0)] := hl
  obtain ⟨H, hH⟩ : ∃ H : Heap, H = s.heap := ⟨_, rfl⟩
  obtain ⟨locs, hlc⟩ : ∃ L : List Loc, L = [] := ⟨_, rfl⟩
  have hP : va_P (dC, dI) vwCl [] H := by rw [hH]; exact hP
  have hS : va_S A s.heap H locs := by rw [hH, hlc]; exact hS
  suffices hW9 : W p l e ({ frames := 10, cells := 0, slots := 0, locals := 150 } : Room) s m ([.int k0] : List Value).toArray below meth c H locs 0 0 (MQ below (jQ_OM_isKind dC dI cI cJ cZ cQ A  Post) ([.int k0] : List Value).toArray s 0 0 A) (F0 m 0 ls []) by rw [hH, hlc] at hW9; exact hW9
  clear hH hlc
  rw [wp_OM_isKind] at h
  refine lv_iload_n hx hb d_OM_isKind_0 rfl (lv_at hl 0 rfl) ?_
  refine lv_if_lt (tgt := 13) hx hb d_OM_isKind_1 (by decide) (fun c1 => ?_) (fun c1 => ?_)
  · have h := h.1 c1
    refine lv_iconst (v := 0) hx hb d_OM_isKind_13 (by decide) ?_
    have hP9 := hP
    have hD9 := hD
    exact W.zret (v := 0) hx hb hr rfl (fun t ht hW => ⟨⟨0, (), rfl, h, by rw [ht]; exact hP9, va_K.moved hW.alike hK, hD9⟩, hS.F ht⟩) hS.2.2 d_OM_isKind_14
  · have h := h.2 c1
    refine lv_iload_n hx hb d_OM_isKind_4 rfl (lv_at hl 0 rfl) ?_
    refine lv_iconst (v := 4) hx hb d_OM_isKind_5 (by decide) ?_
    refine lv_icmp_ge (tgt := 13) hx hb d_OM_isKind_6 (by decide) (fun c6 => ?_) (fun c6 => ?_)
    · have h := h.1 c6
      refine lv_iconst (v := 0) hx hb d_OM_isKind_13 (by decide) ?_
      have hP9 := hP
      have hD9 := hD
      exact W.zret (v := 0) hx hb hr rfl (fun t ht hW => ⟨⟨0, (), rfl, h, by rw [ht]; exact hP9, va_K.moved hW.alike hK, hD9⟩, hS.F ht⟩) hS.2.2 d_OM_isKind_14
    · have h := h.2 c6
      refine lv_iconst (v := 1) hx hb d_OM_isKind_9 (by decide) ?_
      refine lv_goto (tgt := 14) hx hb d_OM_isKind_10 (by decide) ?_
      have hP9 := hP
      have hD9 := hD
      exact W.zret (v := 1) hx hb hr rfl (fun t ht hW => ⟨⟨1, (), rfl, h, by rw [ht]; exact hP9, va_K.moved hW.alike hK, hD9⟩, hS.F ht⟩) hS.2.2 d_OM_isKind_14

/-- what java/util/Arrays.fill([II)V leaves -/
abbrev jQ_JA_fill_aII (dC : Nat → ClassId) (dI : Nat → Nat → Nat) (cI cJ cZ cQ : ClassId) (A : Nat → Prop) (a_a n0 : Nat) (Post : (Nat → Int32) → Prop) : Array Value → State → Outcome → State → Prop := va_Qv (fun (u : (Nat → Int32)) => Post u) (fun (u : (Nat → Int32)) (t : State) => match u with
  | f0 => jPost (dC, dI) (jT cI cJ cZ cQ) A [(a_a, .inl (cI, n0, .inl f0))] t) A
def wp_JA_fill_aII_5 (Post : (Nat → Int32) → Prop) (n0 : Nat)  : Nat → (Nat → Int32) → Int32 → Int32 → Int32 → Prop
  | 0, _, _, _, _ => False
  | n_5 + 1, f0, L1, L2, L3 =>
    ((L3 ≤ L2 → Post f0) ∧
    (¬ L3 ≤ L2 → vp_in L2 n0 ∧ ∀ f2 : Nat → Int32, f2 = upd f0 L2.toNatClampNeg L1 → ∀ x3 : Int32, x3 = L2 + 1 → (wp_JA_fill_aII_5 Post n0 n_5) f2 L1 x3 L3))
/-- java/util/Arrays.fill([II)V -/
def wp_JA_fill_aII (Post : (Nat → Int32) → Prop) (n0 : Nat) (f0 : Nat → Int32) (v0 : Int32) : Prop :=
  ∀ x1 : Int32, x1 = Int32.ofNat n0 → (∃ n_5 : Nat, wp_JA_fill_aII_5 Post n0 n_5 f0 v0 0 x1)
set_option maxHeartbeats 4000000 in
set_option maxRecDepth 100000 in
theorem l_JA_fill_aII_5 {p : Program} {l : Launch} {e : Env} {s : State} {m : MethodId} {args : Array Value} {below : List Frame} {meth : Method} {c : Code} {dC : Nat → ClassId} {dI : Nat → Nat → Nat} {cI cJ cZ cQ : ClassId} {a_a n0 : Nat} {A : Nat → Prop} {Post : (Nat → Int32) → Prop} (C0 : jC p l s m args meth c b_JA_fill_aII none 4 R_JA (dC, dI) cI cJ cZ cQ A)  : ∀ n9 : Nat, ∀ (f0 : Nat → Int32) (L1 L2 L3 : Int32), ∀ (H : Heap) (locs : List Loc) (ls : Array Slot), wp_JA_fill_aII_5 Post n0  n9 f0 L1 L2 L3 → va_P (dC, dI) vwCl [(a_a, .inl (cI, n0, .inl f0))] H → va_D A [(a_a, .inl (cI, n0, .inl f0))] → va_S A s.heap H locs → lv_has ls 4 [(0, .ref a_a), (1, .int L1), (2, .int L2), (3, .int L3)] → W p l e ({ frames := 10, cells := 0, slots := 0, locals := 150 } : Room) s m args below meth c H locs 0 0 (MQ below (jQ_JA_fill_aII dC dI cI cJ cZ cQ A a_a n0 Post) args s 0 0 A) (F0 m 5 ls []) := by
  obtain ⟨hx, hb, hr, hml, hown, hts, hlocks, hK, hZ, hA, hst⟩ := id C0
  intro n9
  induction n9 with
  | zero =>
    intro f0 L1 L2 L3 H locs ls h hP hD hS hl
    exact False.elim h
  | succ n_5 ih =>
    intro f0 L1 L2 L3 H locs ls h hP hD hS hl
    rw [wp_JA_fill_aII_5] at h
    refine lv_iload_n hx hb d_JA_fill_aII_5 rfl (lv_at hl 2 rfl) ?_
    refine lv_iload_n hx hb d_JA_fill_aII_6 rfl (lv_at hl 3 rfl) ?_
    refine lv_icmp_ge (tgt := 20) hx hb d_JA_fill_aII_7 (by decide) (fun c7 => ?_) (fun c7 => ?_)
    · have h := h.1 c7
      have hP9 := hP
      have hD9 := hD
      exact W.vret hx hb hr (fun t ht hW => ⟨⟨f0, rfl, h, by rw [ht]; exact hP9, va_K.moved hW.alike hK, hD9⟩, hS.F ht⟩) hS.2.2 d_JA_fill_aII_20
    · have h := h.2 c7
      refine lv_aload_n hx hb d_JA_fill_aII_10 rfl (lv_at hl 0 rfl) ?_
      refine lv_iload_n hx hb d_JA_fill_aII_11 rfl (lv_at hl 2 rfl) ?_
      refine lv_iload_n hx hb d_JA_fill_aII_12 rfl (lv_at hl 1 rfl) ?_
      refine va_iast hx hb hK hP hD hS 0 0 rfl rfl h.1 d_JA_fill_aII_13 (fun H locs hP hD hS => ?_)
      have h := h.2
      obtain ⟨f2, ef2⟩ : ∃ y : Nat → Int32, y = upd f0 L2.toNatClampNeg L1 := ⟨_, rfl⟩
      rw [← ef2] at hP hD
      have h := h f2 ef2
      have hP : va_P (dC, dI) vwCl [(a_a, .inl (cI, n0, .inl f2))] H := hP
      have hD : va_D A [(a_a, .inl (cI, n0, .inl f2))] := hD
      obtain ⟨x3, ex3⟩ : ∃ y : Int32, y = L2 + 1 := ⟨_, rfl⟩
      have h := h x3 ex3
      refine lv_iinc (v := x3) (lv' := [(2, .int x3), (0, .ref a_a), (1, .int L1), (3, .int L3)]) hx hb d_JA_fill_aII_14 hl (k := 2) rfl (by rw [ex3]; rfl) (by decide) rfl (fun ls hl => ?_)
      refine lv_goto (tgt := 5) hx hb d_JA_fill_aII_17 (by decide) ?_
      exact ih f2 L1 x3 L3  H locs ls h hP hD hS (lv_sub hl [1, 2, 0, 3] rfl)
set_option maxHeartbeats 4000000 in
set_option maxRecDepth 100000 in
theorem c_JA_fill_aII (l : Launch) (dC : Nat → ClassId) (dI : Nat → Nat → Nat) (cI cJ cZ cQ : ClassId) (a_a n0 : Nat) (sz : Nat) (f0 : Nat → Int32) (v0 : Int32) (Post : (Nat → Int32) → Prop) (h : wp_JA_fill_aII Post n0 f0 v0) : Met l y_JA_fill_aII (.code y_JA_fill_aII b_JA_fill_aII 4 none :: jW) ({ frames := 10, cells := 0, slots := 0, locals := 150 } : Room) (jPre l (dC, dI) cI cJ cZ cQ [(a_a, .inl (cI, n0, .inl f0))] sz [.ref a_a, .int v0]) (jQ_JA_fill_aII dC dI cI cJ cZ cQ (va_A [(a_a, .inl (cI, n0, .inl f0))] sz) a_a n0 Post) 0 0 (va_A [(a_a, .inl (cI, n0, .inl f0))] sz) := by
  refine Met.ofW (cc := b_JA_fill_aII) (maxL := 4) (ret := none) (by decide) rfl ?_
  intro p e s m args below meth c s₁ B hml hv
  obtain ⟨rfl, hsz, hP, hK, hD0, hZ, hst⟩ := hv
  subst hsz
  have hD := hD0.self (sz := s.heap.size)
  generalize hAe : va_A [(a_a, .inl (cI, n0, .inl f0))] s.heap.size = A at hD hZ ⊢
  have hA : ∀ q : Nat, s.heap.size ≤ q → A q := fun q h => by rw [← hAe]; exact Or.inr h
  have C0 : jC p l s m ([.ref a_a, .int v0] : List Value).toArray meth c b_JA_fill_aII none 4 R_JA (dC, dI) cI cJ cZ cQ A := ⟨B.exec, B.bytes, B.returns, hml, findClass_of_methodNamed B.named, fun w hw => atoms_spec (ws := (.code y_JA_fill_aII b_JA_fill_aII 4 none :: jW)) B.pre w (List.mem_cons_of_mem _ hw), B.notSynchronized, hK, hZ, hA, hst⟩
  obtain ⟨hx, hb, hr, hml, hown, hts, hlocks, hK, hZ, hA, hst⟩ := id C0
  have hS : va_S A s.heap s.heap [] := va_S.rf
  have hl := lv_entry ([.ref a_a, .int v0]) (n := 4) (Nat.le_of_ble_eq_true rfl)
  rw [lg_entry_eq]
  generalize (lg_sl ([.ref a_a, .int v0]) ++ List.replicate (4 - (lg_sl ([.ref a_a, .int v0])).length) Slot.unset).toArray = ls at hl ⊢
  have hl : lv_has ls 4 [(0, .ref a_a), (1, .int v0)] := hl
  obtain ⟨H, hH⟩ : ∃ H : Heap, H = s.heap := ⟨_, rfl⟩
  obtain ⟨locs, hlc⟩ : ∃ L : List Loc, L = [] := ⟨_, rfl⟩
  have hP : va_P (dC, dI) vwCl [(a_a, .inl (cI, n0, .inl f0))] H := by rw [hH]; exact hP
  have hS : va_S A s.heap H locs := by rw [hH, hlc]; exact hS
  suffices hW9 : W p l e ({ frames := 10, cells := 0, slots := 0, locals := 150 } : Room) s m ([.ref a_a, .int v0] : List Value).toArray below meth c H locs 0 0 (MQ below (jQ_JA_fill_aII dC dI cI cJ cZ cQ A a_a n0 Post) ([.ref a_a, .int v0] : List Value).toArray s 0 0 A) (F0 m 0 ls []) by rw [hH, hlc] at hW9; exact hW9
  clear hH hlc
  rw [wp_JA_fill_aII] at h
  refine lv_iconst (v := 0) hx hb d_JA_fill_aII_0 (by decide) ?_
  refine lv_istore_n (lv' := [(2, .int 0), (0, .ref a_a), (1, .int v0)]) hx hb d_JA_fill_aII_1 rfl hl (by decide) rfl (fun ls hl => ?_)
  refine lv_aload_n hx hb d_JA_fill_aII_2 rfl (lv_at hl 1 rfl) ?_
  refine va_alen hx hb hK hP 0 0 (ty := .int) rfl rfl (v := Int32.ofNat n0) rfl d_JA_fill_aII_3 ?_
  refine lv_topi (fun x1 ex1 => ?_)
  have h := h x1 ex1
  refine lv_istore_n (lv' := [(3, .int x1), (2, .int 0), (0, .ref a_a), (1, .int v0)]) hx hb d_JA_fill_aII_4 rfl hl (by decide) rfl (fun ls hl => ?_)
  obtain ⟨n_5, h⟩ := h
  exact l_JA_fill_aII_5 C0  n_5 f0 v0 0 x1  H locs ls h hP hD hS (lv_sub hl [2, 3, 1, 0] rfl)

/-- what OrderMachines$Program.canBe(IIII)Z leaves -/
abbrev jQ_PR_canBe (dC : Nat → ClassId) (dI : Nat → Nat → Nat) (cI cJ cZ cQ : ClassId) (A : Nat → Prop) (Post : Int32 → Prop) : Array Value → State → Outcome → State → Prop := va_Qi (fun (r : Int32) (u : Unit) => Post r) (fun (u : Unit) (t : State) => match u with
  | _ => jPost (dC, dI) (jT cI cJ cZ cQ) A [] t) A
/-- OrderMachines$Program.canBe(IIII)Z -/
def wp_PR_canBe (Post : Int32 → Prop) (t0 w0 p0 n0 : Int32) : Prop :=
  ((t0 < 0 → Post 0) ∧
  (¬ t0 < 0 → ((4 ≤ t0 → Post 0) ∧
    (¬ 4 ≤ t0 → ((w0 < 0 → Post 0) ∧
      (¬ w0 < 0 → ((w0 ≤ 3 → ((¬ w0 = 2 → wp_OM_isDigit (fun (r1 : Int32) => ((r1 = 0 → Post 0) ∧
            (¬ r1 = 0 → wp_OM_isDigit (fun (r2 : Int32) => ((r2 = 0 → Post 0) ∧
              (¬ r2 = 0 → Post 1))) n0))) p0) ∧
          (w0 = 2 → ((¬ p0 = 0 → Post 0) ∧
            (p0 = 0 → ((¬ n0 = 0 → Post 0) ∧
              (n0 = 0 → Post 1))))))) ∧
        (¬ w0 ≤ 3 → Post 0))))))))
set_option maxHeartbeats 4000000 in
set_option maxRecDepth 100000 in
theorem c_PR_canBe (l : Launch) (dC : Nat → ClassId) (dI : Nat → Nat → Nat) (cI cJ cZ cQ : ClassId)  (sz : Nat) (t0 w0 p0 n0 : Int32) (Post : Int32 → Prop) (h : wp_PR_canBe Post t0 w0 p0 n0) : Met l y_PR_canBe (.code y_PR_canBe b_PR_canBe 4 (some .boolean) :: jW) ({ frames := 11, cells := 0, slots := 0, locals := 170 } : Room) (jPre l (dC, dI) cI cJ cZ cQ [] sz [.int t0, .int w0, .int p0, .int n0]) (jQ_PR_canBe dC dI cI cJ cZ cQ (va_A [] sz)  Post) 0 0 (va_A [] sz) := by
  refine Met.ofW (cc := b_PR_canBe) (maxL := 4) (ret := (some .boolean)) (by decide) rfl ?_
  intro p e s m args below meth c s₁ B hml hv
  obtain ⟨rfl, hsz, hP, hK, hD0, hZ, hst⟩ := hv
  subst hsz
  have hD := hD0.self (sz := s.heap.size)
  generalize hAe : va_A [] s.heap.size = A at hD hZ ⊢
  have hA : ∀ q : Nat, s.heap.size ≤ q → A q := fun q h => by rw [← hAe]; exact Or.inr h
  have C0 : jC p l s m ([.int t0, .int w0, .int p0, .int n0] : List Value).toArray meth c b_PR_canBe (some .boolean) 4 R_PR (dC, dI) cI cJ cZ cQ A := ⟨B.exec, B.bytes, B.returns, hml, findClass_of_methodNamed B.named, fun w hw => atoms_spec (ws := (.code y_PR_canBe b_PR_canBe 4 (some .boolean) :: jW)) B.pre w (List.mem_cons_of_mem _ hw), B.notSynchronized, hK, hZ, hA, hst⟩
  obtain ⟨hx, hb, hr, hml, hown, hts, hlocks, hK, hZ, hA, hst⟩ := id C0
  have hS : va_S A s.heap s.heap [] := va_S.rf
  have hl := lv_entry ([.int t0, .int w0, .int p0, .int n0]) (n := 4) (Nat.le_of_ble_eq_true rfl)
  rw [lg_entry_eq]
  generalize (lg_sl ([.int t0, .int w0, .int p0, .int n0]) ++ List.replicate (4 - (lg_sl ([.int t0, .int w0, .int p0, .int n0])).length) Slot.unset).toArray = ls at hl ⊢
  have hl : lv_has ls 4 [(0, .int t0), (1, .int w0), (2, .int p0), (3, .int n0)] := hl
  obtain ⟨H, hH⟩ : ∃ H : Heap, H = s.heap := ⟨_, rfl⟩
  obtain ⟨locs, hlc⟩ : ∃ L : List Loc, L = [] := ⟨_, rfl⟩
  have hP : va_P (dC, dI) vwCl [] H := by rw [hH]; exact hP
  have hS : va_S A s.heap H locs := by rw [hH, hlc]; exact hS
  suffices hW9 : W p l e ({ frames := 11, cells := 0, slots := 0, locals := 170 } : Room) s m ([.int t0, .int w0, .int p0, .int n0] : List Value).toArray below meth c H locs 0 0 (MQ below (jQ_PR_canBe dC dI cI cJ cZ cQ A  Post) ([.int t0, .int w0, .int p0, .int n0] : List Value).toArray s 0 0 A) (F0 m 0 ls []) by rw [hH, hlc] at hW9; exact hW9
  clear hH hlc
  rw [wp_PR_canBe] at h
  refine lv_iload_n hx hb d_PR_canBe_0 rfl (lv_at hl 0 rfl) ?_
  refine lv_if_lt (tgt := 18) hx hb d_PR_canBe_1 (by decide) (fun c1 => ?_) (fun c1 => ?_)
  · have h := h.1 c1
    refine lv_iconst (v := 0) hx hb d_PR_canBe_18 (by decide) ?_
    have hP9 := hP
    have hD9 := hD
    exact W.zret (v := 0) hx hb hr rfl (fun t ht hW => ⟨⟨0, (), rfl, h, by rw [ht]; exact hP9, va_K.moved hW.alike hK, hD9⟩, hS.F ht⟩) hS.2.2 d_PR_canBe_19
  · have h := h.2 c1
    refine lv_iload_n hx hb d_PR_canBe_4 rfl (lv_at hl 0 rfl) ?_
    refine lv_iconst (v := 4) hx hb d_PR_canBe_5 (by decide) ?_
    refine lv_icmp_ge (tgt := 18) hx hb d_PR_canBe_6 (by decide) (fun c6 => ?_) (fun c6 => ?_)
    · have h := h.1 c6
      refine lv_iconst (v := 0) hx hb d_PR_canBe_18 (by decide) ?_
      have hP9 := hP
      have hD9 := hD
      exact W.zret (v := 0) hx hb hr rfl (fun t ht hW => ⟨⟨0, (), rfl, h, by rw [ht]; exact hP9, va_K.moved hW.alike hK, hD9⟩, hS.F ht⟩) hS.2.2 d_PR_canBe_19
    · have h := h.2 c6
      refine lv_iload_n hx hb d_PR_canBe_9 rfl (lv_at hl 1 rfl) ?_
      refine lv_if_lt (tgt := 18) hx hb d_PR_canBe_10 (by decide) (fun c10 => ?_) (fun c10 => ?_)
      · have h := h.1 c10
        refine lv_iconst (v := 0) hx hb d_PR_canBe_18 (by decide) ?_
        have hP9 := hP
        have hD9 := hD
        exact W.zret (v := 0) hx hb hr rfl (fun t ht hW => ⟨⟨0, (), rfl, h, by rw [ht]; exact hP9, va_K.moved hW.alike hK, hD9⟩, hS.F ht⟩) hS.2.2 d_PR_canBe_19
      · have h := h.2 c10
        refine lv_iload_n hx hb d_PR_canBe_13 rfl (lv_at hl 1 rfl) ?_
        refine lv_iconst (v := 3) hx hb d_PR_canBe_14 (by decide) ?_
        refine lv_icmp_le (tgt := 20) hx hb d_PR_canBe_15 (by decide) (fun c15 => ?_) (fun c15 => ?_)
        · have h := h.1 c15
          refine lv_iload_n hx hb d_PR_canBe_20 rfl (lv_at hl 1 rfl) ?_
          refine lv_iconst (v := 2) hx hb d_PR_canBe_21 (by decide) ?_
          refine lv_icmp_ne (tgt := 39) hx hb d_PR_canBe_22 (by decide) (fun c22 => ?_) (fun c22 => ?_)
          · have h := h.1 c22
            refine lv_iload_n hx hb d_PR_canBe_39 rfl (lv_at hl 2 rfl) ?_
            have hPc := hP.sub (ws' := []) [] rfl
            have hDc := hD.sub (ws' := []) [] (by decide) rfl
            have hFc := va_free (wc := []) hD hS hA [] rfl
            refine va_calli (va_runSN (As := [.int p0]) (rest := []) ⟨hx, hb, hml, hown, hts⟩ (c_OM_isDigit l dC dI cI cJ cZ cQ  H.size p0 _  h) ⟨va_cnB 1 hts (jG mw_220) rfl rfl rfl (nlm_3 hZ) (hts _ mw_1) (by decide +kernel) ⟨Nat.le_of_ble_eq_true rfl, Nat.le_of_ble_eq_true rfl⟩, hts _ mw_219, trivial⟩ ⟨jPre_blind, jPre_in hPc hK hDc hZ hS hFc hst⟩ rfl rfl hl.1 rfl (lv_room (Nat.le_of_ble_eq_true rfl)) d_PR_canBe_40 ⟨(Nat.zero_le _), (Nat.zero_le _)⟩) hS (fun q _ h => hFc q h) hFc (fun r1 u t H1 locs ht hvm hw hB hz1 hk1 hS => ?_)
            obtain ⟨hP1, hK1, hD1⟩ := hB
            rw [ht] at hP1
            have h := hw
            obtain ⟨hP, hD⟩ := va_join (wr := []) (w1 := []) hP hD [] [] rfl rfl (by decide) (by decide) hk1 hFc hP1 hD1
            generalize H1 = H at hP hS ⊢
            have hP : va_P (dC, dI) vwCl [] H := hP
            have hD : va_D A [] := hD
            refine lv_if_eq (tgt := 57) hx hb d_PR_canBe_43 (by decide) (fun c43 => ?_) (fun c43 => ?_)
            · have h := h.1 c43
              refine lv_iconst (v := 0) hx hb d_PR_canBe_57 (by decide) ?_
              have hP9 := hP
              have hD9 := hD
              exact W.zret (v := 0) hx hb hr rfl (fun t ht hW => ⟨⟨0, (), rfl, h, by rw [ht]; exact hP9, va_K.moved hW.alike hK, hD9⟩, hS.F ht⟩) hS.2.2 d_PR_canBe_58
            · have h := h.2 c43
              refine lv_iload_n hx hb d_PR_canBe_46 rfl (lv_at hl 3 rfl) ?_
              have hPc := hP.sub (ws' := []) [] rfl
              have hDc := hD.sub (ws' := []) [] (by decide) rfl
              have hFc := va_free (wc := []) hD hS hA [] rfl
              refine va_calli (va_runSN (As := [.int n0]) (rest := []) ⟨hx, hb, hml, hown, hts⟩ (c_OM_isDigit l dC dI cI cJ cZ cQ  H.size n0 _  h) ⟨va_cnB 1 hts (jG mw_220) rfl rfl rfl (nlm_3 hZ) (hts _ mw_1) (by decide +kernel) ⟨Nat.le_of_ble_eq_true rfl, Nat.le_of_ble_eq_true rfl⟩, hts _ mw_219, trivial⟩ ⟨jPre_blind, jPre_in hPc hK hDc hZ hS hFc hst⟩ rfl rfl hl.1 rfl (lv_room (Nat.le_of_ble_eq_true rfl)) d_PR_canBe_47 ⟨(Nat.zero_le _), (Nat.zero_le _)⟩) hS (fun q _ h => hFc q h) hFc (fun r2 u t H1 locs ht hvm hw hB hz1 hk1 hS => ?_)
              obtain ⟨hP1, hK1, hD1⟩ := hB
              rw [ht] at hP1
              have h := hw
              obtain ⟨hP, hD⟩ := va_join (wr := []) (w1 := []) hP hD [] [] rfl rfl (by decide) (by decide) hk1 hFc hP1 hD1
              generalize H1 = H at hP hS ⊢
              have hP : va_P (dC, dI) vwCl [] H := hP
              have hD : va_D A [] := hD
              refine lv_if_eq (tgt := 57) hx hb d_PR_canBe_50 (by decide) (fun c50 => ?_) (fun c50 => ?_)
              · have h := h.1 c50
                refine lv_iconst (v := 0) hx hb d_PR_canBe_57 (by decide) ?_
                have hP9 := hP
                have hD9 := hD
                exact W.zret (v := 0) hx hb hr rfl (fun t ht hW => ⟨⟨0, (), rfl, h, by rw [ht]; exact hP9, va_K.moved hW.alike hK, hD9⟩, hS.F ht⟩) hS.2.2 d_PR_canBe_58
              · have h := h.2 c50
                refine lv_iconst (v := 1) hx hb d_PR_canBe_53 (by decide) ?_
                refine lv_goto (tgt := 58) hx hb d_PR_canBe_54 (by decide) ?_
                have hP9 := hP
                have hD9 := hD
                exact W.zret (v := 1) hx hb hr rfl (fun t ht hW => ⟨⟨1, (), rfl, h, by rw [ht]; exact hP9, va_K.moved hW.alike hK, hD9⟩, hS.F ht⟩) hS.2.2 d_PR_canBe_58
          · have h := h.2 c22
            refine lv_iload_n hx hb d_PR_canBe_25 rfl (lv_at hl 2 rfl) ?_
            refine lv_if_ne (tgt := 37) hx hb d_PR_canBe_26 (by decide) (fun c26 => ?_) (fun c26 => ?_)
            · have h := h.1 c26
              refine lv_iconst (v := 0) hx hb d_PR_canBe_37 (by decide) ?_
              have hP9 := hP
              have hD9 := hD
              exact W.zret (v := 0) hx hb hr rfl (fun t ht hW => ⟨⟨0, (), rfl, h, by rw [ht]; exact hP9, va_K.moved hW.alike hK, hD9⟩, hS.F ht⟩) hS.2.2 d_PR_canBe_38
            · have h := h.2 c26
              refine lv_iload_n hx hb d_PR_canBe_29 rfl (lv_at hl 3 rfl) ?_
              refine lv_if_ne (tgt := 37) hx hb d_PR_canBe_30 (by decide) (fun c30 => ?_) (fun c30 => ?_)
              · have h := h.1 c30
                refine lv_iconst (v := 0) hx hb d_PR_canBe_37 (by decide) ?_
                have hP9 := hP
                have hD9 := hD
                exact W.zret (v := 0) hx hb hr rfl (fun t ht hW => ⟨⟨0, (), rfl, h, by rw [ht]; exact hP9, va_K.moved hW.alike hK, hD9⟩, hS.F ht⟩) hS.2.2 d_PR_canBe_38
              · have h := h.2 c30
                refine lv_iconst (v := 1) hx hb d_PR_canBe_33 (by decide) ?_
                refine lv_goto (tgt := 38) hx hb d_PR_canBe_34 (by decide) ?_
                have hP9 := hP
                have hD9 := hD
                exact W.zret (v := 1) hx hb hr rfl (fun t ht hW => ⟨⟨1, (), rfl, h, by rw [ht]; exact hP9, va_K.moved hW.alike hK, hD9⟩, hS.F ht⟩) hS.2.2 d_PR_canBe_38
        · have h := h.2 c15
          refine lv_iconst (v := 0) hx hb d_PR_canBe_18 (by decide) ?_
          have hP9 := hP
          have hD9 := hD
          exact W.zret (v := 0) hx hb hr rfl (fun t ht hW => ⟨⟨0, (), rfl, h, by rw [ht]; exact hP9, va_K.moved hW.alike hK, hD9⟩, hS.F ht⟩) hS.2.2 d_PR_canBe_19

/-- what OrderMachines$Program.lengthOf(I)I leaves -/
abbrev jQ_PR_lengthOf (dC : Nat → ClassId) (dI : Nat → Nat → Nat) (cI cJ cZ cQ : ClassId) (A : Nat → Prop) (a_pr a_codes a_lens : Nat) (Post : Int32 → (Nat → Int32) → (Nat → Int32) → Prop) : Array Value → State → Outcome → State → Prop := va_Qi (fun (r : Int32) (u : (Nat → Int32) × (Nat → Int32)) => Post r u.1 u.2) (fun (u : (Nat → Int32) × (Nat → Int32)) (t : State) => match u with
  | (pc, pl) => jPost (dC, dI) (jT cI cJ cZ cQ) A [(a_pr, .inr (0, [.ref a_codes, .ref a_lens])), (a_codes, .inl (cI, 20, .inl pc)), (a_lens, .inl (cI, 4, .inl pl))] t) A
/-- OrderMachines$Program.lengthOf(I)I -/
def wp_PR_lengthOf (Post : Int32 → (Nat → Int32) → (Nat → Int32) → Prop) (pc pl : Nat → Int32) (t0 : Int32) : Prop :=
  vp_in t0 4 ∧ Post (pl t0.toNatClampNeg) pc pl
set_option maxHeartbeats 4000000 in
set_option maxRecDepth 100000 in
theorem c_PR_lengthOf (l : Launch) (dC : Nat → ClassId) (dI : Nat → Nat → Nat) (cI cJ cZ cQ : ClassId) (a_pr a_codes a_lens : Nat) (sz : Nat) (pc pl : Nat → Int32) (t0 : Int32) (Post : Int32 → (Nat → Int32) → (Nat → Int32) → Prop) (h : wp_PR_lengthOf Post pc pl t0) : Met l y_PR_lengthOf (.code y_PR_lengthOf b_PR_lengthOf 2 (some .int) :: jW) ({ frames := 10, cells := 0, slots := 0, locals := 150 } : Room) (jPre l (dC, dI) cI cJ cZ cQ [(a_pr, .inr (0, [.ref a_codes, .ref a_lens])), (a_codes, .inl (cI, 20, .inl pc)), (a_lens, .inl (cI, 4, .inl pl))] sz [.ref a_pr, .int t0]) (jQ_PR_lengthOf dC dI cI cJ cZ cQ (va_A [(a_pr, .inr (0, [.ref a_codes, .ref a_lens])), (a_codes, .inl (cI, 20, .inl pc)), (a_lens, .inl (cI, 4, .inl pl))] sz) a_pr a_codes a_lens Post) 0 0 (va_A [(a_pr, .inr (0, [.ref a_codes, .ref a_lens])), (a_codes, .inl (cI, 20, .inl pc)), (a_lens, .inl (cI, 4, .inl pl))] sz) := by
  refine Met.ofW (cc := b_PR_lengthOf) (maxL := 2) (ret := (some .int)) (by decide) rfl ?_
  intro p e s m args below meth c s₁ B hml hv
  obtain ⟨rfl, hsz, hP, hK, hD0, hZ, hst⟩ := hv
  subst hsz
  have hD := hD0.self (sz := s.heap.size)
  generalize hAe : va_A [(a_pr, .inr (0, [.ref a_codes, .ref a_lens])), (a_codes, .inl (cI, 20, .inl pc)), (a_lens, .inl (cI, 4, .inl pl))] s.heap.size = A at hD hZ ⊢
  have hA : ∀ q : Nat, s.heap.size ≤ q → A q := fun q h => by rw [← hAe]; exact Or.inr h
  have C0 : jC p l s m ([.ref a_pr, .int t0] : List Value).toArray meth c b_PR_lengthOf (some .int) 2 R_PR (dC, dI) cI cJ cZ cQ A := ⟨B.exec, B.bytes, B.returns, hml, findClass_of_methodNamed B.named, fun w hw => atoms_spec (ws := (.code y_PR_lengthOf b_PR_lengthOf 2 (some .int) :: jW)) B.pre w (List.mem_cons_of_mem _ hw), B.notSynchronized, hK, hZ, hA, hst⟩
  obtain ⟨hx, hb, hr, hml, hown, hts, hlocks, hK, hZ, hA, hst⟩ := id C0
  have hS : va_S A s.heap s.heap [] := va_S.rf
  have hl := lv_entry ([.ref a_pr, .int t0]) (n := 2) (Nat.le_of_ble_eq_true rfl)
  rw [lg_entry_eq]
  generalize (lg_sl ([.ref a_pr, .int t0]) ++ List.replicate (2 - (lg_sl ([.ref a_pr, .int t0])).length) Slot.unset).toArray = ls at hl ⊢
  have hl : lv_has ls 2 [(0, .ref a_pr), (1, .int t0)] := hl
  obtain ⟨H, hH⟩ : ∃ H : Heap, H = s.heap := ⟨_, rfl⟩
  obtain ⟨locs, hlc⟩ : ∃ L : List Loc, L = [] := ⟨_, rfl⟩
  have hP : va_P (dC, dI) vwCl [(a_pr, .inr (0, [.ref a_codes, .ref a_lens])), (a_codes, .inl (cI, 20, .inl pc)), (a_lens, .inl (cI, 4, .inl pl))] H := by rw [hH]; exact hP
  have hS : va_S A s.heap H locs := by rw [hH, hlc]; exact hS
  suffices hW9 : W p l e ({ frames := 10, cells := 0, slots := 0, locals := 150 } : Room) s m ([.ref a_pr, .int t0] : List Value).toArray below meth c H locs 0 0 (MQ below (jQ_PR_lengthOf dC dI cI cJ cZ cQ A a_pr a_codes a_lens Post) ([.ref a_pr, .int t0] : List Value).toArray s 0 0 A) (F0 m 0 ls []) by rw [hH, hlc] at hW9; exact hW9
  clear hH hlc
  rw [wp_PR_lengthOf] at h
  refine lv_aload_n hx hb d_PR_lengthOf_0 rfl (lv_at hl 0 rfl) ?_
  refine va_get (D := (dC, dI)) (ci := 0) (v := .ref a_lens) (C := R_PR) (T := T_PR) (N := 2) hx hb hts in_PR hown hK hP 0 rfl rfl 1 (by decide) (hts _ mw_41) (fun _ h9 => h9) rfl d_PR_lengthOf_1 ?_
  refine lv_iload_n hx hb d_PR_lengthOf_4 rfl (lv_at hl 1 rfl) ?_
  refine va_iald hx hb hK hP 2 0 rfl rfl h.1 d_PR_lengthOf_5 ?_
  have h := h.2
  have hP9 := hP
  have hD9 := hD
  exact W.iret (v := pl t0.toNatClampNeg) hx hb hr (fun t ht hW => ⟨⟨pl t0.toNatClampNeg, (pc, pl), rfl, h, by rw [ht]; exact hP9, va_K.moved hW.alike hK, hD9⟩, hS.F ht⟩) hS.2.2 d_PR_lengthOf_6

/-- what OrderMachines$Program.codeOf(II)I leaves -/
abbrev jQ_PR_codeOf (dC : Nat → ClassId) (dI : Nat → Nat → Nat) (cI cJ cZ cQ : ClassId) (A : Nat → Prop) (a_pr a_codes a_lens : Nat) (Post : Int32 → (Nat → Int32) → (Nat → Int32) → Prop) : Array Value → State → Outcome → State → Prop := va_Qi (fun (r : Int32) (u : (Nat → Int32) × (Nat → Int32)) => Post r u.1 u.2) (fun (u : (Nat → Int32) × (Nat → Int32)) (t : State) => match u with
  | (pc, pl) => jPost (dC, dI) (jT cI cJ cZ cQ) A [(a_pr, .inr (0, [.ref a_codes, .ref a_lens])), (a_codes, .inl (cI, 20, .inl pc)), (a_lens, .inl (cI, 4, .inl pl))] t) A
/-- OrderMachines$Program.codeOf(II)I -/
def wp_PR_codeOf (Post : Int32 → (Nat → Int32) → (Nat → Int32) → Prop) (pc pl : Nat → Int32) (t0 i0 : Int32) : Prop :=
  vp_in ((t0 * 5) + i0) 20 ∧ Post (pc ((t0 * 5) + i0).toNatClampNeg) pc pl
set_option maxHeartbeats 4000000 in
set_option maxRecDepth 100000 in
theorem c_PR_codeOf (l : Launch) (dC : Nat → ClassId) (dI : Nat → Nat → Nat) (cI cJ cZ cQ : ClassId) (a_pr a_codes a_lens : Nat) (sz : Nat) (pc pl : Nat → Int32) (t0 i0 : Int32) (Post : Int32 → (Nat → Int32) → (Nat → Int32) → Prop) (h : wp_PR_codeOf Post pc pl t0 i0) : Met l y_PR_codeOf (.code y_PR_codeOf b_PR_codeOf 3 (some .int) :: jW) ({ frames := 10, cells := 0, slots := 0, locals := 150 } : Room) (jPre l (dC, dI) cI cJ cZ cQ [(a_pr, .inr (0, [.ref a_codes, .ref a_lens])), (a_codes, .inl (cI, 20, .inl pc)), (a_lens, .inl (cI, 4, .inl pl))] sz [.ref a_pr, .int t0, .int i0]) (jQ_PR_codeOf dC dI cI cJ cZ cQ (va_A [(a_pr, .inr (0, [.ref a_codes, .ref a_lens])), (a_codes, .inl (cI, 20, .inl pc)), (a_lens, .inl (cI, 4, .inl pl))] sz) a_pr a_codes a_lens Post) 0 0 (va_A [(a_pr, .inr (0, [.ref a_codes, .ref a_lens])), (a_codes, .inl (cI, 20, .inl pc)), (a_lens, .inl (cI, 4, .inl pl))] sz) := by
  refine Met.ofW (cc := b_PR_codeOf) (maxL := 3) (ret := (some .int)) (by decide) rfl ?_
  intro p e s m args below meth c s₁ B hml hv
  obtain ⟨rfl, hsz, hP, hK, hD0, hZ, hst⟩ := hv
  subst hsz
  have hD := hD0.self (sz := s.heap.size)
  generalize hAe : va_A [(a_pr, .inr (0, [.ref a_codes, .ref a_lens])), (a_codes, .inl (cI, 20, .inl pc)), (a_lens, .inl (cI, 4, .inl pl))] s.heap.size = A at hD hZ ⊢
  have hA : ∀ q : Nat, s.heap.size ≤ q → A q := fun q h => by rw [← hAe]; exact Or.inr h
  have C0 : jC p l s m ([.ref a_pr, .int t0, .int i0] : List Value).toArray meth c b_PR_codeOf (some .int) 3 R_PR (dC, dI) cI cJ cZ cQ A := ⟨B.exec, B.bytes, B.returns, hml, findClass_of_methodNamed B.named, fun w hw => atoms_spec (ws := (.code y_PR_codeOf b_PR_codeOf 3 (some .int) :: jW)) B.pre w (List.mem_cons_of_mem _ hw), B.notSynchronized, hK, hZ, hA, hst⟩
  obtain ⟨hx, hb, hr, hml, hown, hts, hlocks, hK, hZ, hA, hst⟩ := id C0
  have hS : va_S A s.heap s.heap [] := va_S.rf
  have hl := lv_entry ([.ref a_pr, .int t0, .int i0]) (n := 3) (Nat.le_of_ble_eq_true rfl)
  rw [lg_entry_eq]
  generalize (lg_sl ([.ref a_pr, .int t0, .int i0]) ++ List.replicate (3 - (lg_sl ([.ref a_pr, .int t0, .int i0])).length) Slot.unset).toArray = ls at hl ⊢
  have hl : lv_has ls 3 [(0, .ref a_pr), (1, .int t0), (2, .int i0)] := hl
  obtain ⟨H, hH⟩ : ∃ H : Heap, H = s.heap := ⟨_, rfl⟩
  obtain ⟨locs, hlc⟩ : ∃ L : List Loc, L = [] := ⟨_, rfl⟩
  have hP : va_P (dC, dI) vwCl [(a_pr, .inr (0, [.ref a_codes, .ref a_lens])), (a_codes, .inl (cI, 20, .inl pc)), (a_lens, .inl (cI, 4, .inl pl))] H := by rw [hH]; exact hP
  have hS : va_S A s.heap H locs := by rw [hH, hlc]; exact hS
  suffices hW9 : W p l e ({ frames := 10, cells := 0, slots := 0, locals := 150 } : Room) s m ([.ref a_pr, .int t0, .int i0] : List Value).toArray below meth c H locs 0 0 (MQ below (jQ_PR_codeOf dC dI cI cJ cZ cQ A a_pr a_codes a_lens Post) ([.ref a_pr, .int t0, .int i0] : List Value).toArray s 0 0 A) (F0 m 0 ls []) by rw [hH, hlc] at hW9; exact hW9
  clear hH hlc
  rw [wp_PR_codeOf] at h
  refine lv_aload_n hx hb d_PR_codeOf_0 rfl (lv_at hl 0 rfl) ?_
  refine va_get (D := (dC, dI)) (ci := 0) (v := .ref a_codes) (C := R_PR) (T := T_PR) (N := 2) hx hb hts in_PR hown hK hP 0 rfl rfl 0 (by decide) (hts _ mw_40) (fun _ h9 => h9) rfl d_PR_codeOf_1 ?_
  refine lv_iload_n hx hb d_PR_codeOf_4 rfl (lv_at hl 1 rfl) ?_
  refine lv_iconst (v := 5) hx hb d_PR_codeOf_5 (by decide) ?_
  refine lv_imul hx hb d_PR_codeOf_6 ?_
  refine lv_iload_n hx hb d_PR_codeOf_7 rfl (lv_at hl 2 rfl) ?_
  refine lv_iadd hx hb d_PR_codeOf_8 ?_
  refine va_iald hx hb hK hP 1 0 rfl rfl h.1 d_PR_codeOf_9 ?_
  have h := h.2
  have hP9 := hP
  have hD9 := hD
  exact W.iret (v := pc ((t0 * 5) + i0).toNatClampNeg) hx hb hr (fun t ht hW => ⟨⟨pc ((t0 * 5) + i0).toNatClampNeg, (pc, pl), rfl, h, by rw [ht]; exact hP9, va_K.moved hW.alike hK, hD9⟩, hS.F ht⟩) hS.2.2 d_PR_codeOf_10

/-- what OrderMachines$Program.append(IIII)V leaves -/
abbrev jQ_PR_append (dC : Nat → ClassId) (dI : Nat → Nat → Nat) (cI cJ cZ cQ : ClassId) (A : Nat → Prop) (a_pr a_codes a_lens : Nat) (Post : (Nat → Int32) → (Nat → Int32) → Prop) : Array Value → State → Outcome → State → Prop := va_Qv (fun (u : (Nat → Int32) × (Nat → Int32)) => Post u.1 u.2) (fun (u : (Nat → Int32) × (Nat → Int32)) (t : State) => match u with
  | (pc, pl) => jPost (dC, dI) (jT cI cJ cZ cQ) A [(a_pr, .inr (0, [.ref a_codes, .ref a_lens])), (a_codes, .inl (cI, 20, .inl pc)), (a_lens, .inl (cI, 4, .inl pl))] t) A
/-- OrderMachines$Program.append(IIII)V -/
def wp_PR_append (Post : (Nat → Int32) → (Nat → Int32) → Prop) (pc pl : Nat → Int32) (t0 w0 p0 n0 : Int32) : Prop :=
  vp_in t0 4 ∧ vp_in ((t0 * 5) + (pl t0.toNatClampNeg)) 20 ∧ ∀ f1 : Nat → Int32, f1 = upd pc ((t0 * 5) + (pl t0.toNatClampNeg)).toNatClampNeg ((((w0 * 4) + p0) * 4) + n0) → vp_in t0 4 ∧ vp_in t0 4 ∧ ∀ f2 : Nat → Int32, f2 = upd pl t0.toNatClampNeg ((pl t0.toNatClampNeg) + 1) → Post f1 f2
set_option maxHeartbeats 4000000 in
set_option maxRecDepth 100000 in
theorem c_PR_append (l : Launch) (dC : Nat → ClassId) (dI : Nat → Nat → Nat) (cI cJ cZ cQ : ClassId) (a_pr a_codes a_lens : Nat) (sz : Nat) (pc pl : Nat → Int32) (t0 w0 p0 n0 : Int32) (Post : (Nat → Int32) → (Nat → Int32) → Prop) (h : wp_PR_append Post pc pl t0 w0 p0 n0) : Met l y_PR_append (.code y_PR_append b_PR_append 5 none :: jW) ({ frames := 10, cells := 0, slots := 0, locals := 150 } : Room) (jPre l (dC, dI) cI cJ cZ cQ [(a_pr, .inr (0, [.ref a_codes, .ref a_lens])), (a_codes, .inl (cI, 20, .inl pc)), (a_lens, .inl (cI, 4, .inl pl))] sz [.ref a_pr, .int t0, .int w0, .int p0, .int n0]) (jQ_PR_append dC dI cI cJ cZ cQ (va_A [(a_pr, .inr (0, [.ref a_codes, .ref a_lens])), (a_codes, .inl (cI, 20, .inl pc)), (a_lens, .inl (cI, 4, .inl pl))] sz) a_pr a_codes a_lens Post) 0 0 (va_A [(a_pr, .inr (0, [.ref a_codes, .ref a_lens])), (a_codes, .inl (cI, 20, .inl pc)), (a_lens, .inl (cI, 4, .inl pl))] sz) := by
  refine Met.ofW (cc := b_PR_append) (maxL := 5) (ret := none) (by decide) rfl ?_
  intro p e s m args below meth c s₁ B hml hv
  obtain ⟨rfl, hsz, hP, hK, hD0, hZ, hst⟩ := hv
  subst hsz
  have hD := hD0.self (sz := s.heap.size)
  generalize hAe : va_A [(a_pr, .inr (0, [.ref a_codes, .ref a_lens])), (a_codes, .inl (cI, 20, .inl pc)), (a_lens, .inl (cI, 4, .inl pl))] s.heap.size = A at hD hZ ⊢
  have hA : ∀ q : Nat, s.heap.size ≤ q → A q := fun q h => by rw [← hAe]; exact Or.inr h
  have C0 : jC p l s m ([.ref a_pr, .int t0, .int w0, .int p0, .int n0] : List Value).toArray meth c b_PR_append none 5 R_PR (dC, dI) cI cJ cZ cQ A := ⟨B.exec, B.bytes, B.returns, hml, findClass_of_methodNamed B.named, fun w hw => atoms_spec (ws := (.code y_PR_append b_PR_append 5 none :: jW)) B.pre w (List.mem_cons_of_mem _ hw), B.notSynchronized, hK, hZ, hA, hst⟩
  obtain ⟨hx, hb, hr, hml, hown, hts, hlocks, hK, hZ, hA, hst⟩ := id C0
  have hS : va_S A s.heap s.heap [] := va_S.rf
  have hl := lv_entry ([.ref a_pr, .int t0, .int w0, .int p0, .int n0]) (n := 5) (Nat.le_of_ble_eq_true rfl)
  rw [lg_entry_eq]
  generalize (lg_sl ([.ref a_pr, .int t0, .int w0, .int p0, .int n0]) ++ List.replicate (5 - (lg_sl ([.ref a_pr, .int t0, .int w0, .int p0, .int n0])).length) Slot.unset).toArray = ls at hl ⊢
  have hl : lv_has ls 5 [(0, .ref a_pr), (1, .int t0), (2, .int w0), (3, .int p0), (4, .int n0)] := hl
  obtain ⟨H, hH⟩ : ∃ H : Heap, H = s.heap := ⟨_, rfl⟩
  obtain ⟨locs, hlc⟩ : ∃ L : List Loc, L = [] := ⟨_, rfl⟩
  have hP : va_P (dC, dI) vwCl [(a_pr, .inr (0, [.ref a_codes, .ref a_lens])), (a_codes, .inl (cI, 20, .inl pc)), (a_lens, .inl (cI, 4, .inl pl))] H := by rw [hH]; exact hP
  have hS : va_S A s.heap H locs := by rw [hH, hlc]; exact hS
  suffices hW9 : W p l e ({ frames := 10, cells := 0, slots := 0, locals := 150 } : Room) s m ([.ref a_pr, .int t0, .int w0, .int p0, .int n0] : List Value).toArray below meth c H locs 0 0 (MQ below (jQ_PR_append dC dI cI cJ cZ cQ A a_pr a_codes a_lens Post) ([.ref a_pr, .int t0, .int w0, .int p0, .int n0] : List Value).toArray s 0 0 A) (F0 m 0 ls []) by rw [hH, hlc] at hW9; exact hW9
  clear hH hlc
  rw [wp_PR_append] at h
  refine lv_aload_n hx hb d_PR_append_0 rfl (lv_at hl 0 rfl) ?_
  refine va_get (D := (dC, dI)) (ci := 0) (v := .ref a_codes) (C := R_PR) (T := T_PR) (N := 2) hx hb hts in_PR hown hK hP 0 rfl rfl 0 (by decide) (hts _ mw_40) (fun _ h9 => h9) rfl d_PR_append_1 ?_
  refine lv_iload_n hx hb d_PR_append_4 rfl (lv_at hl 1 rfl) ?_
  refine lv_iconst (v := 5) hx hb d_PR_append_5 (by decide) ?_
  refine lv_imul hx hb d_PR_append_6 ?_
  refine lv_aload_n hx hb d_PR_append_7 rfl (lv_at hl 0 rfl) ?_
  refine va_get (D := (dC, dI)) (ci := 0) (v := .ref a_lens) (C := R_PR) (T := T_PR) (N := 2) hx hb hts in_PR hown hK hP 0 rfl rfl 1 (by decide) (hts _ mw_41) (fun _ h9 => h9) rfl d_PR_append_8 ?_
  refine lv_iload_n hx hb d_PR_append_11 rfl (lv_at hl 1 rfl) ?_
  refine va_iald hx hb hK hP 2 0 rfl rfl h.1 d_PR_append_12 ?_
  have h := h.2
  refine lv_iadd hx hb d_PR_append_13 ?_
  refine lv_iload_n hx hb d_PR_append_14 rfl (lv_at hl 2 rfl) ?_
  refine lv_iconst (v := 4) hx hb d_PR_append_15 (by decide) ?_
  refine lv_imul hx hb d_PR_append_16 ?_
  refine lv_iload_n hx hb d_PR_append_17 rfl (lv_at hl 3 rfl) ?_
  refine lv_iadd hx hb d_PR_append_18 ?_
  refine lv_iconst (v := 4) hx hb d_PR_append_19 (by decide) ?_
  refine lv_imul hx hb d_PR_append_20 ?_
  refine lv_iload hx hb d_PR_append_21 (lv_at hl 4 rfl) ?_
  refine lv_iadd hx hb d_PR_append_23 ?_
  refine va_iast hx hb hK hP hD hS 1 0 rfl rfl h.1 d_PR_append_24 (fun H locs hP hD hS => ?_)
  have h := h.2
  obtain ⟨f1, ef1⟩ : ∃ y : Nat → Int32, y = upd pc ((t0 * 5) + (pl t0.toNatClampNeg)).toNatClampNeg ((((w0 * 4) + p0) * 4) + n0) := ⟨_, rfl⟩
  rw [← ef1] at hP hD
  have h := h f1 ef1
  have hP : va_P (dC, dI) vwCl [(a_pr, .inr (0, [.ref a_codes, .ref a_lens])), (a_codes, .inl (cI, 20, .inl f1)), (a_lens, .inl (cI, 4, .inl pl))] H := hP
  have hD : va_D A [(a_pr, .inr (0, [.ref a_codes, .ref a_lens])), (a_codes, .inl (cI, 20, .inl f1)), (a_lens, .inl (cI, 4, .inl pl))] := hD
  refine lv_aload_n hx hb d_PR_append_25 rfl (lv_at hl 0 rfl) ?_
  refine va_get (D := (dC, dI)) (ci := 0) (v := .ref a_lens) (C := R_PR) (T := T_PR) (N := 2) hx hb hts in_PR hown hK hP 0 rfl rfl 1 (by decide) (hts _ mw_41) (fun _ h9 => h9) rfl d_PR_append_26 ?_
  refine lv_iload_n hx hb d_PR_append_29 rfl (lv_at hl 1 rfl) ?_
  refine lv_dup2_11 hx hb d_PR_append_30 rfl rfl ?_
  refine va_iald hx hb hK hP 2 0 rfl rfl h.1 d_PR_append_31 ?_
  have h := h.2
  refine lv_iconst (v := 1) hx hb d_PR_append_32 (by decide) ?_
  refine lv_iadd hx hb d_PR_append_33 ?_
  refine va_iast hx hb hK hP hD hS 2 0 rfl rfl h.1 d_PR_append_34 (fun H locs hP hD hS => ?_)
  have h := h.2
  obtain ⟨f2, ef2⟩ : ∃ y : Nat → Int32, y = upd pl t0.toNatClampNeg ((pl t0.toNatClampNeg) + 1) := ⟨_, rfl⟩
  rw [← ef2] at hP hD
  have h := h f2 ef2
  have hP : va_P (dC, dI) vwCl [(a_pr, .inr (0, [.ref a_codes, .ref a_lens])), (a_codes, .inl (cI, 20, .inl f1)), (a_lens, .inl (cI, 4, .inl f2))] H := hP
  have hD : va_D A [(a_pr, .inr (0, [.ref a_codes, .ref a_lens])), (a_codes, .inl (cI, 20, .inl f1)), (a_lens, .inl (cI, 4, .inl f2))] := hD
  have hP9 := hP
  have hD9 := hD
  exact W.vret hx hb hr (fun t ht hW => ⟨⟨(f1, f2), rfl, h, by rw [ht]; exact hP9, va_K.moved hW.alike hK, hD9⟩, hS.F ht⟩) hS.2.2 d_PR_append_35

/-- what OrderMachines$Program.dropAll()V leaves -/
abbrev jQ_PR_dropAll (dC : Nat → ClassId) (dI : Nat → Nat → Nat) (cI cJ cZ cQ : ClassId) (A : Nat → Prop) (a_pr a_codes a_lens : Nat) (Post : (Nat → Int32) → (Nat → Int32) → Prop) : Array Value → State → Outcome → State → Prop := va_Qv (fun (u : (Nat → Int32) × (Nat → Int32)) => Post u.1 u.2) (fun (u : (Nat → Int32) × (Nat → Int32)) (t : State) => match u with
  | (pc, pl) => jPost (dC, dI) (jT cI cJ cZ cQ) A [(a_pr, .inr (0, [.ref a_codes, .ref a_lens])), (a_codes, .inl (cI, 20, .inl pc)), (a_lens, .inl (cI, 4, .inl pl))] t) A
/-- OrderMachines$Program.dropAll()V -/
def wp_PR_dropAll (Post : (Nat → Int32) → (Nat → Int32) → Prop) (pc pl : Nat → Int32) : Prop :=
  wp_JA_fill_aII (fun (u2 : Nat → Int32) => Post pc u2) 4 pl 0
set_option maxHeartbeats 4000000 in
set_option maxRecDepth 100000 in
theorem c_PR_dropAll (l : Launch) (dC : Nat → ClassId) (dI : Nat → Nat → Nat) (cI cJ cZ cQ : ClassId) (a_pr a_codes a_lens : Nat) (sz : Nat) (pc pl : Nat → Int32) (Post : (Nat → Int32) → (Nat → Int32) → Prop) (h : wp_PR_dropAll Post pc pl) : Met l y_PR_dropAll (.code y_PR_dropAll b_PR_dropAll 1 none :: jW) ({ frames := 11, cells := 0, slots := 0, locals := 173 } : Room) (jPre l (dC, dI) cI cJ cZ cQ [(a_pr, .inr (0, [.ref a_codes, .ref a_lens])), (a_codes, .inl (cI, 20, .inl pc)), (a_lens, .inl (cI, 4, .inl pl))] sz [.ref a_pr]) (jQ_PR_dropAll dC dI cI cJ cZ cQ (va_A [(a_pr, .inr (0, [.ref a_codes, .ref a_lens])), (a_codes, .inl (cI, 20, .inl pc)), (a_lens, .inl (cI, 4, .inl pl))] sz) a_pr a_codes a_lens Post) 0 0 (va_A [(a_pr, .inr (0, [.ref a_codes, .ref a_lens])), (a_codes, .inl (cI, 20, .inl pc)), (a_lens, .inl (cI, 4, .inl pl))] sz) := by
  refine Met.ofW (cc := b_PR_dropAll) (maxL := 1) (ret := none) (by decide) rfl ?_
  intro p e s m args below meth c s₁ B hml hv
  obtain ⟨rfl, hsz, hP, hK, hD0, hZ, hst⟩ := hv
  subst hsz
  have hD := hD0.self (sz := s.heap.size)
  generalize hAe : va_A [(a_pr, .inr (0, [.ref a_codes, .ref a_lens])), (a_codes, .inl (cI, 20, .inl pc)), (a_lens, .inl (cI, 4, .inl pl))] s.heap.size = A at hD hZ ⊢
  have hA : ∀ q : Nat, s.heap.size ≤ q → A q := fun q h => by rw [← hAe]; exact Or.inr h
  have C0 : jC p l s m ([.ref a_pr] : List Value).toArray meth c b_PR_dropAll none 1 R_PR (dC, dI) cI cJ cZ cQ A := ⟨B.exec, B.bytes, B.returns, hml, findClass_of_methodNamed B.named, fun w hw => atoms_spec (ws := (.code y_PR_dropAll b_PR_dropAll 1 none :: jW)) B.pre w (List.mem_cons_of_mem _ hw), B.notSynchronized, hK, hZ, hA, hst⟩
  obtain ⟨hx, hb, hr, hml, hown, hts, hlocks, hK, hZ, hA, hst⟩ := id C0
  have hS : va_S A s.heap s.heap [] := va_S.rf
  have hl := lv_entry ([.ref a_pr]) (n := 1) (Nat.le_of_ble_eq_true rfl)
  rw [lg_entry_eq]
  generalize (lg_sl ([.ref a_pr]) ++ List.replicate (1 - (lg_sl ([.ref a_pr])).length) Slot.unset).toArray = ls at hl ⊢
  have hl : lv_has ls 1 [(0, .ref a_pr)] := hl
  obtain ⟨H, hH⟩ : ∃ H : Heap, H = s.heap := ⟨_, rfl⟩
  obtain ⟨locs, hlc⟩ : ∃ L : List Loc, L = [] := ⟨_, rfl⟩
  have hP : va_P (dC, dI) vwCl [(a_pr, .inr (0, [.ref a_codes, .ref a_lens])), (a_codes, .inl (cI, 20, .inl pc)), (a_lens, .inl (cI, 4, .inl pl))] H := by rw [hH]; exact hP
  have hS : va_S A s.heap H locs := by rw [hH, hlc]; exact hS
  suffices hW9 : W p l e ({ frames := 11, cells := 0, slots := 0, locals := 173 } : Room) s m ([.ref a_pr] : List Value).toArray below meth c H locs 0 0 (MQ below (jQ_PR_dropAll dC dI cI cJ cZ cQ A a_pr a_codes a_lens Post) ([.ref a_pr] : List Value).toArray s 0 0 A) (F0 m 0 ls []) by rw [hH, hlc] at hW9; exact hW9
  clear hH hlc
  rw [wp_PR_dropAll] at h
  refine lv_aload_n hx hb d_PR_dropAll_0 rfl (lv_at hl 0 rfl) ?_
  refine va_get (D := (dC, dI)) (ci := 0) (v := .ref a_lens) (C := R_PR) (T := T_PR) (N := 2) hx hb hts in_PR hown hK hP 0 rfl rfl 1 (by decide) (hts _ mw_41) (fun _ h9 => h9) rfl d_PR_dropAll_1 ?_
  refine lv_iconst (v := 0) hx hb d_PR_dropAll_4 (by decide) ?_
  have hPc := hP.sub (ws' := [(a_lens, .inl (cI, 4, .inl pl))]) [2] rfl
  have hDc := hD.sub (ws' := [(a_lens, .inl (cI, 4, .inl pl))]) [2] (by decide) rfl
  have hFc := va_free (wc := [(a_lens, .inl (cI, 4, .inl pl))]) hD hS hA [2] rfl
  refine va_callv (va_runS (As := [.ref a_lens, .int 0]) (rest := []) ⟨hx, hb, hml, hown, hts⟩ (c_JA_fill_aII l dC dI cI cJ cZ cQ a_lens 4 H.size pl 0 _  h) (va_cwS 2 hts (goodIn_app (jGl (List.forall_mem_cons.mpr ⟨mw_179, List.forall_mem_cons.mpr ⟨mw_180, List.forall_mem_cons.mpr ⟨mw_13, fun _ h => absurd h List.not_mem_nil⟩⟩⟩)) (jG mw_181)) rfl rfl rfl (by decide +kernel) ⟨Nat.le_of_ble_eq_true rfl, Nat.le_of_ble_eq_true rfl⟩) ⟨jPre_blind, jPre_in hPc hK hDc hZ hS hFc hst⟩ rfl rfl hl.1 rfl (lv_room (Nat.le_of_ble_eq_true rfl)) d_PR_dropAll_5 ⟨(Nat.zero_le _), (Nat.zero_le _)⟩) hS (fun q _ h => hFc q h) hFc (fun u t H1 locs ht hvm hw hB hz1 hk1 hS => ?_)
  obtain ⟨u2, rfl⟩ : ∃ z, z = u := ⟨_, rfl⟩
  obtain ⟨hP1, hK1, hD1⟩ := hB
  rw [ht] at hP1
  have h := hw
  obtain ⟨hP, hD⟩ := va_join (wr := [(a_pr, .inr (0, [.ref a_codes, .ref a_lens])), (a_codes, .inl (cI, 20, .inl pc))]) (w1 := [(a_lens, .inl (cI, 4, .inl u2))]) hP hD [2] [0, 1] rfl rfl (by decide) (by decide) hk1 hFc hP1 hD1
  generalize H1 = H at hP hS ⊢
  have hP : va_P (dC, dI) vwCl [(a_pr, .inr (0, [.ref a_codes, .ref a_lens])), (a_codes, .inl (cI, 20, .inl pc)), (a_lens, .inl (cI, 4, .inl u2))] H := hP
  have hD : va_D A [(a_pr, .inr (0, [.ref a_codes, .ref a_lens])), (a_codes, .inl (cI, 20, .inl pc)), (a_lens, .inl (cI, 4, .inl u2))] := hD
  have hP9 := hP
  have hD9 := hD
  exact W.vret hx hb hr (fun t ht hW => ⟨⟨(pc, u2), rfl, h, by rw [ht]; exact hP9, va_K.moved hW.alike hK, hD9⟩, hS.F ht⟩) hS.2.2 d_PR_dropAll_8

/-- what OrderMachines$Program.actionCount()I leaves -/
abbrev jQ_PR_actionCount (dC : Nat → ClassId) (dI : Nat → Nat → Nat) (cI cJ cZ cQ : ClassId) (A : Nat → Prop) (a_pr a_codes a_lens : Nat) (Post : Int32 → (Nat → Int32) → (Nat → Int32) → Prop) : Array Value → State → Outcome → State → Prop := va_Qi (fun (r : Int32) (u : (Nat → Int32) × (Nat → Int32)) => Post r u.1 u.2) (fun (u : (Nat → Int32) × (Nat → Int32)) (t : State) => match u with
  | (pc, pl) => jPost (dC, dI) (jT cI cJ cZ cQ) A [(a_pr, .inr (0, [.ref a_codes, .ref a_lens])), (a_codes, .inl (cI, 20, .inl pc)), (a_lens, .inl (cI, 4, .inl pl))] t) A
def wp_PR_actionCount_4 (Post : Int32 → (Nat → Int32) → (Nat → Int32) → Prop)  : Nat → (Nat → Int32) → (Nat → Int32) → Int32 → Int32 → Prop
  | 0, _, _, _, _ => False
  | n_4 + 1, pc, pl, L1, L2 =>
    ((4 ≤ L2 → Post L1 pc pl) ∧
    (¬ 4 ≤ L2 → vp_in L2 4 ∧ ∀ x1 : Int32, x1 = L1 + (pl L2.toNatClampNeg) → ∀ x2 : Int32, x2 = L2 + 1 → (wp_PR_actionCount_4 Post n_4) pc pl x1 x2))
/-- OrderMachines$Program.actionCount()I -/
def wp_PR_actionCount (Post : Int32 → (Nat → Int32) → (Nat → Int32) → Prop) (pc pl : Nat → Int32) : Prop :=
  (∃ n_4 : Nat, wp_PR_actionCount_4 Post n_4 pc pl 0 0)
set_option maxHeartbeats 4000000 in
set_option maxRecDepth 100000 in
theorem l_PR_actionCount_4 {p : Program} {l : Launch} {e : Env} {s : State} {m : MethodId} {args : Array Value} {below : List Frame} {meth : Method} {c : Code} {dC : Nat → ClassId} {dI : Nat → Nat → Nat} {cI cJ cZ cQ : ClassId} {a_pr a_codes a_lens : Nat} {A : Nat → Prop} {Post : Int32 → (Nat → Int32) → (Nat → Int32) → Prop} (C0 : jC p l s m args meth c b_PR_actionCount (some .int) 3 R_PR (dC, dI) cI cJ cZ cQ A)  : ∀ n9 : Nat, ∀ (pc pl : Nat → Int32) (L1 L2 : Int32), ∀ (H : Heap) (locs : List Loc) (ls : Array Slot), wp_PR_actionCount_4 Post  n9 pc pl L1 L2 → va_P (dC, dI) vwCl [(a_pr, .inr (0, [.ref a_codes, .ref a_lens])), (a_codes, .inl (cI, 20, .inl pc)), (a_lens, .inl (cI, 4, .inl pl))] H → va_D A [(a_pr, .inr (0, [.ref a_codes, .ref a_lens])), (a_codes, .inl (cI, 20, .inl pc)), (a_lens, .inl (cI, 4, .inl pl))] → va_S A s.heap H locs → lv_has ls 3 [(0, .ref a_pr), (1, .int L1), (2, .int L2)] → W p l e ({ frames := 10, cells := 0, slots := 0, locals := 150 } : Room) s m args below meth c H locs 0 0 (MQ below (jQ_PR_actionCount dC dI cI cJ cZ cQ A a_pr a_codes a_lens Post) args s 0 0 A) (F0 m 4 ls []) := by
  obtain ⟨hx, hb, hr, hml, hown, hts, hlocks, hK, hZ, hA, hst⟩ := id C0
  intro n9
  induction n9 with
  | zero =>
    intro pc pl L1 L2 H locs ls h hP hD hS hl
    exact False.elim h
  | succ n_4 ih =>
    intro pc pl L1 L2 H locs ls h hP hD hS hl
    rw [wp_PR_actionCount_4] at h
    refine lv_iload_n hx hb d_PR_actionCount_4 rfl (lv_at hl 2 rfl) ?_
    refine lv_iconst (v := 4) hx hb d_PR_actionCount_5 (by decide) ?_
    refine lv_icmp_ge (tgt := 24) hx hb d_PR_actionCount_6 (by decide) (fun c6 => ?_) (fun c6 => ?_)
    · have h := h.1 c6
      refine lv_iload_n hx hb d_PR_actionCount_24 rfl (lv_at hl 1 rfl) ?_
      have hP9 := hP
      have hD9 := hD
      exact W.iret (v := L1) hx hb hr (fun t ht hW => ⟨⟨L1, (pc, pl), rfl, h, by rw [ht]; exact hP9, va_K.moved hW.alike hK, hD9⟩, hS.F ht⟩) hS.2.2 d_PR_actionCount_25
    · have h := h.2 c6
      refine lv_iload_n hx hb d_PR_actionCount_9 rfl (lv_at hl 1 rfl) ?_
      refine lv_aload_n hx hb d_PR_actionCount_10 rfl (lv_at hl 0 rfl) ?_
      refine va_get (D := (dC, dI)) (ci := 0) (v := .ref a_lens) (C := R_PR) (T := T_PR) (N := 2) hx hb hts in_PR hown hK hP 0 rfl rfl 1 (by decide) (hts _ mw_41) (fun _ h9 => h9) rfl d_PR_actionCount_11 ?_
      refine lv_iload_n hx hb d_PR_actionCount_14 rfl (lv_at hl 2 rfl) ?_
      refine va_iald hx hb hK hP 2 0 rfl rfl h.1 d_PR_actionCount_15 ?_
      have h := h.2
      refine lv_iadd hx hb d_PR_actionCount_16 ?_
      refine lv_topi (fun x1 ex1 => ?_)
      have h := h x1 ex1
      refine lv_istore_n (lv' := [(1, .int x1), (0, .ref a_pr), (2, .int L2)]) hx hb d_PR_actionCount_17 rfl hl (by decide) rfl (fun ls hl => ?_)
      obtain ⟨x2, ex2⟩ : ∃ y : Int32, y = L2 + 1 := ⟨_, rfl⟩
      have h := h x2 ex2
      refine lv_iinc (v := x2) (lv' := [(2, .int x2), (1, .int x1), (0, .ref a_pr)]) hx hb d_PR_actionCount_18 hl (k := 2) rfl (by rw [ex2]; rfl) (by decide) rfl (fun ls hl => ?_)
      refine lv_goto (tgt := 4) hx hb d_PR_actionCount_21 (by decide) ?_
      exact ih pc pl x1 x2  H locs ls h hP hD hS (lv_sub hl [2, 1, 0] rfl)
set_option maxHeartbeats 4000000 in
set_option maxRecDepth 100000 in
theorem c_PR_actionCount (l : Launch) (dC : Nat → ClassId) (dI : Nat → Nat → Nat) (cI cJ cZ cQ : ClassId) (a_pr a_codes a_lens : Nat) (sz : Nat) (pc pl : Nat → Int32) (Post : Int32 → (Nat → Int32) → (Nat → Int32) → Prop) (h : wp_PR_actionCount Post pc pl) : Met l y_PR_actionCount (.code y_PR_actionCount b_PR_actionCount 3 (some .int) :: jW) ({ frames := 10, cells := 0, slots := 0, locals := 150 } : Room) (jPre l (dC, dI) cI cJ cZ cQ [(a_pr, .inr (0, [.ref a_codes, .ref a_lens])), (a_codes, .inl (cI, 20, .inl pc)), (a_lens, .inl (cI, 4, .inl pl))] sz [.ref a_pr]) (jQ_PR_actionCount dC dI cI cJ cZ cQ (va_A [(a_pr, .inr (0, [.ref a_codes, .ref a_lens])), (a_codes, .inl (cI, 20, .inl pc)), (a_lens, .inl (cI, 4, .inl pl))] sz) a_pr a_codes a_lens Post) 0 0 (va_A [(a_pr, .inr (0, [.ref a_codes, .ref a_lens])), (a_codes, .inl (cI, 20, .inl pc)), (a_lens, .inl (cI, 4, .inl pl))] sz) := by
  refine Met.ofW (cc := b_PR_actionCount) (maxL := 3) (ret := (some .int)) (by decide) rfl ?_
  intro p e s m args below meth c s₁ B hml hv
  obtain ⟨rfl, hsz, hP, hK, hD0, hZ, hst⟩ := hv
  subst hsz
  have hD := hD0.self (sz := s.heap.size)
  generalize hAe : va_A [(a_pr, .inr (0, [.ref a_codes, .ref a_lens])), (a_codes, .inl (cI, 20, .inl pc)), (a_lens, .inl (cI, 4, .inl pl))] s.heap.size = A at hD hZ ⊢
  have hA : ∀ q : Nat, s.heap.size ≤ q → A q := fun q h => by rw [← hAe]; exact Or.inr h
  have C0 : jC p l s m ([.ref a_pr] : List Value).toArray meth c b_PR_actionCount (some .int) 3 R_PR (dC, dI) cI cJ cZ cQ A := ⟨B.exec, B.bytes, B.returns, hml, findClass_of_methodNamed B.named, fun w hw => atoms_spec (ws := (.code y_PR_actionCount b_PR_actionCount 3 (some .int) :: jW)) B.pre w (List.mem_cons_of_mem _ hw), B.notSynchronized, hK, hZ, hA, hst⟩
  obtain ⟨hx, hb, hr, hml, hown, hts, hlocks, hK, hZ, hA, hst⟩ := id C0
  have hS : va_S A s.heap s.heap [] := va_S.rf
  have hl := lv_entry ([.ref a_pr]) (n := 3) (Nat.le_of_ble_eq_true rfl)
  rw [lg_entry_eq]
  generalize (lg_sl ([.ref a_pr]) ++ List.replicate (3 - (lg_sl ([.ref a_pr])).length) Slot.unset).toArray = ls at hl ⊢
  have hl : lv_has ls 3 [(0, .ref a_pr)] := hl
  obtain ⟨H, hH⟩ : ∃ H : Heap, H = s.heap := ⟨_, rfl⟩
  obtain ⟨locs, hlc⟩ : ∃ L : List Loc, L = [] := ⟨_, rfl⟩
  have hP : va_P (dC, dI) vwCl [(a_pr, .inr (0, [.ref a_codes, .ref a_lens])), (a_codes, .inl (cI, 20, .inl pc)), (a_lens, .inl (cI, 4, .inl pl))] H := by rw [hH]; exact hP
  have hS : va_S A s.heap H locs := by rw [hH, hlc]; exact hS
  suffices hW9 : W p l e ({ frames := 10, cells := 0, slots := 0, locals := 150 } : Room) s m ([.ref a_pr] : List Value).toArray below meth c H locs 0 0 (MQ below (jQ_PR_actionCount dC dI cI cJ cZ cQ A a_pr a_codes a_lens Post) ([.ref a_pr] : List Value).toArray s 0 0 A) (F0 m 0 ls []) by rw [hH, hlc] at hW9; exact hW9
  clear hH hlc
  rw [wp_PR_actionCount] at h
  refine lv_iconst (v := 0) hx hb d_PR_actionCount_0 (by decide) ?_
  refine lv_istore_n (lv' := [(1, .int 0), (0, .ref a_pr)]) hx hb d_PR_actionCount_1 rfl hl (by decide) rfl (fun ls hl => ?_)
  refine lv_iconst (v := 0) hx hb d_PR_actionCount_2 (by decide) ?_
  refine lv_istore_n (lv' := [(2, .int 0), (1, .int 0), (0, .ref a_pr)]) hx hb d_PR_actionCount_3 rfl hl (by decide) rfl (fun ls hl => ?_)
  obtain ⟨n_4, h⟩ := h
  exact l_PR_actionCount_4 C0  n_4 pc pl 0 0  H locs ls h hP hD hS (lv_sub hl [2, 1, 0] rfl)

/-- what OrderMachines$Program.threadCount()I leaves -/
abbrev jQ_PR_threadCount (dC : Nat → ClassId) (dI : Nat → Nat → Nat) (cI cJ cZ cQ : ClassId) (A : Nat → Prop) (a_pr a_codes a_lens : Nat) (Post : Int32 → (Nat → Int32) → (Nat → Int32) → Prop) : Array Value → State → Outcome → State → Prop := va_Qi (fun (r : Int32) (u : (Nat → Int32) × (Nat → Int32)) => Post r u.1 u.2) (fun (u : (Nat → Int32) × (Nat → Int32)) (t : State) => match u with
  | (pc, pl) => jPost (dC, dI) (jT cI cJ cZ cQ) A [(a_pr, .inr (0, [.ref a_codes, .ref a_lens])), (a_codes, .inl (cI, 20, .inl pc)), (a_lens, .inl (cI, 4, .inl pl))] t) A
def wp_PR_threadCount_24 (Post : Int32 → (Nat → Int32) → (Nat → Int32) → Prop) (K4 : (Nat → Int32) → (Nat → Int32) → Int32 → Int32 → Prop) (pc pl : Nat → Int32) (L2 S0 S1 : Int32) : Prop :=
    ∀ x1 : Int32, x1 = S1 + S0 → ∀ x2 : Int32, x2 = L2 + 1 → K4 pc pl x1 x2
def wp_PR_threadCount_4 (Post : Int32 → (Nat → Int32) → (Nat → Int32) → Prop)  : Nat → (Nat → Int32) → (Nat → Int32) → Int32 → Int32 → Prop
  | 0, _, _, _, _ => False
  | n_4 + 1, pc, pl, L1, L2 =>
    ((4 ≤ L2 → Post L1 pc pl) ∧
    (¬ 4 ≤ L2 → vp_in L2 4 ∧ (((pl L2.toNatClampNeg) ≤ 0 → wp_PR_threadCount_24 Post (fun (pc : Nat → Int32) (pl : Nat → Int32) (L1 : Int32) (L2 : Int32) => wp_PR_threadCount_4 Post n_4 pc pl L1 L2) pc pl L2 0 L1) ∧
      (¬ (pl L2.toNatClampNeg) ≤ 0 → wp_PR_threadCount_24 Post (fun (pc : Nat → Int32) (pl : Nat → Int32) (L1 : Int32) (L2 : Int32) => wp_PR_threadCount_4 Post n_4 pc pl L1 L2) pc pl L2 1 L1))))
/-- OrderMachines$Program.threadCount()I -/
def wp_PR_threadCount (Post : Int32 → (Nat → Int32) → (Nat → Int32) → Prop) (pc pl : Nat → Int32) : Prop :=
  (∃ n_4 : Nat, wp_PR_threadCount_4 Post n_4 pc pl 0 0)
set_option maxHeartbeats 4000000 in
set_option maxRecDepth 100000 in
theorem l_PR_threadCount_24 {p : Program} {l : Launch} {e : Env} {s : State} {m : MethodId} {args : Array Value} {below : List Frame} {meth : Method} {c : Code} {dC : Nat → ClassId} {dI : Nat → Nat → Nat} {cI cJ cZ cQ : ClassId} {a_pr a_codes a_lens : Nat} {A : Nat → Prop} {Post : Int32 → (Nat → Int32) → (Nat → Int32) → Prop} (C0 : jC p l s m args meth c b_PR_threadCount (some .int) 3 R_PR (dC, dI) cI cJ cZ cQ A) (K4 : (Nat → Int32) → (Nat → Int32) → Int32 → Int32 → Prop) (hK4 : ∀ (pc pl : Nat → Int32) (L1 L2 : Int32), ∀ (H : Heap) (locs : List Loc) (ls : Array Slot), K4 pc pl L1 L2 → va_P (dC, dI) vwCl [(a_pr, .inr (0, [.ref a_codes, .ref a_lens])), (a_codes, .inl (cI, 20, .inl pc)), (a_lens, .inl (cI, 4, .inl pl))] H → va_D A [(a_pr, .inr (0, [.ref a_codes, .ref a_lens])), (a_codes, .inl (cI, 20, .inl pc)), (a_lens, .inl (cI, 4, .inl pl))] → va_S A s.heap H locs → lv_has ls 3 [(0, .ref a_pr), (1, .int L1), (2, .int L2)] → W p l e ({ frames := 10, cells := 0, slots := 0, locals := 150 } : Room) s m args below meth c H locs 0 0 (MQ below (jQ_PR_threadCount dC dI cI cJ cZ cQ A a_pr a_codes a_lens Post) args s 0 0 A) (F0 m 4 ls [])) : ∀ (pc pl : Nat → Int32) (L2 S0 S1 : Int32), ∀ (H : Heap) (locs : List Loc) (ls : Array Slot), wp_PR_threadCount_24 Post K4 pc pl L2 S0 S1 → va_P (dC, dI) vwCl [(a_pr, .inr (0, [.ref a_codes, .ref a_lens])), (a_codes, .inl (cI, 20, .inl pc)), (a_lens, .inl (cI, 4, .inl pl))] H → va_D A [(a_pr, .inr (0, [.ref a_codes, .ref a_lens])), (a_codes, .inl (cI, 20, .inl pc)), (a_lens, .inl (cI, 4, .inl pl))] → va_S A s.heap H locs → lv_has ls 3 [(0, .ref a_pr), (2, .int L2)] → W p l e ({ frames := 10, cells := 0, slots := 0, locals := 150 } : Room) s m args below meth c H locs 0 0 (MQ below (jQ_PR_threadCount dC dI cI cJ cZ cQ A a_pr a_codes a_lens Post) args s 0 0 A) (F0 m 24 ls [.int S0, .int S1]) := by
  obtain ⟨hx, hb, hr, hml, hown, hts, hlocks, hK, hZ, hA, hst⟩ := id C0
  intro pc pl L2 S0 S1 H locs ls h hP hD hS hl
  rw [wp_PR_threadCount_24] at h
  refine lv_iadd hx hb d_PR_threadCount_24 ?_
  refine lv_topi (fun x1 ex1 => ?_)
  have h := h x1 ex1
  refine lv_istore_n (lv' := [(1, .int x1), (0, .ref a_pr), (2, .int L2)]) hx hb d_PR_threadCount_25 rfl hl (by decide) rfl (fun ls hl => ?_)
  obtain ⟨x2, ex2⟩ : ∃ y : Int32, y = L2 + 1 := ⟨_, rfl⟩
  have h := h x2 ex2
  refine lv_iinc (v := x2) (lv' := [(2, .int x2), (1, .int x1), (0, .ref a_pr)]) hx hb d_PR_threadCount_26 hl (k := 2) rfl (by rw [ex2]; rfl) (by decide) rfl (fun ls hl => ?_)
  refine lv_goto (tgt := 4) hx hb d_PR_threadCount_29 (by decide) ?_
  exact hK4 pc pl x1 x2  H locs ls h hP hD hS (lv_sub hl [2, 1, 0] rfl)
set_option maxHeartbeats 4000000 in
set_option maxRecDepth 100000 in
theorem l_PR_threadCount_4 {p : Program} {l : Launch} {e : Env} {s : State} {m : MethodId} {args : Array Value} {below : List Frame} {meth : Method} {c : Code} {dC : Nat → ClassId} {dI : Nat → Nat → Nat} {cI cJ cZ cQ : ClassId} {a_pr a_codes a_lens : Nat} {A : Nat → Prop} {Post : Int32 → (Nat → Int32) → (Nat → Int32) → Prop} (C0 : jC p l s m args meth c b_PR_threadCount (some .int) 3 R_PR (dC, dI) cI cJ cZ cQ A)  : ∀ n9 : Nat, ∀ (pc pl : Nat → Int32) (L1 L2 : Int32), ∀ (H : Heap) (locs : List Loc) (ls : Array Slot), wp_PR_threadCount_4 Post  n9 pc pl L1 L2 → va_P (dC, dI) vwCl [(a_pr, .inr (0, [.ref a_codes, .ref a_lens])), (a_codes, .inl (cI, 20, .inl pc)), (a_lens, .inl (cI, 4, .inl pl))] H → va_D A [(a_pr, .inr (0, [.ref a_codes, .ref a_lens])), (a_codes, .inl (cI, 20, .inl pc)), (a_lens, .inl (cI, 4, .inl pl))] → va_S A s.heap H locs → lv_has ls 3 [(0, .ref a_pr), (1, .int L1), (2, .int L2)] → W p l e ({ frames := 10, cells := 0, slots := 0, locals := 150 } : Room) s m args below meth c H locs 0 0 (MQ below (jQ_PR_threadCount dC dI cI cJ cZ cQ A a_pr a_codes a_lens Post) args s 0 0 A) (F0 m 4 ls []) := by
  obtain ⟨hx, hb, hr, hml, hown, hts, hlocks, hK, hZ, hA, hst⟩ := id C0
  intro n9
  induction n9 with
  | zero =>
    intro pc pl L1 L2 H locs ls h hP hD hS hl
    exact False.elim h
  | succ n_4 ih =>
    intro pc pl L1 L2 H locs ls h hP hD hS hl
    rw [wp_PR_threadCount_4] at h
    refine lv_iload_n hx hb d_PR_threadCount_4 rfl (lv_at hl 2 rfl) ?_
    refine lv_iconst (v := 4) hx hb d_PR_threadCount_5 (by decide) ?_
    refine lv_icmp_ge (tgt := 32) hx hb d_PR_threadCount_6 (by decide) (fun c6 => ?_) (fun c6 => ?_)
    · have h := h.1 c6
      refine lv_iload_n hx hb d_PR_threadCount_32 rfl (lv_at hl 1 rfl) ?_
      have hP9 := hP
      have hD9 := hD
      exact W.iret (v := L1) hx hb hr (fun t ht hW => ⟨⟨L1, (pc, pl), rfl, h, by rw [ht]; exact hP9, va_K.moved hW.alike hK, hD9⟩, hS.F ht⟩) hS.2.2 d_PR_threadCount_33
    · have h := h.2 c6
      refine lv_iload_n hx hb d_PR_threadCount_9 rfl (lv_at hl 1 rfl) ?_
      refine lv_aload_n hx hb d_PR_threadCount_10 rfl (lv_at hl 0 rfl) ?_
      refine va_get (D := (dC, dI)) (ci := 0) (v := .ref a_lens) (C := R_PR) (T := T_PR) (N := 2) hx hb hts in_PR hown hK hP 0 rfl rfl 1 (by decide) (hts _ mw_41) (fun _ h9 => h9) rfl d_PR_threadCount_11 ?_
      refine lv_iload_n hx hb d_PR_threadCount_14 rfl (lv_at hl 2 rfl) ?_
      refine va_iald hx hb hK hP 2 0 rfl rfl h.1 d_PR_threadCount_15 ?_
      have h := h.2
      refine lv_if_le (tgt := 23) hx hb d_PR_threadCount_16 (by decide) (fun c16 => ?_) (fun c16 => ?_)
      · have h := h.1 c16
        refine lv_iconst (v := 0) hx hb d_PR_threadCount_23 (by decide) ?_
        exact l_PR_threadCount_24 C0 (fun (pc : Nat → Int32) (pl : Nat → Int32) (L1 : Int32) (L2 : Int32) => wp_PR_threadCount_4 Post n_4 pc pl L1 L2) ih pc pl L2 0 L1  H locs ls h hP hD hS (lv_sub hl [0, 2] rfl)
      · have h := h.2 c16
        refine lv_iconst (v := 1) hx hb d_PR_threadCount_19 (by decide) ?_
        refine lv_goto (tgt := 24) hx hb d_PR_threadCount_20 (by decide) ?_
        exact l_PR_threadCount_24 C0 (fun (pc : Nat → Int32) (pl : Nat → Int32) (L1 : Int32) (L2 : Int32) => wp_PR_threadCount_4 Post n_4 pc pl L1 L2) ih pc pl L2 1 L1  H locs ls h hP hD hS (lv_sub hl [0, 2] rfl)
set_option maxHeartbeats 4000000 in
set_option maxRecDepth 100000 in
theorem c_PR_threadCount (l : Launch) (dC : Nat → ClassId) (dI : Nat → Nat → Nat) (cI cJ cZ cQ : ClassId) (a_pr a_codes a_lens : Nat) (sz : Nat) (pc pl : Nat → Int32) (Post : Int32 → (Nat → Int32) → (Nat → Int32) → Prop) (h : wp_PR_threadCount Post pc pl) : Met l y_PR_threadCount (.code y_PR_threadCount b_PR_threadCount 3 (some .int) :: jW) ({ frames := 10, cells := 0, slots := 0, locals := 150 } : Room) (jPre l (dC, dI) cI cJ cZ cQ [(a_pr, .inr (0, [.ref a_codes, .ref a_lens])), (a_codes, .inl (cI, 20, .inl pc)), (a_lens, .inl (cI, 4, .inl pl))] sz [.ref a_pr]) (jQ_PR_threadCount dC dI cI cJ cZ cQ (va_A [(a_pr, .inr (0, [.ref a_codes, .ref a_lens])), (a_codes, .inl (cI, 20, .inl pc)), (a_lens, .inl (cI, 4, .inl pl))] sz) a_pr a_codes a_lens Post) 0 0 (va_A [(a_pr, .inr (0, [.ref a_codes, .ref a_lens])), (a_codes, .inl (cI, 20, .inl pc)), (a_lens, .inl (cI, 4, .inl pl))] sz) := by
  refine Met.ofW (cc := b_PR_threadCount) (maxL := 3) (ret := (some .int)) (by decide) rfl ?_
  intro p e s m args below meth c s₁ B hml hv
  obtain ⟨rfl, hsz, hP, hK, hD0, hZ, hst⟩ := hv
  subst hsz
  have hD := hD0.self (sz := s.heap.size)
  generalize hAe : va_A [(a_pr, .inr (0, [.ref a_codes, .ref a_lens])), (a_codes, .inl (cI, 20, .inl pc)), (a_lens, .inl (cI, 4, .inl pl))] s.heap.size = A at hD hZ ⊢
  have hA : ∀ q : Nat, s.heap.size ≤ q → A q := fun q h => by rw [← hAe]; exact Or.inr h
  have C0 : jC p l s m ([.ref a_pr] : List Value).toArray meth c b_PR_threadCount (some .int) 3 R_PR (dC, dI) cI cJ cZ cQ A := ⟨B.exec, B.bytes, B.returns, hml, findClass_of_methodNamed B.named, fun w hw => atoms_spec (ws := (.code y_PR_threadCount b_PR_threadCount 3 (some .int) :: jW)) B.pre w (List.mem_cons_of_mem _ hw), B.notSynchronized, hK, hZ, hA, hst⟩
  obtain ⟨hx, hb, hr, hml, hown, hts, hlocks, hK, hZ, hA, hst⟩ := id C0
  have hS : va_S A s.heap s.heap [] := va_S.rf
  have hl := lv_entry ([.ref a_pr]) (n := 3) (Nat.le_of_ble_eq_true rfl)
  rw [lg_entry_eq]
  generalize (lg_sl ([.ref a_pr]) ++ List.replicate (3 - (lg_sl ([.ref a_pr])).length) Slot.unset).toArray = ls at hl ⊢
  have hl : lv_has ls 3 [(0, .ref a_pr)] := hl
  obtain ⟨H, hH⟩ : ∃ H : Heap, H = s.heap := ⟨_, rfl⟩
  obtain ⟨locs, hlc⟩ : ∃ L : List Loc, L = [] := ⟨_, rfl⟩
  have hP : va_P (dC, dI) vwCl [(a_pr, .inr (0, [.ref a_codes, .ref a_lens])), (a_codes, .inl (cI, 20, .inl pc)), (a_lens, .inl (cI, 4, .inl pl))] H := by rw [hH]; exact hP
  have hS : va_S A s.heap H locs := by rw [hH, hlc]; exact hS
  suffices hW9 : W p l e ({ frames := 10, cells := 0, slots := 0, locals := 150 } : Room) s m ([.ref a_pr] : List Value).toArray below meth c H locs 0 0 (MQ below (jQ_PR_threadCount dC dI cI cJ cZ cQ A a_pr a_codes a_lens Post) ([.ref a_pr] : List Value).toArray s 0 0 A) (F0 m 0 ls []) by rw [hH, hlc] at hW9; exact hW9
  clear hH hlc
  rw [wp_PR_threadCount] at h
  refine lv_iconst (v := 0) hx hb d_PR_threadCount_0 (by decide) ?_
  refine lv_istore_n (lv' := [(1, .int 0), (0, .ref a_pr)]) hx hb d_PR_threadCount_1 rfl hl (by decide) rfl (fun ls hl => ?_)
  refine lv_iconst (v := 0) hx hb d_PR_threadCount_2 (by decide) ?_
  refine lv_istore_n (lv' := [(2, .int 0), (1, .int 0), (0, .ref a_pr)]) hx hb d_PR_threadCount_3 rfl hl (by decide) rfl (fun ls hl => ?_)
  obtain ⟨n_4, h⟩ := h
  exact l_PR_threadCount_4 C0  n_4 pc pl 0 0  H locs ls h hP hD hS (lv_sub hl [2, 1, 0] rfl)

/-- what OrderMachines$Program.countOf(I)I leaves -/
abbrev jQ_PR_countOf (dC : Nat → ClassId) (dI : Nat → Nat → Nat) (cI cJ cZ cQ : ClassId) (A : Nat → Prop) (a_pr a_codes a_lens : Nat) (Post : Int32 → (Nat → Int32) → (Nat → Int32) → Prop) : Array Value → State → Outcome → State → Prop := va_Qi (fun (r : Int32) (u : (Nat → Int32) × (Nat → Int32)) => Post r u.1 u.2) (fun (u : (Nat → Int32) × (Nat → Int32)) (t : State) => match u with
  | (pc, pl) => jPost (dC, dI) (jT cI cJ cZ cQ) A [(a_pr, .inr (0, [.ref a_codes, .ref a_lens])), (a_codes, .inl (cI, 20, .inl pc)), (a_lens, .inl (cI, 4, .inl pl))] t) A
def wp_PR_countOf_43 (Post : Int32 → (Nat → Int32) → (Nat → Int32) → Prop) (K4 : (Nat → Int32) → (Nat → Int32) → Int32 → Int32 → Int32 → Prop) (K12 : (Nat → Int32) → (Nat → Int32) → Int32 → Int32 → Int32 → Int32 → Prop) (pc pl : Nat → Int32) (L1 L3 L4 S0 S1 : Int32) : Prop :=
    ∀ x5 : Int32, x5 = S1 + S0 → ∀ x6 : Int32, x6 = L4 + 1 → K12 pc pl L1 x5 L3 x6
def wp_PR_countOf_12 (Post : Int32 → (Nat → Int32) → (Nat → Int32) → Prop) (K4 : (Nat → Int32) → (Nat → Int32) → Int32 → Int32 → Int32 → Prop) : Nat → (Nat → Int32) → (Nat → Int32) → Int32 → Int32 → Int32 → Int32 → Prop
  | 0, _, _, _, _, _, _ => False
  | n_12 + 1, pc, pl, L1, L2, L3, L4 =>
    vp_in L3 4 ∧ (((pl L3.toNatClampNeg) ≤ L4 → ∀ x1 : Int32, x1 = L3 + 1 → K4 pc pl L1 L2 x1) ∧
    (¬ (pl L3.toNatClampNeg) ≤ L4 → wp_PR_codeOf (fun (r2 : Int32) (u3 : Nat → Int32) (u4 : Nat → Int32) => ((¬ (r2 / 16) = L1 → wp_PR_countOf_43 Post K4 (fun (pc : Nat → Int32) (pl : Nat → Int32) (L1 : Int32) (L2 : Int32) (L3 : Int32) (L4 : Int32) => wp_PR_countOf_12 Post K4 n_12 pc pl L1 L2 L3 L4) u3 u4 L1 L3 L4 0 L2) ∧
      ((r2 / 16) = L1 → wp_PR_countOf_43 Post K4 (fun (pc : Nat → Int32) (pl : Nat → Int32) (L1 : Int32) (L2 : Int32) (L3 : Int32) (L4 : Int32) => wp_PR_countOf_12 Post K4 n_12 pc pl L1 L2 L3 L4) u3 u4 L1 L3 L4 1 L2))) pc pl L3 L4))
def wp_PR_countOf_4 (Post : Int32 → (Nat → Int32) → (Nat → Int32) → Prop)  : Nat → (Nat → Int32) → (Nat → Int32) → Int32 → Int32 → Int32 → Prop
  | 0, _, _, _, _, _ => False
  | n_4 + 1, pc, pl, L1, L2, L3 =>
    ((4 ≤ L3 → Post L2 pc pl) ∧
    (¬ 4 ≤ L3 → (∃ n_12 : Nat, wp_PR_countOf_12 Post (fun (pc : Nat → Int32) (pl : Nat → Int32) (L1 : Int32) (L2 : Int32) (L3 : Int32) => wp_PR_countOf_4 Post n_4 pc pl L1 L2 L3) n_12 pc pl L1 L2 L3 0)))
/-- OrderMachines$Program.countOf(I)I -/
def wp_PR_countOf (Post : Int32 → (Nat → Int32) → (Nat → Int32) → Prop) (pc pl : Nat → Int32) (w0 : Int32) : Prop :=
  (∃ n_4 : Nat, wp_PR_countOf_4 Post n_4 pc pl w0 0 0)
set_option maxHeartbeats 4000000 in
set_option maxRecDepth 100000 in
theorem l_PR_countOf_43 {p : Program} {l : Launch} {e : Env} {s : State} {m : MethodId} {args : Array Value} {below : List Frame} {meth : Method} {c : Code} {dC : Nat → ClassId} {dI : Nat → Nat → Nat} {cI cJ cZ cQ : ClassId} {a_pr a_codes a_lens : Nat} {A : Nat → Prop} {Post : Int32 → (Nat → Int32) → (Nat → Int32) → Prop} (C0 : jC p l s m args meth c b_PR_countOf (some .int) 5 R_PR (dC, dI) cI cJ cZ cQ A) (K4 : (Nat → Int32) → (Nat → Int32) → Int32 → Int32 → Int32 → Prop) (hK4 : ∀ (pc pl : Nat → Int32) (L1 L2 L3 : Int32), ∀ (H : Heap) (locs : List Loc) (ls : Array Slot), K4 pc pl L1 L2 L3 → va_P (dC, dI) vwCl [(a_pr, .inr (0, [.ref a_codes, .ref a_lens])), (a_codes, .inl (cI, 20, .inl pc)), (a_lens, .inl (cI, 4, .inl pl))] H → va_D A [(a_pr, .inr (0, [.ref a_codes, .ref a_lens])), (a_codes, .inl (cI, 20, .inl pc)), (a_lens, .inl (cI, 4, .inl pl))] → va_S A s.heap H locs → lv_has ls 5 [(0, .ref a_pr), (1, .int L1), (2, .int L2), (3, .int L3)] → W p l e ({ frames := 11, cells := 0, slots := 0, locals := 172 } : Room) s m args below meth c H locs 0 0 (MQ below (jQ_PR_countOf dC dI cI cJ cZ cQ A a_pr a_codes a_lens Post) args s 0 0 A) (F0 m 4 ls [])) (K12 : (Nat → Int32) → (Nat → Int32) → Int32 → Int32 → Int32 → Int32 → Prop) (hK12 : ∀ (pc pl : Nat → Int32) (L1 L2 L3 L4 : Int32), ∀ (H : Heap) (locs : List Loc) (ls : Array Slot), K12 pc pl L1 L2 L3 L4 → va_P (dC, dI) vwCl [(a_pr, .inr (0, [.ref a_codes, .ref a_lens])), (a_codes, .inl (cI, 20, .inl pc)), (a_lens, .inl (cI, 4, .inl pl))] H → va_D A [(a_pr, .inr (0, [.ref a_codes, .ref a_lens])), (a_codes, .inl (cI, 20, .inl pc)), (a_lens, .inl (cI, 4, .inl pl))] → va_S A s.heap H locs → lv_has ls 5 [(0, .ref a_pr), (1, .int L1), (2, .int L2), (3, .int L3), (4, .int L4)] → W p l e ({ frames := 11, cells := 0, slots := 0, locals := 172 } : Room) s m args below meth c H locs 0 0 (MQ below (jQ_PR_countOf dC dI cI cJ cZ cQ A a_pr a_codes a_lens Post) args s 0 0 A) (F0 m 12 ls [])) : ∀ (pc pl : Nat → Int32) (L1 L3 L4 S0 S1 : Int32), ∀ (H : Heap) (locs : List Loc) (ls : Array Slot), wp_PR_countOf_43 Post K4 K12 pc pl L1 L3 L4 S0 S1 → va_P (dC, dI) vwCl [(a_pr, .inr (0, [.ref a_codes, .ref a_lens])), (a_codes, .inl (cI, 20, .inl pc)), (a_lens, .inl (cI, 4, .inl pl))] H → va_D A [(a_pr, .inr (0, [.ref a_codes, .ref a_lens])), (a_codes, .inl (cI, 20, .inl pc)), (a_lens, .inl (cI, 4, .inl pl))] → va_S A s.heap H locs → lv_has ls 5 [(0, .ref a_pr), (1, .int L1), (3, .int L3), (4, .int L4)] → W p l e ({ frames := 11, cells := 0, slots := 0, locals := 172 } : Room) s m args below meth c H locs 0 0 (MQ below (jQ_PR_countOf dC dI cI cJ cZ cQ A a_pr a_codes a_lens Post) args s 0 0 A) (F0 m 43 ls [.int S0, .int S1]) := by
  obtain ⟨hx, hb, hr, hml, hown, hts, hlocks, hK, hZ, hA, hst⟩ := id C0
  intro pc pl L1 L3 L4 S0 S1 H locs ls h hP hD hS hl
  rw [wp_PR_countOf_43] at h
  refine lv_iadd hx hb d_PR_countOf_43 ?_
  refine lv_topi (fun x5 ex5 => ?_)
  have h := h x5 ex5
  refine lv_istore_n (lv' := [(2, .int x5), (0, .ref a_pr), (1, .int L1), (3, .int L3), (4, .int L4)]) hx hb d_PR_countOf_44 rfl hl (by decide) rfl (fun ls hl => ?_)
  obtain ⟨x6, ex6⟩ : ∃ y : Int32, y = L4 + 1 := ⟨_, rfl⟩
  have h := h x6 ex6
  refine lv_iinc (v := x6) (lv' := [(4, .int x6), (2, .int x5), (0, .ref a_pr), (1, .int L1), (3, .int L3)]) hx hb d_PR_countOf_45 hl (k := 4) rfl (by rw [ex6]; rfl) (by decide) rfl (fun ls hl => ?_)
  refine lv_goto (tgt := 12) hx hb d_PR_countOf_48 (by decide) ?_
  exact hK12 pc pl L1 x5 L3 x6  H locs ls h hP hD hS (lv_sub hl [2, 3, 1, 4, 0] rfl)
set_option maxHeartbeats 4000000 in
set_option maxRecDepth 100000 in
theorem l_PR_countOf_12 {p : Program} {l : Launch} {e : Env} {s : State} {m : MethodId} {args : Array Value} {below : List Frame} {meth : Method} {c : Code} {dC : Nat → ClassId} {dI : Nat → Nat → Nat} {cI cJ cZ cQ : ClassId} {a_pr a_codes a_lens : Nat} {A : Nat → Prop} {Post : Int32 → (Nat → Int32) → (Nat → Int32) → Prop} (C0 : jC p l s m args meth c b_PR_countOf (some .int) 5 R_PR (dC, dI) cI cJ cZ cQ A) (K4 : (Nat → Int32) → (Nat → Int32) → Int32 → Int32 → Int32 → Prop) (hK4 : ∀ (pc pl : Nat → Int32) (L1 L2 L3 : Int32), ∀ (H : Heap) (locs : List Loc) (ls : Array Slot), K4 pc pl L1 L2 L3 → va_P (dC, dI) vwCl [(a_pr, .inr (0, [.ref a_codes, .ref a_lens])), (a_codes, .inl (cI, 20, .inl pc)), (a_lens, .inl (cI, 4, .inl pl))] H → va_D A [(a_pr, .inr (0, [.ref a_codes, .ref a_lens])), (a_codes, .inl (cI, 20, .inl pc)), (a_lens, .inl (cI, 4, .inl pl))] → va_S A s.heap H locs → lv_has ls 5 [(0, .ref a_pr), (1, .int L1), (2, .int L2), (3, .int L3)] → W p l e ({ frames := 11, cells := 0, slots := 0, locals := 172 } : Room) s m args below meth c H locs 0 0 (MQ below (jQ_PR_countOf dC dI cI cJ cZ cQ A a_pr a_codes a_lens Post) args s 0 0 A) (F0 m 4 ls [])) : ∀ n9 : Nat, ∀ (pc pl : Nat → Int32) (L1 L2 L3 L4 : Int32), ∀ (H : Heap) (locs : List Loc) (ls : Array Slot), wp_PR_countOf_12 Post K4 n9 pc pl L1 L2 L3 L4 → va_P (dC, dI) vwCl [(a_pr, .inr (0, [.ref a_codes, .ref a_lens])), (a_codes, .inl (cI, 20, .inl pc)), (a_lens, .inl (cI, 4, .inl pl))] H → va_D A [(a_pr, .inr (0, [.ref a_codes, .ref a_lens])), (a_codes, .inl (cI, 20, .inl pc)), (a_lens, .inl (cI, 4, .inl pl))] → va_S A s.heap H locs → lv_has ls 5 [(0, .ref a_pr), (1, .int L1), (2, .int L2), (3, .int L3), (4, .int L4)] → W p l e ({ frames := 11, cells := 0, slots := 0, locals := 172 } : Room) s m args below meth c H locs 0 0 (MQ below (jQ_PR_countOf dC dI cI cJ cZ cQ A a_pr a_codes a_lens Post) args s 0 0 A) (F0 m 12 ls []) := by
  obtain ⟨hx, hb, hr, hml, hown, hts, hlocks, hK, hZ, hA, hst⟩ := id C0
  intro n9
  induction n9 with
  | zero =>
    intro pc pl L1 L2 L3 L4 H locs ls h hP hD hS hl
    exact False.elim h
  | succ n_12 ih =>
    intro pc pl L1 L2 L3 L4 H locs ls h hP hD hS hl
    rw [wp_PR_countOf_12] at h
    refine lv_iload hx hb d_PR_countOf_12 (lv_at hl 4 rfl) ?_
    refine lv_aload_n hx hb d_PR_countOf_14 rfl (lv_at hl 0 rfl) ?_
    refine va_get (D := (dC, dI)) (ci := 0) (v := .ref a_lens) (C := R_PR) (T := T_PR) (N := 2) hx hb hts in_PR hown hK hP 0 rfl rfl 1 (by decide) (hts _ mw_41) (fun _ h9 => h9) rfl d_PR_countOf_15 ?_
    refine lv_iload_n hx hb d_PR_countOf_18 rfl (lv_at hl 3 rfl) ?_
    refine va_iald hx hb hK hP 2 0 rfl rfl h.1 d_PR_countOf_19 ?_
    have h := h.2
    refine lv_icmp_ge (tgt := 51) hx hb d_PR_countOf_20 (by decide) (fun c20 => ?_) (fun c20 => ?_)
    · have h := h.1 c20
      obtain ⟨x1, ex1⟩ : ∃ y : Int32, y = L3 + 1 := ⟨_, rfl⟩
      have h := h x1 ex1
      refine lv_iinc (v := x1) (lv' := [(3, .int x1), (0, .ref a_pr), (1, .int L1), (2, .int L2), (4, .int L4)]) hx hb d_PR_countOf_51 hl (k := 3) rfl (by rw [ex1]; rfl) (by decide) rfl (fun ls hl => ?_)
      refine lv_goto (tgt := 4) hx hb d_PR_countOf_54 (by decide) ?_
      exact hK4 pc pl L1 L2 x1  H locs ls h hP hD hS (lv_sub hl [1, 2, 3, 0] rfl)
    · have h := h.2 c20
      refine lv_iload_n hx hb d_PR_countOf_23 rfl (lv_at hl 2 rfl) ?_
      refine lv_aload_n hx hb d_PR_countOf_24 rfl (lv_at hl 0 rfl) ?_
      refine lv_iload_n hx hb d_PR_countOf_25 rfl (lv_at hl 3 rfl) ?_
      refine lv_iload hx hb d_PR_countOf_26 (lv_at hl 4 rfl) ?_
      have hPc := hP.sub (ws' := [(a_pr, .inr (0, [.ref a_codes, .ref a_lens])), (a_codes, .inl (cI, 20, .inl pc)), (a_lens, .inl (cI, 4, .inl pl))]) [0, 1, 2] rfl
      have hDc := hD.sub (ws' := [(a_pr, .inr (0, [.ref a_codes, .ref a_lens])), (a_codes, .inl (cI, 20, .inl pc)), (a_lens, .inl (cI, 4, .inl pl))]) [0, 1, 2] (by decide) rfl
      have hFc := va_free (wc := [(a_pr, .inr (0, [.ref a_codes, .ref a_lens])), (a_codes, .inl (cI, 20, .inl pc)), (a_lens, .inl (cI, 4, .inl pl))]) hD hS hA [0, 1, 2] rfl
      refine va_calli (va_runV (As := [.int L3, .int L4]) (rest := [.int L2]) ⟨hx, hb, hml, hown, hts⟩ (c_PR_codeOf l dC dI cI cJ cZ cQ a_pr a_codes a_lens H.size pc pl L3 L4 _  h) (cwV 2 hts (goodIn_app (jGl (List.forall_mem_cons.mpr ⟨mw_202, List.forall_mem_cons.mpr ⟨mw_203, List.forall_mem_cons.mpr ⟨mw_204, List.forall_mem_cons.mpr ⟨mw_2, fun _ h => absurd h List.not_mem_nil⟩⟩⟩⟩)) (jG mw_205)) rfl rfl rfl (by decide +kernel) ⟨Nat.le_of_ble_eq_true rfl, Nat.le_of_ble_eq_true rfl⟩) ⟨jPre_blind, va_recv hK hPc (ci := 0) (q0 := 0) rfl rfl, jPre_in hPc hK hDc hZ hS hFc hst⟩ rfl rfl hl.1 rfl (lv_room (Nat.le_of_ble_eq_true rfl)) d_PR_countOf_28 ⟨(Nat.zero_le _), (Nat.zero_le _)⟩) hS (fun q _ h => hFc q h) hFc (fun r2 u t H1 locs ht hvm hw hB hz1 hk1 hS => ?_)
      obtain ⟨u3, u4⟩ := u
      obtain ⟨hP1, hK1, hD1⟩ := hB
      rw [ht] at hP1
      have h := hw
      obtain ⟨hP, hD⟩ := va_join (wr := []) (w1 := [(a_pr, .inr (0, [.ref a_codes, .ref a_lens])), (a_codes, .inl (cI, 20, .inl u3)), (a_lens, .inl (cI, 4, .inl u4))]) hP hD [0, 1, 2] [] rfl rfl (by decide) (by decide) hk1 hFc hP1 hD1
      generalize H1 = H at hP hS ⊢
      have hP : va_P (dC, dI) vwCl [(a_pr, .inr (0, [.ref a_codes, .ref a_lens])), (a_codes, .inl (cI, 20, .inl u3)), (a_lens, .inl (cI, 4, .inl u4))] H := hP
      have hD : va_D A [(a_pr, .inr (0, [.ref a_codes, .ref a_lens])), (a_codes, .inl (cI, 20, .inl u3)), (a_lens, .inl (cI, 4, .inl u4))] := hD
      refine lv_bipush (v := 16) hx hb d_PR_countOf_31 (by decide) ?_
      refine lv_idiv hx hb d_PR_countOf_33 (by decide) ?_
      refine lv_iload_n hx hb d_PR_countOf_34 rfl (lv_at hl 1 rfl) ?_
      refine lv_icmp_ne (tgt := 42) hx hb d_PR_countOf_35 (by decide) (fun c35 => ?_) (fun c35 => ?_)
      · have h := h.1 c35
        refine lv_iconst (v := 0) hx hb d_PR_countOf_42 (by decide) ?_
        exact l_PR_countOf_43 C0 K4 hK4 (fun (pc : Nat → Int32) (pl : Nat → Int32) (L1 : Int32) (L2 : Int32) (L3 : Int32) (L4 : Int32) => wp_PR_countOf_12 Post K4 n_12 pc pl L1 L2 L3 L4) ih u3 u4 L1 L3 L4 0 L2  H locs ls h hP hD hS (lv_sub hl [0, 1, 3, 4] rfl)
      · have h := h.2 c35
        refine lv_iconst (v := 1) hx hb d_PR_countOf_38 (by decide) ?_
        refine lv_goto (tgt := 43) hx hb d_PR_countOf_39 (by decide) ?_
        exact l_PR_countOf_43 C0 K4 hK4 (fun (pc : Nat → Int32) (pl : Nat → Int32) (L1 : Int32) (L2 : Int32) (L3 : Int32) (L4 : Int32) => wp_PR_countOf_12 Post K4 n_12 pc pl L1 L2 L3 L4) ih u3 u4 L1 L3 L4 1 L2  H locs ls h hP hD hS (lv_sub hl [0, 1, 3, 4] rfl)
set_option maxHeartbeats 4000000 in
set_option maxRecDepth 100000 in
theorem l_PR_countOf_4 {p : Program} {l : Launch} {e : Env} {s : State} {m : MethodId} {args : Array Value} {below : List Frame} {meth : Method} {c : Code} {dC : Nat → ClassId} {dI : Nat → Nat → Nat} {cI cJ cZ cQ : ClassId} {a_pr a_codes a_lens : Nat} {A : Nat → Prop} {Post : Int32 → (Nat → Int32) → (Nat → Int32) → Prop} (C0 : jC p l s m args meth c b_PR_countOf (some .int) 5 R_PR (dC, dI) cI cJ cZ cQ A)  : ∀ n9 : Nat, ∀ (pc pl : Nat → Int32) (L1 L2 L3 : Int32), ∀ (H : Heap) (locs : List Loc) (ls : Array Slot), wp_PR_countOf_4 Post  n9 pc pl L1 L2 L3 → va_P (dC, dI) vwCl [(a_pr, .inr (0, [.ref a_codes, .ref a_lens])), (a_codes, .inl (cI, 20, .inl pc)), (a_lens, .inl (cI, 4, .inl pl))] H → va_D A [(a_pr, .inr (0, [.ref a_codes, .ref a_lens])), (a_codes, .inl (cI, 20, .inl pc)), (a_lens, .inl (cI, 4, .inl pl))] → va_S A s.heap H locs → lv_has ls 5 [(0, .ref a_pr), (1, .int L1), (2, .int L2), (3, .int L3)] → W p l e ({ frames := 11, cells := 0, slots := 0, locals := 172 } : Room) s m args below meth c H locs 0 0 (MQ below (jQ_PR_countOf dC dI cI cJ cZ cQ A a_pr a_codes a_lens Post) args s 0 0 A) (F0 m 4 ls []) := by
  obtain ⟨hx, hb, hr, hml, hown, hts, hlocks, hK, hZ, hA, hst⟩ := id C0
  intro n9
  induction n9 with
  | zero =>
    intro pc pl L1 L2 L3 H locs ls h hP hD hS hl
    exact False.elim h
  | succ n_4 ih =>
    intro pc pl L1 L2 L3 H locs ls h hP hD hS hl
    rw [wp_PR_countOf_4] at h
    refine lv_iload_n hx hb d_PR_countOf_4 rfl (lv_at hl 3 rfl) ?_
    refine lv_iconst (v := 4) hx hb d_PR_countOf_5 (by decide) ?_
    refine lv_icmp_ge (tgt := 57) hx hb d_PR_countOf_6 (by decide) (fun c6 => ?_) (fun c6 => ?_)
    · have h := h.1 c6
      refine lv_iload_n hx hb d_PR_countOf_57 rfl (lv_at hl 2 rfl) ?_
      have hP9 := hP
      have hD9 := hD
      exact W.iret (v := L2) hx hb hr (fun t ht hW => ⟨⟨L2, (pc, pl), rfl, h, by rw [ht]; exact hP9, va_K.moved hW.alike hK, hD9⟩, hS.F ht⟩) hS.2.2 d_PR_countOf_58
    · have h := h.2 c6
      refine lv_iconst (v := 0) hx hb d_PR_countOf_9 (by decide) ?_
      refine lv_istore (lv' := [(4, .int 0), (0, .ref a_pr), (1, .int L1), (2, .int L2), (3, .int L3)]) hx hb d_PR_countOf_10 hl (by decide) rfl (fun ls hl => ?_)
      obtain ⟨n_12, h⟩ := h
      exact l_PR_countOf_12 C0 (fun (pc : Nat → Int32) (pl : Nat → Int32) (L1 : Int32) (L2 : Int32) (L3 : Int32) => wp_PR_countOf_4 Post n_4 pc pl L1 L2 L3) ih n_12 pc pl L1 L2 L3 0  H locs ls h hP hD hS (lv_sub hl [1, 2, 3, 4, 0] rfl)
set_option maxHeartbeats 4000000 in
set_option maxRecDepth 100000 in
theorem c_PR_countOf (l : Launch) (dC : Nat → ClassId) (dI : Nat → Nat → Nat) (cI cJ cZ cQ : ClassId) (a_pr a_codes a_lens : Nat) (sz : Nat) (pc pl : Nat → Int32) (w0 : Int32) (Post : Int32 → (Nat → Int32) → (Nat → Int32) → Prop) (h : wp_PR_countOf Post pc pl w0) : Met l y_PR_countOf (.code y_PR_countOf b_PR_countOf 5 (some .int) :: jW) ({ frames := 11, cells := 0, slots := 0, locals := 172 } : Room) (jPre l (dC, dI) cI cJ cZ cQ [(a_pr, .inr (0, [.ref a_codes, .ref a_lens])), (a_codes, .inl (cI, 20, .inl pc)), (a_lens, .inl (cI, 4, .inl pl))] sz [.ref a_pr, .int w0]) (jQ_PR_countOf dC dI cI cJ cZ cQ (va_A [(a_pr, .inr (0, [.ref a_codes, .ref a_lens])), (a_codes, .inl (cI, 20, .inl pc)), (a_lens, .inl (cI, 4, .inl pl))] sz) a_pr a_codes a_lens Post) 0 0 (va_A [(a_pr, .inr (0, [.ref a_codes, .ref a_lens])), (a_codes, .inl (cI, 20, .inl pc)), (a_lens, .inl (cI, 4, .inl pl))] sz) := by
  refine Met.ofW (cc := b_PR_countOf) (maxL := 5) (ret := (some .int)) (by decide) rfl ?_
  intro p e s m args below meth c s₁ B hml hv
  obtain ⟨rfl, hsz, hP, hK, hD0, hZ, hst⟩ := hv
  subst hsz
  have hD := hD0.self (sz := s.heap.size)
  generalize hAe : va_A [(a_pr, .inr (0, [.ref a_codes, .ref a_lens])), (a_codes, .inl (cI, 20, .inl pc)), (a_lens, .inl (cI, 4, .inl pl))] s.heap.size = A at hD hZ ⊢
  have hA : ∀ q : Nat, s.heap.size ≤ q → A q := fun q h => by rw [← hAe]; exact Or.inr h
  have C0 : jC p l s m ([.ref a_pr, .int w0] : List Value).toArray meth c b_PR_countOf (some .int) 5 R_PR (dC, dI) cI cJ cZ cQ A := ⟨B.exec, B.bytes, B.returns, hml, findClass_of_methodNamed B.named, fun w hw => atoms_spec (ws := (.code y_PR_countOf b_PR_countOf 5 (some .int) :: jW)) B.pre w (List.mem_cons_of_mem _ hw), B.notSynchronized, hK, hZ, hA, hst⟩
  obtain ⟨hx, hb, hr, hml, hown, hts, hlocks, hK, hZ, hA, hst⟩ := id C0
  have hS : va_S A s.heap s.heap [] := va_S.rf
  have hl := lv_entry ([.ref a_pr, .int w0]) (n := 5) (Nat.le_of_ble_eq_true rfl)
  rw [lg_entry_eq]
  generalize (lg_sl ([.ref a_pr, .int w0]) ++ List.replicate (5 - (lg_sl ([.ref a_pr, .int w0])).length) Slot.unset).toArray = ls at hl ⊢
  have hl : lv_has ls 5 [(0, .ref a_pr), (1, .int w0)] := hl
  obtain ⟨H, hH⟩ : ∃ H : Heap, H = s.heap := ⟨_, rfl⟩
  obtain ⟨locs, hlc⟩ : ∃ L : List Loc, L = [] := ⟨_, rfl⟩
  have hP : va_P (dC, dI) vwCl [(a_pr, .inr (0, [.ref a_codes, .ref a_lens])), (a_codes, .inl (cI, 20, .inl pc)), (a_lens, .inl (cI, 4, .inl pl))] H := by rw [hH]; exact hP
  have hS : va_S A s.heap H locs := by rw [hH, hlc]; exact hS
  suffices hW9 : W p l e ({ frames := 11, cells := 0, slots := 0, locals := 172 } : Room) s m ([.ref a_pr, .int w0] : List Value).toArray below meth c H locs 0 0 (MQ below (jQ_PR_countOf dC dI cI cJ cZ cQ A a_pr a_codes a_lens Post) ([.ref a_pr, .int w0] : List Value).toArray s 0 0 A) (F0 m 0 ls []) by rw [hH, hlc] at hW9; exact hW9
  clear hH hlc
  rw [wp_PR_countOf] at h
  refine lv_iconst (v := 0) hx hb d_PR_countOf_0 (by decide) ?_
  refine lv_istore_n (lv' := [(2, .int 0), (0, .ref a_pr), (1, .int w0)]) hx hb d_PR_countOf_1 rfl hl (by decide) rfl (fun ls hl => ?_)
  refine lv_iconst (v := 0) hx hb d_PR_countOf_2 (by decide) ?_
  refine lv_istore_n (lv' := [(3, .int 0), (2, .int 0), (0, .ref a_pr), (1, .int w0)]) hx hb d_PR_countOf_3 rfl hl (by decide) rfl (fun ls hl => ?_)
  obtain ⟨n_4, h⟩ := h
  exact l_PR_countOf_4 C0  n_4 pc pl w0 0 0  H locs ls h hP hD hS (lv_sub hl [2, 3, 1, 0] rfl)
