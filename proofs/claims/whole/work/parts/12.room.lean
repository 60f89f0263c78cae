/-- what java/util/Arrays.rangeCheck(III)V leaves -/
abbrev jQ_JA_rangeCheck (dC : Nat → ClassId) (dI : Nat → Nat → Nat) (cI cJ cZ cQ : ClassId) (A : Nat → Prop) (Post : Prop) : Array Value → State → Outcome → State → Prop := va_Qv (fun (u : Unit) => Post ) (fun (u : Unit) (t : State) => match u with
  | _ => jPost (dC, dI) (jT cI cJ cZ cQ) A [] t) A
/-- java/util/Arrays.rangeCheck(III)V -/
def wp_JA_rangeCheck (Post : Prop) (ln fm to : Int32) : Prop :=
  ((fm ≤ to → ((0 ≤ fm → ((to ≤ ln → Post ) ∧
      (¬ to ≤ ln → False))) ∧
    (¬ 0 ≤ fm → False))) ∧
  (¬ fm ≤ to → False))
set_option maxHeartbeats 4000000 in
set_option maxRecDepth 100000 in
theorem c_JA_rangeCheck (l : Launch) (dC : Nat → ClassId) (dI : Nat → Nat → Nat) (cI cJ cZ cQ : ClassId)  (sz : Nat) (ln fm to : Int32) (Post : Prop) (h : wp_JA_rangeCheck Post ln fm to) : Met l y_JA_rangeCheck (.code y_JA_rangeCheck b_JA_rangeCheck 3 none :: jW) ({ frames := 10, cells := 0, slots := 0, locals := 150 } : Room) (jPre l (dC, dI) cI cJ cZ cQ [] sz [.int ln, .int fm, .int to]) (jQ_JA_rangeCheck dC dI cI cJ cZ cQ (va_A [] sz)  Post) 0 0 (va_A [] sz) := by
  refine Met.ofW (cc := b_JA_rangeCheck) (maxL := 3) (ret := none) (by decide) rfl ?_
  intro p e s m args below meth c s₁ B hml hv
  obtain ⟨rfl, hsz, hP, hK, hD0, hZ, hst⟩ := hv
  subst hsz
  have hD := hD0.self (sz := s.heap.size)
  generalize hAe : va_A [] s.heap.size = A at hD hZ ⊢
  have hA : ∀ q : Nat, s.heap.size ≤ q → A q := fun q h => by rw [← hAe]; exact Or.inr h
  have C0 : jC p l s m ([.int ln, .int fm, .int to] : List Value).toArray meth c b_JA_rangeCheck none 3 R_JA (dC, dI) cI cJ cZ cQ A := ⟨B.exec, B.bytes, B.returns, hml, findClass_of_methodNamed B.named, fun w hw => atoms_spec (ws := (.code y_JA_rangeCheck b_JA_rangeCheck 3 none :: jW)) B.pre w (List.mem_cons_of_mem _ hw), B.notSynchronized, hK, hZ, hA, hst⟩
  obtain ⟨hx, hb, hr, hml, hown, hts, hlocks, hK, hZ, hA, hst⟩ := id C0
  have hS : va_S A s.heap s.heap [] := va_S.rf
  have hl := lv_entry ([.int ln, .int fm, .int to]) (n := 3) (Nat.le_of_ble_eq_true rfl)
  rw [lg_entry_eq]
  generalize (lg_sl ([.int ln, .int fm, .int to]) ++ List.replicate (3 - (lg_sl ([.int ln, .int fm, .int to])).length) Slot.unset).toArray = ls at hl ⊢
  have hl : lv_has ls 3 [(0, .int ln), (1, .int fm), (2, .int to)] := hl
  obtain ⟨H, hH⟩ : ∃ H : Heap, H = s.heap := ⟨_, rfl⟩
  obtain ⟨locs, hlc⟩ : ∃ L : List Loc, L = [] := ⟨_, rfl⟩
  have hP : va_P (dC, dI) vwCl [] H := by rw [hH]; exact hP
  have hS : va_S A s.heap H locs := by rw [hH, hlc]; exact hS
  suffices hW9 : W p l e ({ frames := 10, cells := 0, slots := 0, locals := 150 } : Room) s m ([.int ln, .int fm, .int to] : List Value).toArray below meth c H locs 0 0 (MQ below (jQ_JA_rangeCheck dC dI cI cJ cZ cQ A  Post) ([.int ln, .int fm, .int to] : List Value).toArray s 0 0 A) (F0 m 0 ls []) by rw [hH, hlc] at hW9; exact hW9
  clear hH hlc
  rw [wp_JA_rangeCheck] at h
  refine lv_iload_n hx hb d_JA_rangeCheck_0 rfl (lv_at hl 1 rfl) ?_
  refine lv_iload_n hx hb d_JA_rangeCheck_1 rfl (lv_at hl 2 rfl) ?_
  refine lv_icmp_le (tgt := 46) hx hb d_JA_rangeCheck_2 (by decide) (fun c2 => ?_) (fun c2 => ?_)
  · have h := h.1 c2
    refine lv_iload_n hx hb d_JA_rangeCheck_46 rfl (lv_at hl 1 rfl) ?_
    refine lv_if_ge (tgt := 59) hx hb d_JA_rangeCheck_47 (by decide) (fun c47 => ?_) (fun c47 => ?_)
    · have h := h.1 c47
      refine lv_iload_n hx hb d_JA_rangeCheck_59 rfl (lv_at hl 2 rfl) ?_
      refine lv_iload_n hx hb d_JA_rangeCheck_60 rfl (lv_at hl 0 rfl) ?_
      refine lv_icmp_le (tgt := 73) hx hb d_JA_rangeCheck_61 (by decide) (fun c61 => ?_) (fun c61 => ?_)
      · have h := h.1 c61
        have hP9 := hP
        have hD9 := hD
        exact W.vret hx hb hr (fun t ht hW => ⟨⟨(), rfl, h, by rw [ht]; exact hP9, va_K.moved hW.alike hK, hD9⟩, hS.F ht⟩) hS.2.2 d_JA_rangeCheck_73
      · have h := h.2 c61
        exact h.elim
    · have h := h.2 c47
      exact h.elim
  · have h := h.2 c2
    exact h.elim

/-- what java/util/Arrays.fill([IIII)V leaves -/
abbrev jQ_JA_fill_aIIII (dC : Nat → ClassId) (dI : Nat → Nat → Nat) (cI cJ cZ cQ : ClassId) (A : Nat → Prop) (a_a n0 : Nat) (Post : (Nat → Int32) → Prop) : Array Value → State → Outcome → State → Prop := va_Qv (fun (u : (Nat → Int32)) => Post u) (fun (u : (Nat → Int32)) (t : State) => match u with
  | f0 => jPost (dC, dI) (jT cI cJ cZ cQ) A [(a_a, .inl (cI, n0, .inl f0))] t) A
def wp_JA_fill_aIIII_10 (Post : (Nat → Int32) → Prop) (n0 : Nat)  : Nat → (Nat → Int32) → Int32 → Int32 → Int32 → Prop
  | 0, _, _, _, _ => False
  | n_10 + 1, f0, L2, L3, L4 =>
    ((L2 ≤ L4 → Post f0) ∧
    (¬ L2 ≤ L4 → vp_in L4 n0 ∧ ∀ f2 : Nat → Int32, f2 = upd f0 L4.toNatClampNeg L3 → ∀ x3 : Int32, x3 = L4 + 1 → (wp_JA_fill_aIIII_10 Post n0 n_10) f2 L2 L3 x3))
/-- java/util/Arrays.fill([IIII)V -/
def wp_JA_fill_aIIII (Post : (Nat → Int32) → Prop) (n0 : Nat) (f0 : Nat → Int32) (fm to v0 : Int32) : Prop :=
  wp_JA_rangeCheck ((∃ n_10 : Nat, wp_JA_fill_aIIII_10 Post n0 n_10 f0 to v0 fm)) (Int32.ofNat n0) fm to
set_option maxHeartbeats 4000000 in
set_option maxRecDepth 100000 in
theorem l_JA_fill_aIIII_10 {p : Program} {l : Launch} {e : Env} {s : State} {m : MethodId} {args : Array Value} {below : List Frame} {meth : Method} {c : Code} {dC : Nat → ClassId} {dI : Nat → Nat → Nat} {cI cJ cZ cQ : ClassId} {a_a n0 : Nat} {A : Nat → Prop} {Post : (Nat → Int32) → Prop} (C0 : jC p l s m args meth c b_JA_fill_aIIII none 5 R_JA (dC, dI) cI cJ cZ cQ A)  : ∀ n9 : Nat, ∀ (f0 : Nat → Int32) (L2 L3 L4 : Int32), ∀ (H : Heap) (locs : List Loc) (ls : Array Slot), wp_JA_fill_aIIII_10 Post n0  n9 f0 L2 L3 L4 → va_P (dC, dI) vwCl [(a_a, .inl (cI, n0, .inl f0))] H → va_D A [(a_a, .inl (cI, n0, .inl f0))] → va_S A s.heap H locs → lv_has ls 5 [(0, .ref a_a), (2, .int L2), (3, .int L3), (4, .int L4)] → W p l e ({ frames := 11, cells := 0, slots := 0, locals := 172 } : Room) s m args below meth c H locs 0 0 (MQ below (jQ_JA_fill_aIIII dC dI cI cJ cZ cQ A a_a n0 Post) args s 0 0 A) (F0 m 10 ls []) := by
  obtain ⟨hx, hb, hr, hml, hown, hts, hlocks, hK, hZ, hA, hst⟩ := id C0
  intro n9
  induction n9 with
  | zero =>
    intro f0 L2 L3 L4 H locs ls h hP hD hS hl
    exact False.elim h
  | succ n_10 ih =>
    intro f0 L2 L3 L4 H locs ls h hP hD hS hl
    rw [wp_JA_fill_aIIII_10] at h
    refine lv_iload hx hb d_JA_fill_aIIII_10 (lv_at hl 3 rfl) ?_
    refine lv_iload_n hx hb d_JA_fill_aIIII_12 rfl (lv_at hl 1 rfl) ?_
    refine lv_icmp_ge (tgt := 27) hx hb d_JA_fill_aIIII_13 (by decide) (fun c13 => ?_) (fun c13 => ?_)
    · have h := h.1 c13
      have hP9 := hP
      have hD9 := hD
      exact W.vret hx hb hr (fun t ht hW => ⟨⟨f0, rfl, h, by rw [ht]; exact hP9, va_K.moved hW.alike hK, hD9⟩, hS.F ht⟩) hS.2.2 d_JA_fill_aIIII_27
    · have h := h.2 c13
      refine lv_aload_n hx hb d_JA_fill_aIIII_16 rfl (lv_at hl 0 rfl) ?_
      refine lv_iload hx hb d_JA_fill_aIIII_17 (lv_at hl 3 rfl) ?_
      refine lv_iload_n hx hb d_JA_fill_aIIII_19 rfl (lv_at hl 2 rfl) ?_
      refine va_iast hx hb hK hP hD hS 0 0 rfl rfl h.1 d_JA_fill_aIIII_20 (fun H locs hP hD hS => ?_)
      have h := h.2
      obtain ⟨f2, ef2⟩ : ∃ y : Nat → Int32, y = upd f0 L4.toNatClampNeg L3 := ⟨_, rfl⟩
      rw [← ef2] at hP hD
      have h := h f2 ef2
      have hP : va_P (dC, dI) vwCl [(a_a, .inl (cI, n0, .inl f2))] H := hP
      have hD : va_D A [(a_a, .inl (cI, n0, .inl f2))] := hD
      obtain ⟨x3, ex3⟩ : ∃ y : Int32, y = L4 + 1 := ⟨_, rfl⟩
      have h := h x3 ex3
      refine lv_iinc (v := x3) (lv' := [(4, .int x3), (0, .ref a_a), (2, .int L2), (3, .int L3)]) hx hb d_JA_fill_aIIII_21 hl (k := 3) rfl (by rw [ex3]; rfl) (by decide) rfl (fun ls hl => ?_)
      refine lv_goto (tgt := 10) hx hb d_JA_fill_aIIII_24 (by decide) ?_
      exact ih f2 L2 L3 x3  H locs ls h hP hD hS (lv_sub hl [1, 2, 3, 0] rfl)
set_option maxHeartbeats 4000000 in
set_option maxRecDepth 100000 in
theorem c_JA_fill_aIIII (l : Launch) (dC : Nat → ClassId) (dI : Nat → Nat → Nat) (cI cJ cZ cQ : ClassId) (a_a n0 : Nat) (sz : Nat) (f0 : Nat → Int32) (fm to v0 : Int32) (Post : (Nat → Int32) → Prop) (h : wp_JA_fill_aIIII Post n0 f0 fm to v0) : Met l y_JA_fill_aIIII (.code y_JA_fill_aIIII b_JA_fill_aIIII 5 none :: jW) ({ frames := 11, cells := 0, slots := 0, locals := 172 } : Room) (jPre l (dC, dI) cI cJ cZ cQ [(a_a, .inl (cI, n0, .inl f0))] sz [.ref a_a, .int fm, .int to, .int v0]) (jQ_JA_fill_aIIII dC dI cI cJ cZ cQ (va_A [(a_a, .inl (cI, n0, .inl f0))] sz) a_a n0 Post) 0 0 (va_A [(a_a, .inl (cI, n0, .inl f0))] sz) := by
  refine Met.ofW (cc := b_JA_fill_aIIII) (maxL := 5) (ret := none) (by decide) rfl ?_
  intro p e s m args below meth c s₁ B hml hv
  obtain ⟨rfl, hsz, hP, hK, hD0, hZ, hst⟩ := hv
  subst hsz
  have hD := hD0.self (sz := s.heap.size)
  generalize hAe : va_A [(a_a, .inl (cI, n0, .inl f0))] s.heap.size = A at hD hZ ⊢
  have hA : ∀ q : Nat, s.heap.size ≤ q → A q := fun q h => by rw [← hAe]; exact Or.inr h
  have C0 : jC p l s m ([.ref a_a, .int fm, .int to, .int v0] : List Value).toArray meth c b_JA_fill_aIIII none 5 R_JA (dC, dI) cI cJ cZ cQ A := ⟨B.exec, B.bytes, B.returns, hml, findClass_of_methodNamed B.named, fun w hw => atoms_spec (ws := (.code y_JA_fill_aIIII b_JA_fill_aIIII 5 none :: jW)) B.pre w (List.mem_cons_of_mem _ hw), B.notSynchronized, hK, hZ, hA, hst⟩
  obtain ⟨hx, hb, hr, hml, hown, hts, hlocks, hK, hZ, hA, hst⟩ := id C0
  have hS : va_S A s.heap s.heap [] := va_S.rf
  have hl := lv_entry ([.ref a_a, .int fm, .int to, .int v0]) (n := 5) (Nat.le_of_ble_eq_true rfl)
  rw [lg_entry_eq]
  generalize (lg_sl ([.ref a_a, .int fm, .int to, .int v0]) ++ List.replicate (5 - (lg_sl ([.ref a_a, .int fm, .int to, .int v0])).length) Slot.unset).toArray = ls at hl ⊢
  have hl : lv_has ls 5 [(0, .ref a_a), (1, .int fm), (2, .int to), (3, .int v0)] := hl
  obtain ⟨H, hH⟩ : ∃ H : Heap, H = s.heap := ⟨_, rfl⟩
  obtain ⟨locs, hlc⟩ : ∃ L : List Loc, L = [] := ⟨_, rfl⟩
  have hP : va_P (dC, dI) vwCl [(a_a, .inl (cI, n0, .inl f0))] H := by rw [hH]; exact hP
  have hS : va_S A s.heap H locs := by rw [hH, hlc]; exact hS
  suffices hW9 : W p l e ({ frames := 11, cells := 0, slots := 0, locals := 172 } : Room) s m ([.ref a_a, .int fm, .int to, .int v0] : List Value).toArray below meth c H locs 0 0 (MQ below (jQ_JA_fill_aIIII dC dI cI cJ cZ cQ A a_a n0 Post) ([.ref a_a, .int fm, .int to, .int v0] : List Value).toArray s 0 0 A) (F0 m 0 ls []) by rw [hH, hlc] at hW9; exact hW9
  clear hH hlc
  rw [wp_JA_fill_aIIII] at h
  refine lv_aload_n hx hb d_JA_fill_aIIII_0 rfl (lv_at hl 0 rfl) ?_
  refine va_alen hx hb hK hP 0 0 (ty := .int) rfl rfl (v := Int32.ofNat n0) rfl d_JA_fill_aIIII_1 ?_
  refine lv_iload_n hx hb d_JA_fill_aIIII_2 rfl (lv_at hl 1 rfl) ?_
  refine lv_iload_n hx hb d_JA_fill_aIIII_3 rfl (lv_at hl 2 rfl) ?_
  have hPc := hP.sub (ws' := []) [] rfl
  have hDc := hD.sub (ws' := []) [] (by decide) rfl
  have hFc := va_free (wc := []) hD hS hA [] rfl
  refine va_callv (va_runS (As := [.int (Int32.ofNat n0), .int fm, .int to]) (rest := []) ⟨hx, hb, hml, hown, hts⟩ (c_JA_rangeCheck l dC dI cI cJ cZ cQ  H.size (Int32.ofNat n0) fm to _  h) (va_cwS 3 hts (goodIn_app (jGl (List.forall_mem_cons.mpr ⟨mw_344, List.forall_mem_cons.mpr ⟨mw_345, List.forall_mem_cons.mpr ⟨mw_13, fun _ h => absurd h List.not_mem_nil⟩⟩⟩)) (jG mw_346)) rfl rfl rfl (by decide +kernel) ⟨Nat.le_of_ble_eq_true rfl, Nat.le_of_ble_eq_true rfl⟩) ⟨jPre_blind, jPre_in hPc hK hDc hZ hS hFc hst⟩ rfl rfl hl.1 rfl (lv_room (Nat.le_of_ble_eq_true rfl)) d_JA_fill_aIIII_4 ⟨(Nat.zero_le _), (Nat.zero_le _)⟩) hS (fun q _ h => hFc q h) hFc (fun u t H1 locs ht hvm hw hB hz1 hk1 hS => ?_)
  obtain ⟨hP1, hK1, hD1⟩ := hB
  rw [ht] at hP1
  have h := hw
  obtain ⟨hP, hD⟩ := va_join (wr := [(a_a, .inl (cI, n0, .inl f0))]) (w1 := []) hP hD [] [0] rfl rfl (by decide) (by decide) hk1 hFc hP1 hD1
  generalize H1 = H at hP hS ⊢
  have hP : va_P (dC, dI) vwCl [(a_a, .inl (cI, n0, .inl f0))] H := hP
  have hD : va_D A [(a_a, .inl (cI, n0, .inl f0))] := hD
  refine lv_iload_n hx hb d_JA_fill_aIIII_7 rfl (lv_at hl 1 rfl) ?_
  refine lv_istore (lv' := [(4, .int fm), (0, .ref a_a), (1, .int fm), (2, .int to), (3, .int v0)]) hx hb d_JA_fill_aIIII_8 hl (by decide) rfl (fun ls hl => ?_)
  obtain ⟨n_10, h⟩ := h
  exact l_JA_fill_aIIII_10 C0  n_10 f0 to v0 fm  H locs ls h hP hD hS (lv_sub hl [1, 3, 4, 0] rfl)

/-- what java/util/Arrays.copyOf([II)[I leaves -/
abbrev jQ_JA_copyOf_aII (dC : Nat → ClassId) (dI : Nat → Nat → Nat) (cI cJ cZ cQ : ClassId) (A : Nat → Prop) (a_a n0 : Nat) (Post : Nat → (Nat → Int32) → (Nat → Int32) → Prop) : Array Value → State → Outcome → State → Prop := va_Qr (fun (u : Nat × (Nat → Int32) × (Nat → Int32)) => Post u.1 u.2.1 u.2.2) (fun (u : Nat × (Nat → Int32) × (Nat → Int32)) (ra : Nat) (t : State) => match u with
  | (rn9, rf9, f0) => jPost (dC, dI) (jT cI cJ cZ cQ) A [(a_a, .inl (cI, n0, .inl f0)), (ra, .inl (cI, rn9, .inl rf9))] t) A
/-- java/util/Arrays.copyOf([II)[I -/
def wp_JA_copyOf_aII (Post : Nat → (Nat → Int32) → (Nat → Int32) → Prop) (mc ms : Nat) (n0 : Nat) (f0 : Nat → Int32) (k0 : Int32) : Prop :=
  ((¬ k0 = (Int32.ofNat n0) → ¬ k0 < 0 ∧ k0.toNatClampNeg * 4 ≤ 536870912 ∧ 0 + 1 ≤ mc ∧ 0 + k0.toNatClampNeg ≤ ms ∧ (0 + 1) ≤ mc ∧ (0 + k0.toNatClampNeg) ≤ ms ∧ ¬ (if k0 < (Int32.ofNat n0) then k0 else (Int32.ofNat n0)) < 0 ∧ (0 : Int32).toNatClampNeg + (if k0 < (Int32.ofNat n0) then k0 else (Int32.ofNat n0)).toNatClampNeg ≤ n0 ∧ (0 : Int32).toNatClampNeg + (if k0 < (Int32.ofNat n0) then k0 else (Int32.ofNat n0)).toNatClampNeg ≤ k0.toNatClampNeg ∧ ∀ f2 : Nat → Int32, f2 = va_cpy f0 (fun _ => 0) (0 : Int32).toNatClampNeg (0 : Int32).toNatClampNeg (if k0 < (Int32.ofNat n0) then k0 else (Int32.ofNat n0)).toNatClampNeg → (0 + 1) ≤ mc ∧ (0 + k0.toNatClampNeg) ≤ ms ∧ Post k0.toNatClampNeg f2 f0) ∧
  (k0 = (Int32.ofNat n0) → False))
set_option maxHeartbeats 4000000 in
set_option maxRecDepth 100000 in
theorem c_JA_copyOf_aII (l : Launch) (dC : Nat → ClassId) (dI : Nat → Nat → Nat) (cI cJ cZ cQ : ClassId) (a_a n0 : Nat) (sz : Nat) (f0 : Nat → Int32) (k0 : Int32) (mc ms : Nat) (Post : Nat → (Nat → Int32) → (Nat → Int32) → Prop) (h : wp_JA_copyOf_aII Post mc ms n0 f0 k0) : Met l y_JA_copyOf_aII (.code y_JA_copyOf_aII b_JA_copyOf_aII 3 (some (.array .int)) :: jW) ({ frames := 10, cells := mc, slots := ms, locals := 150 } : Room) (jPre l (dC, dI) cI cJ cZ cQ [(a_a, .inl (cI, n0, .inl f0))] sz [.ref a_a, .int k0]) (jQ_JA_copyOf_aII dC dI cI cJ cZ cQ (va_A [(a_a, .inl (cI, n0, .inl f0))] sz) a_a n0 Post) mc ms (va_A [(a_a, .inl (cI, n0, .inl f0))] sz) := by
  refine Met.ofW (cc := b_JA_copyOf_aII) (maxL := 3) (ret := (some (.array .int))) (by decide) rfl ?_
  intro p e s m args below meth c s₁ B hml hv
  obtain ⟨rfl, hsz, hP, hK, hD0, hZ, hst⟩ := hv
  subst hsz
  have hD := hD0.self (sz := s.heap.size)
  generalize hAe : va_A [(a_a, .inl (cI, n0, .inl f0))] s.heap.size = A at hD hZ ⊢
  have hA : ∀ q : Nat, s.heap.size ≤ q → A q := fun q h => by rw [← hAe]; exact Or.inr h
  have C0 : jC p l s m ([.ref a_a, .int k0] : List Value).toArray meth c b_JA_copyOf_aII (some (.array .int)) 3 R_JA (dC, dI) cI cJ cZ cQ A := ⟨B.exec, B.bytes, B.returns, hml, findClass_of_methodNamed B.named, fun w hw => atoms_spec (ws := (.code y_JA_copyOf_aII b_JA_copyOf_aII 3 (some (.array .int)) :: jW)) B.pre w (List.mem_cons_of_mem _ hw), B.notSynchronized, hK, hZ, hA, hst⟩
  obtain ⟨hx, hb, hr, hml, hown, hts, hlocks, hK, hZ, hA, hst⟩ := id C0
  have hS : va_S A s.heap s.heap [] := va_S.rf
  have hl := lv_entry ([.ref a_a, .int k0]) (n := 3) (Nat.le_of_ble_eq_true rfl)
  rw [lg_entry_eq]
  generalize (lg_sl ([.ref a_a, .int k0]) ++ List.replicate (3 - (lg_sl ([.ref a_a, .int k0])).length) Slot.unset).toArray = ls at hl ⊢
  have hl : lv_has ls 3 [(0, .ref a_a), (1, .int k0)] := hl
  obtain ⟨H, hH⟩ : ∃ H : Heap, H = s.heap := ⟨_, rfl⟩
  obtain ⟨locs, hlc⟩ : ∃ L : List Loc, L = [] := ⟨_, rfl⟩
  have hP : va_P (dC, dI) vwCl [(a_a, .inl (cI, n0, .inl f0))] H := by rw [hH]; exact hP
  have hS : va_S A s.heap H locs := by rw [hH, hlc]; exact hS
  suffices hW9 : W p l e ({ frames := 10, cells := mc, slots := ms, locals := 150 } : Room) s m ([.ref a_a, .int k0] : List Value).toArray below meth c H locs 0 0 (MQ below (jQ_JA_copyOf_aII dC dI cI cJ cZ cQ A a_a n0 Post) ([.ref a_a, .int k0] : List Value).toArray s mc ms A) (F0 m 0 ls []) by rw [hH, hlc] at hW9; exact hW9
  clear hH hlc
  rw [wp_JA_copyOf_aII] at h
  refine lv_iload_n hx hb d_JA_copyOf_aII_0 rfl (lv_at hl 1 rfl) ?_
  refine lv_aload_n hx hb d_JA_copyOf_aII_1 rfl (lv_at hl 0 rfl) ?_
  refine va_alen hx hb hK hP 0 0 (ty := .int) rfl rfl (v := Int32.ofNat n0) rfl d_JA_copyOf_aII_2 ?_
  refine lv_icmp_ne (tgt := 14) hx hb d_JA_copyOf_aII_3 (by decide) (fun c3 => ?_) (fun c3 => ?_)
  · have h := h.1 c3
    refine lv_iload_n hx hb d_JA_copyOf_aII_14 rfl (lv_at hl 1 rfl) ?_
    have hn9 := h.1
    have hb9 := h.2.1
    have h := h.2.2
    have hrc := h.1
    have hrs := h.2.1
    have h := h.2.2
    refine va_newa (atype := .int) (ty := .int) (N' := k0.toNatClampNeg) (a0 := (k0.toNatClampNeg, .inl (fun _ => 0))) hx hb (hts _ mw_47) rfl hK hP hD hS hA (fun _ => rfl) hn9 rfl hb9 hrc hrs d_JA_copyOf_aII_15 (fun q1 cA9 H hK9 hP hD hS => ?_)
    obtain rfl := (jx_int 0 hK9 rfl).symm
    have hP : va_P (dC, dI) vwCl [(a_a, .inl (cI, n0, .inl f0)), (q1, .inl (cI, k0.toNatClampNeg, .inl (fun _ => 0)))] H := hP
    have hD : va_D A [(a_a, .inl (cI, n0, .inl f0)), (q1, .inl (cI, k0.toNatClampNeg, .inl (fun _ => 0)))] := hD
    refine lv_astore_n (lv' := [(2, .ref q1), (0, .ref a_a), (1, .int k0)]) hx hb d_JA_copyOf_aII_17 rfl hl (by decide) rfl (fun ls hl => ?_)
    refine lv_aload_n hx hb d_JA_copyOf_aII_18 rfl (lv_at hl 1 rfl) ?_
    refine lv_iconst (v := 0) hx hb d_JA_copyOf_aII_19 (by decide) ?_
    refine lv_aload_n hx hb d_JA_copyOf_aII_20 rfl (lv_at hl 0 rfl) ?_
    refine lv_iconst (v := 0) hx hb d_JA_copyOf_aII_21 (by decide) ?_
    refine lv_aload_n hx hb d_JA_copyOf_aII_22 rfl (lv_at hl 1 rfl) ?_
    refine va_alen hx hb hK hP 0 0 (ty := .int) rfl rfl (v := Int32.ofNat n0) rfl d_JA_copyOf_aII_23 ?_
    refine lv_iload_n hx hb d_JA_copyOf_aII_24 rfl (lv_at hl 2 rfl) ?_
    refine va_mmin hx hb (hml.trans hl.1.symm) hown (hts _ mw_420) (hts _ mw_421) (hts _ mw_19) (hts _ mw_422) (Nat.le_of_ble_eq_true rfl) (Nat.le_of_ble_eq_true rfl) h.1 h.2.1 d_JA_copyOf_aII_25 ?_
    have h := h.2.2
    refine va_copyi hx hb (hml.trans hl.1.symm) hown (hts _ mw_423) (hts _ mw_425) (hts _ mw_424) (hts _ mw_20) hK hP hD hS 0 1 0 0 rfl rfl rfl rfl rfl (by decide) (by decide) h.1 h.2.1 h.2.2.1 (fun _ _ => rfl) (Nat.le_of_ble_eq_true rfl) (Nat.le_of_ble_eq_true rfl) d_JA_copyOf_aII_28 (fun H locs hP hD hS => ?_)
    have h := h.2.2.2
    obtain ⟨f2, ef2⟩ : ∃ y : Nat → Int32, y = va_cpy f0 (fun _ => 0) (0 : Int32).toNatClampNeg (0 : Int32).toNatClampNeg (if k0 < (Int32.ofNat n0) then k0 else (Int32.ofNat n0)).toNatClampNeg := ⟨_, rfl⟩
    rw [← ef2] at hP hD
    have h := h f2 ef2
    have hP : va_P (dC, dI) vwCl [(a_a, .inl (cI, n0, .inl f0)), (q1, .inl (cI, k0.toNatClampNeg, .inl f2))] H := hP
    have hD : va_D A [(a_a, .inl (cI, n0, .inl f0)), (q1, .inl (cI, k0.toNatClampNeg, .inl f2))] := hD
    refine lv_aload_n hx hb d_JA_copyOf_aII_31 rfl (lv_at hl 0 rfl) ?_
    refine W.widen (k := mc) (n := ms) h.1 h.2.1 ?_
    have h := h.2.2
    have hP9 := hP.sub (ws' := [(a_a, .inl (cI, n0, .inl f0)), (q1, .inl (cI, k0.toNatClampNeg, .inl f2))]) [0, 1] rfl
    have hD9 := hD.sub (ws' := [(a_a, .inl (cI, n0, .inl f0)), (q1, .inl (cI, k0.toNatClampNeg, .inl f2))]) [0, 1] (by decide) rfl
    exact W.aret (v := .ref q1) hx hb hr (by first | exact Or.inl ⟨_, rfl⟩ | exact Or.inr ⟨_, rfl⟩) (Or.inr ⟨_, rfl⟩) (fun t ht hW => ⟨⟨(k0.toNatClampNeg, f2, f0), q1, rfl, h, by rw [ht]; exact hP9, va_K.moved hW.alike hK, hD9⟩, hS.F ht⟩) hS.2.2 d_JA_copyOf_aII_32
  · have h := h.2 c3
    refine lv_aload_n hx hb d_JA_copyOf_aII_6 rfl (lv_at hl 0 rfl) ?_
    exact h.elim

/-- what java/util/Arrays.copyOf([JI)[J leaves -/
abbrev jQ_JA_copyOf_aJI (dC : Nat → ClassId) (dI : Nat → Nat → Nat) (cI cJ cZ cQ : ClassId) (A : Nat → Prop) (a_a n0 : Nat) (Post : Nat → (Nat → Int64) → (Nat → Int64) → Prop) : Array Value → State → Outcome → State → Prop := va_Qr (fun (u : Nat × (Nat → Int64) × (Nat → Int64)) => Post u.1 u.2.1 u.2.2) (fun (u : Nat × (Nat → Int64) × (Nat → Int64)) (ra : Nat) (t : State) => match u with
  | (rn9, rf9, f0) => jPost (dC, dI) (jT cI cJ cZ cQ) A [(a_a, .inl (cJ, n0, .inr (.inl f0))), (ra, .inl (cJ, rn9, .inr (.inl rf9)))] t) A
/-- java/util/Arrays.copyOf([JI)[J -/
def wp_JA_copyOf_aJI (Post : Nat → (Nat → Int64) → (Nat → Int64) → Prop) (mc ms : Nat) (n0 : Nat) (f0 : Nat → Int64) (k0 : Int32) : Prop :=
  ((¬ k0 = (Int32.ofNat n0) → ¬ k0 < 0 ∧ k0.toNatClampNeg * 8 ≤ 536870912 ∧ 0 + 1 ≤ mc ∧ 0 + k0.toNatClampNeg ≤ ms ∧ (0 + 1) ≤ mc ∧ (0 + k0.toNatClampNeg) ≤ ms ∧ ¬ (if k0 < (Int32.ofNat n0) then k0 else (Int32.ofNat n0)) < 0 ∧ (0 : Int32).toNatClampNeg + (if k0 < (Int32.ofNat n0) then k0 else (Int32.ofNat n0)).toNatClampNeg ≤ n0 ∧ (0 : Int32).toNatClampNeg + (if k0 < (Int32.ofNat n0) then k0 else (Int32.ofNat n0)).toNatClampNeg ≤ k0.toNatClampNeg ∧ ∀ f2 : Nat → Int64, f2 = va_cpy f0 (fun _ => 0) (0 : Int32).toNatClampNeg (0 : Int32).toNatClampNeg (if k0 < (Int32.ofNat n0) then k0 else (Int32.ofNat n0)).toNatClampNeg → (0 + 1) ≤ mc ∧ (0 + k0.toNatClampNeg) ≤ ms ∧ Post k0.toNatClampNeg f2 f0) ∧
  (k0 = (Int32.ofNat n0) → False))
set_option maxHeartbeats 4000000 in
set_option maxRecDepth 100000 in
theorem c_JA_copyOf_aJI (l : Launch) (dC : Nat → ClassId) (dI : Nat → Nat → Nat) (cI cJ cZ cQ : ClassId) (a_a n0 : Nat) (sz : Nat) (f0 : Nat → Int64) (k0 : Int32) (mc ms : Nat) (Post : Nat → (Nat → Int64) → (Nat → Int64) → Prop) (h : wp_JA_copyOf_aJI Post mc ms n0 f0 k0) : Met l y_JA_copyOf_aJI (.code y_JA_copyOf_aJI b_JA_copyOf_aJI 3 (some (.array .long)) :: jW) ({ frames := 10, cells := mc, slots := ms, locals := 150 } : Room) (jPre l (dC, dI) cI cJ cZ cQ [(a_a, .inl (cJ, n0, .inr (.inl f0)))] sz [.ref a_a, .int k0]) (jQ_JA_copyOf_aJI dC dI cI cJ cZ cQ (va_A [(a_a, .inl (cJ, n0, .inr (.inl f0)))] sz) a_a n0 Post) mc ms (va_A [(a_a, .inl (cJ, n0, .inr (.inl f0)))] sz) := by
  refine Met.ofW (cc := b_JA_copyOf_aJI) (maxL := 3) (ret := (some (.array .long))) (by decide) rfl ?_
  intro p e s m args below meth c s₁ B hml hv
  obtain ⟨rfl, hsz, hP, hK, hD0, hZ, hst⟩ := hv
  subst hsz
  have hD := hD0.self (sz := s.heap.size)
  generalize hAe : va_A [(a_a, .inl (cJ, n0, .inr (.inl f0)))] s.heap.size = A at hD hZ ⊢
  have hA : ∀ q : Nat, s.heap.size ≤ q → A q := fun q h => by rw [← hAe]; exact Or.inr h
  have C0 : jC p l s m ([.ref a_a, .int k0] : List Value).toArray meth c b_JA_copyOf_aJI (some (.array .long)) 3 R_JA (dC, dI) cI cJ cZ cQ A := ⟨B.exec, B.bytes, B.returns, hml, findClass_of_methodNamed B.named, fun w hw => atoms_spec (ws := (.code y_JA_copyOf_aJI b_JA_copyOf_aJI 3 (some (.array .long)) :: jW)) B.pre w (List.mem_cons_of_mem _ hw), B.notSynchronized, hK, hZ, hA, hst⟩
  obtain ⟨hx, hb, hr, hml, hown, hts, hlocks, hK, hZ, hA, hst⟩ := id C0
  have hS : va_S A s.heap s.heap [] := va_S.rf
  have hl := lv_entry ([.ref a_a, .int k0]) (n := 3) (Nat.le_of_ble_eq_true rfl)
  rw [lg_entry_eq]
  generalize (lg_sl ([.ref a_a, .int k0]) ++ List.replicate (3 - (lg_sl ([.ref a_a, .int k0])).length) Slot.unset).toArray = ls at hl ⊢
  have hl : lv_has ls 3 [(0, .ref a_a), (1, .int k0)] := hl
  obtain ⟨H, hH⟩ : ∃ H : Heap, H = s.heap := ⟨_, rfl⟩
  obtain ⟨locs, hlc⟩ : ∃ L : List Loc, L = [] := ⟨_, rfl⟩
  have hP : va_P (dC, dI) vwCl [(a_a, .inl (cJ, n0, .inr (.inl f0)))] H := by rw [hH]; exact hP
  have hS : va_S A s.heap H locs := by rw [hH, hlc]; exact hS
  suffices hW9 : W p l e ({ frames := 10, cells := mc, slots := ms, locals := 150 } : Room) s m ([.ref a_a, .int k0] : List Value).toArray below meth c H locs 0 0 (MQ below (jQ_JA_copyOf_aJI dC dI cI cJ cZ cQ A a_a n0 Post) ([.ref a_a, .int k0] : List Value).toArray s mc ms A) (F0 m 0 ls []) by rw [hH, hlc] at hW9; exact hW9
  clear hH hlc
  rw [wp_JA_copyOf_aJI] at h
  refine lv_iload_n hx hb d_JA_copyOf_aJI_0 rfl (lv_at hl 1 rfl) ?_
  refine lv_aload_n hx hb d_JA_copyOf_aJI_1 rfl (lv_at hl 0 rfl) ?_
  refine va_alen hx hb hK hP 0 1 (ty := .long) rfl rfl (v := Int32.ofNat n0) rfl d_JA_copyOf_aJI_2 ?_
  refine lv_icmp_ne (tgt := 14) hx hb d_JA_copyOf_aJI_3 (by decide) (fun c3 => ?_) (fun c3 => ?_)
  · have h := h.1 c3
    refine lv_iload_n hx hb d_JA_copyOf_aJI_14 rfl (lv_at hl 1 rfl) ?_
    have hn9 := h.1
    have hb9 := h.2.1
    have h := h.2.2
    have hrc := h.1
    have hrs := h.2.1
    have h := h.2.2
    refine va_newa (atype := .long) (ty := .long) (N' := k0.toNatClampNeg) (a0 := (k0.toNatClampNeg, .inr (.inl (fun _ => 0)))) hx hb (hts _ mw_83) rfl hK hP hD hS hA (fun _ => rfl) hn9 rfl hb9 hrc hrs d_JA_copyOf_aJI_15 (fun q1 cA9 H hK9 hP hD hS => ?_)
    obtain rfl := (jx_long 1 hK9 rfl).symm
    have hP : va_P (dC, dI) vwCl [(a_a, .inl (cJ, n0, .inr (.inl f0))), (q1, .inl (cJ, k0.toNatClampNeg, .inr (.inl (fun _ => 0))))] H := hP
    have hD : va_D A [(a_a, .inl (cJ, n0, .inr (.inl f0))), (q1, .inl (cJ, k0.toNatClampNeg, .inr (.inl (fun _ => 0))))] := hD
    refine lv_astore_n (lv' := [(2, .ref q1), (0, .ref a_a), (1, .int k0)]) hx hb d_JA_copyOf_aJI_17 rfl hl (by decide) rfl (fun ls hl => ?_)
    refine lv_aload_n hx hb d_JA_copyOf_aJI_18 rfl (lv_at hl 1 rfl) ?_
    refine lv_iconst (v := 0) hx hb d_JA_copyOf_aJI_19 (by decide) ?_
    refine lv_aload_n hx hb d_JA_copyOf_aJI_20 rfl (lv_at hl 0 rfl) ?_
    refine lv_iconst (v := 0) hx hb d_JA_copyOf_aJI_21 (by decide) ?_
    refine lv_aload_n hx hb d_JA_copyOf_aJI_22 rfl (lv_at hl 1 rfl) ?_
    refine va_alen hx hb hK hP 0 1 (ty := .long) rfl rfl (v := Int32.ofNat n0) rfl d_JA_copyOf_aJI_23 ?_
    refine lv_iload_n hx hb d_JA_copyOf_aJI_24 rfl (lv_at hl 2 rfl) ?_
    refine va_mmin hx hb (hml.trans hl.1.symm) hown (hts _ mw_420) (hts _ mw_421) (hts _ mw_19) (hts _ mw_422) (Nat.le_of_ble_eq_true rfl) (Nat.le_of_ble_eq_true rfl) h.1 h.2.1 d_JA_copyOf_aJI_25 ?_
    have h := h.2.2
    refine va_copyl hx hb (hml.trans hl.1.symm) hown (hts _ mw_423) (hts _ mw_425) (hts _ mw_424) (hts _ mw_20) hK hP hD hS 0 1 1 1 rfl rfl rfl rfl rfl (by decide) (by decide) h.1 h.2.1 h.2.2.1 (fun _ _ => rfl) (Nat.le_of_ble_eq_true rfl) (Nat.le_of_ble_eq_true rfl) d_JA_copyOf_aJI_28 (fun H locs hP hD hS => ?_)
    have h := h.2.2.2
    obtain ⟨f2, ef2⟩ : ∃ y : Nat → Int64, y = va_cpy f0 (fun _ => 0) (0 : Int32).toNatClampNeg (0 : Int32).toNatClampNeg (if k0 < (Int32.ofNat n0) then k0 else (Int32.ofNat n0)).toNatClampNeg := ⟨_, rfl⟩
    rw [← ef2] at hP hD
    have h := h f2 ef2
    have hP : va_P (dC, dI) vwCl [(a_a, .inl (cJ, n0, .inr (.inl f0))), (q1, .inl (cJ, k0.toNatClampNeg, .inr (.inl f2)))] H := hP
    have hD : va_D A [(a_a, .inl (cJ, n0, .inr (.inl f0))), (q1, .inl (cJ, k0.toNatClampNeg, .inr (.inl f2)))] := hD
    refine lv_aload_n hx hb d_JA_copyOf_aJI_31 rfl (lv_at hl 0 rfl) ?_
    refine W.widen (k := mc) (n := ms) h.1 h.2.1 ?_
    have h := h.2.2
    have hP9 := hP.sub (ws' := [(a_a, .inl (cJ, n0, .inr (.inl f0))), (q1, .inl (cJ, k0.toNatClampNeg, .inr (.inl f2)))]) [0, 1] rfl
    have hD9 := hD.sub (ws' := [(a_a, .inl (cJ, n0, .inr (.inl f0))), (q1, .inl (cJ, k0.toNatClampNeg, .inr (.inl f2)))]) [0, 1] (by decide) rfl
    exact W.aret (v := .ref q1) hx hb hr (by first | exact Or.inl ⟨_, rfl⟩ | exact Or.inr ⟨_, rfl⟩) (Or.inr ⟨_, rfl⟩) (fun t ht hW => ⟨⟨(k0.toNatClampNeg, f2, f0), q1, rfl, h, by rw [ht]; exact hP9, va_K.moved hW.alike hK, hD9⟩, hS.F ht⟩) hS.2.2 d_JA_copyOf_aJI_32
  · have h := h.2 c3
    refine lv_aload_n hx hb d_JA_copyOf_aJI_6 rfl (lv_at hl 0 rfl) ?_
    exact h.elim

/-- what OrderMachines$Room.empty()V leaves -/
abbrev jQ_RO_empty (dC : Nat → ClassId) (dI : Nat → Nat → Nat) (cI cJ cZ cQ : ClassId) (A : Nat → Prop) (a_ro : Nat) (Post : Int32 → Int32 → Int32 → Nat → (Nat → Int64) → Nat → (Nat → Int64) → Nat → (Nat → Int32) → Prop) : Array Value → State → Outcome → State → Prop := va_Qv (fun (u : Int32 × Int32 × Int32 × Nat × (Nat → Int64) × Nat × (Nat → Int64) × Nat × (Nat → Int32)) => Post u.1 u.2.1 u.2.2.1 u.2.2.2.1 u.2.2.2.2.1 u.2.2.2.2.2.1 u.2.2.2.2.2.2.1 u.2.2.2.2.2.2.2.1 u.2.2.2.2.2.2.2.2) (fun (u : Int32 × Int32 × Int32 × Nat × (Nat → Int64) × Nat × (Nat → Int64) × Nat × (Nat → Int32)) (t : State) => match u with
  | (rmask, rsize, rcr, n1, fme, n2, fbu, n3, fsl) => ∃ (a_rme a_rbu a_rsl : Nat), jPost (dC, dI) (jT cI cJ cZ cQ) A [(a_ro, .inr (2, [.ref a_rme, .ref a_rbu, .ref a_rsl, .int rmask, .int rsize, .int rcr])), (a_rme, .inl (cJ, n1, .inr (.inl fme))), (a_rbu, .inl (cJ, n2, .inr (.inl fbu))), (a_rsl, .inl (cI, n3, .inl fsl))] t) A
/-- OrderMachines$Room.empty()V -/
def wp_RO_empty (Post : Int32 → Int32 → Int32 → Nat → (Nat → Int64) → Nat → (Nat → Int64) → Nat → (Nat → Int32) → Prop) (rmask rsize rcr : Int32) (n1 : Nat) (fme : Nat → Int64) (n2 : Nat) (fbu : Nat → Int64) (n3 : Nat) (fsl : Nat → Int32) : Prop :=
  wp_JA_fill_aIIII (fun (u2 : Nat → Int32) => Post 511 0 0 n1 fme n2 fbu n3 u2) n3 fsl 0 512 0
set_option maxHeartbeats 4000000 in
set_option maxRecDepth 100000 in
theorem c_RO_empty (l : Launch) (dC : Nat → ClassId) (dI : Nat → Nat → Nat) (cI cJ cZ cQ : ClassId) (a_ro : Nat) (a_rme a_rbu a_rsl : Nat) (sz : Nat) (rmask rsize rcr : Int32) (n1 : Nat) (fme : Nat → Int64) (n2 : Nat) (fbu : Nat → Int64) (n3 : Nat) (fsl : Nat → Int32) (Post : Int32 → Int32 → Int32 → Nat → (Nat → Int64) → Nat → (Nat → Int64) → Nat → (Nat → Int32) → Prop) (h : wp_RO_empty Post rmask rsize rcr n1 fme n2 fbu n3 fsl) : Met l y_RO_empty (.code y_RO_empty b_RO_empty 1 none :: jW) ({ frames := 12, cells := 0, slots := 0, locals := 196 } : Room) (jPre l (dC, dI) cI cJ cZ cQ [(a_ro, .inr (2, [.ref a_rme, .ref a_rbu, .ref a_rsl, .int rmask, .int rsize, .int rcr])), (a_rme, .inl (cJ, n1, .inr (.inl fme))), (a_rbu, .inl (cJ, n2, .inr (.inl fbu))), (a_rsl, .inl (cI, n3, .inl fsl))] sz [.ref a_ro]) (jQ_RO_empty dC dI cI cJ cZ cQ (va_A [(a_ro, .inr (2, [.ref a_rme, .ref a_rbu, .ref a_rsl, .int rmask, .int rsize, .int rcr])), (a_rme, .inl (cJ, n1, .inr (.inl fme))), (a_rbu, .inl (cJ, n2, .inr (.inl fbu))), (a_rsl, .inl (cI, n3, .inl fsl))] sz) a_ro Post) 0 0 (va_A [(a_ro, .inr (2, [.ref a_rme, .ref a_rbu, .ref a_rsl, .int rmask, .int rsize, .int rcr])), (a_rme, .inl (cJ, n1, .inr (.inl fme))), (a_rbu, .inl (cJ, n2, .inr (.inl fbu))), (a_rsl, .inl (cI, n3, .inl fsl))] sz) := by
  refine Met.ofW (cc := b_RO_empty) (maxL := 1) (ret := none) (by decide) rfl ?_
  intro p e s m args below meth c s₁ B hml hv
  obtain ⟨rfl, hsz, hP, hK, hD0, hZ, hst⟩ := hv
  subst hsz
  have hD := hD0.self (sz := s.heap.size)
  generalize hAe : va_A [(a_ro, .inr (2, [.ref a_rme, .ref a_rbu, .ref a_rsl, .int rmask, .int rsize, .int rcr])), (a_rme, .inl (cJ, n1, .inr (.inl fme))), (a_rbu, .inl (cJ, n2, .inr (.inl fbu))), (a_rsl, .inl (cI, n3, .inl fsl))] s.heap.size = A at hD hZ ⊢
  have hA : ∀ q : Nat, s.heap.size ≤ q → A q := fun q h => by rw [← hAe]; exact Or.inr h
  have C0 : jC p l s m ([.ref a_ro] : List Value).toArray meth c b_RO_empty none 1 R_RO (dC, dI) cI cJ cZ cQ A := ⟨B.exec, B.bytes, B.returns, hml, findClass_of_methodNamed B.named, fun w hw => atoms_spec (ws := (.code y_RO_empty b_RO_empty 1 none :: jW)) B.pre w (List.mem_cons_of_mem _ hw), B.notSynchronized, hK, hZ, hA, hst⟩
  obtain ⟨hx, hb, hr, hml, hown, hts, hlocks, hK, hZ, hA, hst⟩ := id C0
  have hS : va_S A s.heap s.heap [] := va_S.rf
  have hl := lv_entry ([.ref a_ro]) (n := 1) (Nat.le_of_ble_eq_true rfl)
  rw [lg_entry_eq]
  generalize (lg_sl ([.ref a_ro]) ++ List.replicate (1 - (lg_sl ([.ref a_ro])).length) Slot.unset).toArray = ls at hl ⊢
  have hl : lv_has ls 1 [(0, .ref a_ro)] := hl
  obtain ⟨H, hH⟩ : ∃ H : Heap, H = s.heap := ⟨_, rfl⟩
  obtain ⟨locs, hlc⟩ : ∃ L : List Loc, L = [] := ⟨_, rfl⟩
  have hP : va_P (dC, dI) vwCl [(a_ro, .inr (2, [.ref a_rme, .ref a_rbu, .ref a_rsl, .int rmask, .int rsize, .int rcr])), (a_rme, .inl (cJ, n1, .inr (.inl fme))), (a_rbu, .inl (cJ, n2, .inr (.inl fbu))), (a_rsl, .inl (cI, n3, .inl fsl))] H := by rw [hH]; exact hP
  have hS : va_S A s.heap H locs := by rw [hH, hlc]; exact hS
  suffices hW9 : W p l e ({ frames := 12, cells := 0, slots := 0, locals := 196 } : Room) s m ([.ref a_ro] : List Value).toArray below meth c H locs 0 0 (MQ below (jQ_RO_empty dC dI cI cJ cZ cQ A a_ro Post) ([.ref a_ro] : List Value).toArray s 0 0 A) (F0 m 0 ls []) by rw [hH, hlc] at hW9; exact hW9
  clear hH hlc
  rw [wp_RO_empty] at h
  refine lv_aload_n hx hb d_RO_empty_0 rfl (lv_at hl 0 rfl) ?_
  refine lv_sipush (v := 511) hx hb d_RO_empty_1 (by decide) ?_
  refine va_put (D := (dC, dI)) (ci := 2) (v := .int 511) (ty := .int) (C := R_RO) (T := T_RO) (N := 6) hx hb hts in_RO ty_RO tok_RO nm_RO hown hK hP hD hS 0 rfl rfl 3 (by decide) (hts _ mw_65) (fun _ h9 => h9) rfl (by decide +kernel) rfl rfl (Nat.le_of_ble_eq_true rfl) d_RO_empty_4 (fun H locs hP hD hS => ?_)
  have hP : va_P (dC, dI) vwCl [(a_ro, .inr (2, [.ref a_rme, .ref a_rbu, .ref a_rsl, .int 511, .int rsize, .int rcr])), (a_rme, .inl (cJ, n1, .inr (.inl fme))), (a_rbu, .inl (cJ, n2, .inr (.inl fbu))), (a_rsl, .inl (cI, n3, .inl fsl))] H := hP
  have hD : va_D A [(a_ro, .inr (2, [.ref a_rme, .ref a_rbu, .ref a_rsl, .int 511, .int rsize, .int rcr])), (a_rme, .inl (cJ, n1, .inr (.inl fme))), (a_rbu, .inl (cJ, n2, .inr (.inl fbu))), (a_rsl, .inl (cI, n3, .inl fsl))] := hD
  refine lv_aload_n hx hb d_RO_empty_7 rfl (lv_at hl 0 rfl) ?_
  refine va_get (D := (dC, dI)) (ci := 2) (v := .ref a_rsl) (C := R_RO) (T := T_RO) (N := 6) hx hb hts in_RO hown hK hP 0 rfl rfl 2 (by decide) (hts _ mw_64) (fun _ h9 => h9) rfl d_RO_empty_8 ?_
  refine lv_iconst (v := 0) hx hb d_RO_empty_11 (by decide) ?_
  refine lv_sipush (v := 512) hx hb d_RO_empty_12 (by decide) ?_
  refine lv_iconst (v := 0) hx hb d_RO_empty_15 (by decide) ?_
  have hPc := hP.sub (ws' := [(a_rsl, .inl (cI, n3, .inl fsl))]) [3] rfl
  have hDc := hD.sub (ws' := [(a_rsl, .inl (cI, n3, .inl fsl))]) [3] (by decide) rfl
  have hFc := va_free (wc := [(a_rsl, .inl (cI, n3, .inl fsl))]) hD hS hA [3] rfl
  refine va_callv (va_runS (As := [.ref a_rsl, .int 0, .int 512, .int 0]) (rest := []) ⟨hx, hb, hml, hown, hts⟩ (c_JA_fill_aIIII l dC dI cI cJ cZ cQ a_rsl n3 H.size fsl 0 512 0 _  h) (va_cwS 4 hts (goodIn_app (jGl (List.forall_mem_cons.mpr ⟨mw_341, List.forall_mem_cons.mpr ⟨mw_342, List.forall_mem_cons.mpr ⟨mw_13, fun _ h => absurd h List.not_mem_nil⟩⟩⟩)) (jG mw_343)) rfl rfl rfl (by decide +kernel) ⟨Nat.le_of_ble_eq_true rfl, Nat.le_of_ble_eq_true rfl⟩) ⟨jPre_blind, jPre_in hPc hK hDc hZ hS hFc hst⟩ rfl rfl hl.1 rfl (lv_room (Nat.le_of_ble_eq_true rfl)) d_RO_empty_16 ⟨(Nat.zero_le _), (Nat.zero_le _)⟩) hS (fun q _ h => hFc q h) hFc (fun u t H1 locs ht hvm hw hB hz1 hk1 hS => ?_)
  obtain ⟨u2, rfl⟩ : ∃ z, z = u := ⟨_, rfl⟩
  obtain ⟨hP1, hK1, hD1⟩ := hB
  rw [ht] at hP1
  have h := hw
  obtain ⟨hP, hD⟩ := va_join (wr := [(a_ro, .inr (2, [.ref a_rme, .ref a_rbu, .ref a_rsl, .int 511, .int rsize, .int rcr])), (a_rme, .inl (cJ, n1, .inr (.inl fme))), (a_rbu, .inl (cJ, n2, .inr (.inl fbu)))]) (w1 := [(a_rsl, .inl (cI, n3, .inl u2))]) hP hD [3] [0, 1, 2] rfl rfl (by decide) (by decide) hk1 hFc hP1 hD1
  generalize H1 = H at hP hS ⊢
  have hP : va_P (dC, dI) vwCl [(a_ro, .inr (2, [.ref a_rme, .ref a_rbu, .ref a_rsl, .int 511, .int rsize, .int rcr])), (a_rme, .inl (cJ, n1, .inr (.inl fme))), (a_rbu, .inl (cJ, n2, .inr (.inl fbu))), (a_rsl, .inl (cI, n3, .inl u2))] H := hP
  have hD : va_D A [(a_ro, .inr (2, [.ref a_rme, .ref a_rbu, .ref a_rsl, .int 511, .int rsize, .int rcr])), (a_rme, .inl (cJ, n1, .inr (.inl fme))), (a_rbu, .inl (cJ, n2, .inr (.inl fbu))), (a_rsl, .inl (cI, n3, .inl u2))] := hD
  refine lv_aload_n hx hb d_RO_empty_19 rfl (lv_at hl 0 rfl) ?_
  refine lv_iconst (v := 0) hx hb d_RO_empty_20 (by decide) ?_
  refine va_put (D := (dC, dI)) (ci := 2) (v := .int 0) (ty := .int) (C := R_RO) (T := T_RO) (N := 6) hx hb hts in_RO ty_RO tok_RO nm_RO hown hK hP hD hS 0 rfl rfl 4 (by decide) (hts _ mw_66) (fun _ h9 => h9) rfl (by decide +kernel) rfl rfl (Nat.le_of_ble_eq_true rfl) d_RO_empty_21 (fun H locs hP hD hS => ?_)
  have hP : va_P (dC, dI) vwCl [(a_ro, .inr (2, [.ref a_rme, .ref a_rbu, .ref a_rsl, .int 511, .int 0, .int rcr])), (a_rme, .inl (cJ, n1, .inr (.inl fme))), (a_rbu, .inl (cJ, n2, .inr (.inl fbu))), (a_rsl, .inl (cI, n3, .inl u2))] H := hP
  have hD : va_D A [(a_ro, .inr (2, [.ref a_rme, .ref a_rbu, .ref a_rsl, .int 511, .int 0, .int rcr])), (a_rme, .inl (cJ, n1, .inr (.inl fme))), (a_rbu, .inl (cJ, n2, .inr (.inl fbu))), (a_rsl, .inl (cI, n3, .inl u2))] := hD
  refine lv_aload_n hx hb d_RO_empty_24 rfl (lv_at hl 0 rfl) ?_
  refine lv_iconst (v := 0) hx hb d_RO_empty_25 (by decide) ?_
  refine va_put (D := (dC, dI)) (ci := 2) (v := .int 0) (ty := .boolean) (C := R_RO) (T := T_RO) (N := 6) hx hb hts in_RO ty_RO tok_RO nm_RO hown hK hP hD hS 0 rfl rfl 5 (by decide) (hts _ mw_68) (fun _ h9 => h9) rfl (by decide +kernel) rfl rfl (Nat.le_of_ble_eq_true rfl) d_RO_empty_26 (fun H locs hP hD hS => ?_)
  have hP : va_P (dC, dI) vwCl [(a_ro, .inr (2, [.ref a_rme, .ref a_rbu, .ref a_rsl, .int 511, .int 0, .int 0])), (a_rme, .inl (cJ, n1, .inr (.inl fme))), (a_rbu, .inl (cJ, n2, .inr (.inl fbu))), (a_rsl, .inl (cI, n3, .inl u2))] H := hP
  have hD : va_D A [(a_ro, .inr (2, [.ref a_rme, .ref a_rbu, .ref a_rsl, .int 511, .int 0, .int 0])), (a_rme, .inl (cJ, n1, .inr (.inl fme))), (a_rbu, .inl (cJ, n2, .inr (.inl fbu))), (a_rsl, .inl (cI, n3, .inl u2))] := hD
  have hP9 := hP
  have hD9 := hD
  exact W.vret hx hb hr (fun t ht hW => ⟨⟨(511, 0, 0, n1, fme, n2, fbu, n3, u2), rfl, h, a_rme, a_rbu, a_rsl, by rw [ht]; exact hP9, va_K.moved hW.alike hK, hD9⟩, hS.F ht⟩) hS.2.2 d_RO_empty_29

/-- what OrderMachines$Room.slotOf(JJ)I leaves -/
abbrev jQ_RO_slotOf (dC : Nat → ClassId) (dI : Nat → Nat → Nat) (cI cJ cZ cQ : ClassId) (A : Nat → Prop) (a_ro : Nat) (Post : Int32 → Int32 → Int32 → Int32 → Nat → (Nat → Int64) → Nat → (Nat → Int64) → Nat → (Nat → Int32) → Prop) : Array Value → State → Outcome → State → Prop := va_Qi (fun (r : Int32) (u : Int32 × Int32 × Int32 × Nat × (Nat → Int64) × Nat × (Nat → Int64) × Nat × (Nat → Int32)) => Post r u.1 u.2.1 u.2.2.1 u.2.2.2.1 u.2.2.2.2.1 u.2.2.2.2.2.1 u.2.2.2.2.2.2.1 u.2.2.2.2.2.2.2.1 u.2.2.2.2.2.2.2.2) (fun (u : Int32 × Int32 × Int32 × Nat × (Nat → Int64) × Nat × (Nat → Int64) × Nat × (Nat → Int32)) (t : State) => match u with
  | (rmask, rsize, rcr, n1, fme, n2, fbu, n3, fsl) => ∃ (a_rme a_rbu a_rsl : Nat), jPost (dC, dI) (jT cI cJ cZ cQ) A [(a_ro, .inr (2, [.ref a_rme, .ref a_rbu, .ref a_rsl, .int rmask, .int rsize, .int rcr])), (a_rme, .inl (cJ, n1, .inr (.inl fme))), (a_rbu, .inl (cJ, n2, .inr (.inl fbu))), (a_rsl, .inl (cI, n3, .inl fsl))] t) A
def wp_RO_slotOf_95 (Post : Int32 → Int32 → Int32 → Int32 → Nat → (Nat → Int64) → Nat → (Nat → Int64) → Nat → (Nat → Int32) → Prop) (K43 : Int32 → Int32 → Int32 → Nat → (Nat → Int64) → Nat → (Nat → Int64) → Nat → (Nat → Int32) → Int64 → Int64 → Int32 → Int32 → Prop) (rmask rsize rcr : Int32) (n1 : Nat) (fme : Nat → Int64) (n2 : Nat) (fbu : Nat → Int64) (n3 : Nat) (fsl : Nat → Int32) (L1 L3 : Int64) (L7 L8 : Int32) : Prop :=
    ∀ x5 : Int32, x5 = (L7 + 1) &&& rmask → ∀ x6 : Int32, x6 = L8 + 1 → K43 rmask rsize rcr n1 fme n2 fbu n3 fsl L1 L3 x5 x6
def wp_RO_slotOf_43 (Post : Int32 → Int32 → Int32 → Int32 → Nat → (Nat → Int64) → Nat → (Nat → Int64) → Nat → (Nat → Int32) → Prop)  : Nat → Int32 → Int32 → Int32 → Nat → (Nat → Int64) → Nat → (Nat → Int64) → Nat → (Nat → Int32) → Int64 → Int64 → Int32 → Int32 → Prop
  | 0, _, _, _, _, _, _, _, _, _, _, _, _, _ => False
  | n_43 + 1, rmask, rsize, rcr, n1, fme, n2, fbu, n3, fsl, L1, L3, L7, L8 =>
    ((rmask < L8 → Post (-1) rmask rsize rcr n1 fme n2 fbu n3 fsl) ∧
    (¬ rmask < L8 → vp_in L7 n3 ∧ ∀ x4 : Int32, x4 = (fsl L7.toNatClampNeg) - 1 → ((x4 < 0 → Post L7 rmask rsize rcr n1 fme n2 fbu n3 fsl) ∧
      (¬ x4 < 0 → vp_in x4 n1 ∧ ((¬ (lg_cmp (fme x4.toNatClampNeg) L1) = 0 → wp_RO_slotOf_95 Post (fun (rmask : Int32) (rsize : Int32) (rcr : Int32) (n1 : Nat) (fme : Nat → Int64) (n2 : Nat) (fbu : Nat → Int64) (n3 : Nat) (fsl : Nat → Int32) (L1 : Int64) (L3 : Int64) (L7 : Int32) (L8 : Int32) => wp_RO_slotOf_43 Post n_43 rmask rsize rcr n1 fme n2 fbu n3 fsl L1 L3 L7 L8) rmask rsize rcr n1 fme n2 fbu n3 fsl L1 L3 L7 L8) ∧
        ((lg_cmp (fme x4.toNatClampNeg) L1) = 0 → vp_in x4 n2 ∧ ((¬ (lg_cmp (fbu x4.toNatClampNeg) L3) = 0 → wp_RO_slotOf_95 Post (fun (rmask : Int32) (rsize : Int32) (rcr : Int32) (n1 : Nat) (fme : Nat → Int64) (n2 : Nat) (fbu : Nat → Int64) (n3 : Nat) (fsl : Nat → Int32) (L1 : Int64) (L3 : Int64) (L7 : Int32) (L8 : Int32) => wp_RO_slotOf_43 Post n_43 rmask rsize rcr n1 fme n2 fbu n3 fsl L1 L3 L7 L8) rmask rsize rcr n1 fme n2 fbu n3 fsl L1 L3 L7 L8) ∧
          ((lg_cmp (fbu x4.toNatClampNeg) L3) = 0 → Post L7 rmask rsize rcr n1 fme n2 fbu n3 fsl))))))))
/-- OrderMachines$Room.slotOf(JJ)I -/
def wp_RO_slotOf (Post : Int32 → Int32 → Int32 → Int32 → Nat → (Nat → Int64) → Nat → (Nat → Int64) → Nat → (Nat → Int32) → Prop) (rmask rsize rcr : Int32) (n1 : Nat) (fme : Nat → Int64) (n2 : Nat) (fbu : Nat → Int64) (n3 : Nat) (fsl : Nat → Int32) (x0 y0 : Int64) : Prop :=
  ∀ x1 : Int64, x1 = (x0 * (-7046029254386353131)) + (y0 * (-4417276706812531889)) → ∀ x2 : Int64, x2 = (x1 ^^^ ((x1.toUInt64 >>> ((32 : Int32).toInt64.toUInt64 &&& Int64.toUInt64 63)).toInt64)) * (-7046029254386353131) → ∀ x3 : Int32, x3 = (((x2.toUInt64 >>> ((32 : Int32).toInt64.toUInt64 &&& Int64.toUInt64 63)).toInt64).toInt32) &&& rmask → (∃ n_43 : Nat, wp_RO_slotOf_43 Post n_43 rmask rsize rcr n1 fme n2 fbu n3 fsl x0 y0 x3 0)
set_option maxHeartbeats 4000000 in
set_option maxRecDepth 100000 in
theorem l_RO_slotOf_95 {p : Program} {l : Launch} {e : Env} {s : State} {m : MethodId} {args : Array Value} {below : List Frame} {meth : Method} {c : Code} {dC : Nat → ClassId} {dI : Nat → Nat → Nat} {cI cJ cZ cQ : ClassId} {a_ro : Nat} {A : Nat → Prop} {Post : Int32 → Int32 → Int32 → Int32 → Nat → (Nat → Int64) → Nat → (Nat → Int64) → Nat → (Nat → Int32) → Prop} (C0 : jC p l s m args meth c b_RO_slotOf (some .int) 10 R_RO (dC, dI) cI cJ cZ cQ A) (K43 : Int32 → Int32 → Int32 → Nat → (Nat → Int64) → Nat → (Nat → Int64) → Nat → (Nat → Int32) → Int64 → Int64 → Int32 → Int32 → Prop) (hK43 : ∀ (rmask rsize rcr : Int32) (n1 : Nat) (fme : Nat → Int64) (n2 : Nat) (fbu : Nat → Int64) (n3 : Nat) (fsl : Nat → Int32) (L1 L3 : Int64) (L7 L8 : Int32), ∀ (a_rme a_rbu a_rsl : Nat), ∀ (H : Heap) (locs : List Loc) (ls : Array Slot), K43 rmask rsize rcr n1 fme n2 fbu n3 fsl L1 L3 L7 L8 → va_P (dC, dI) vwCl [(a_ro, .inr (2, [.ref a_rme, .ref a_rbu, .ref a_rsl, .int rmask, .int rsize, .int rcr])), (a_rme, .inl (cJ, n1, .inr (.inl fme))), (a_rbu, .inl (cJ, n2, .inr (.inl fbu))), (a_rsl, .inl (cI, n3, .inl fsl))] H → va_D A [(a_ro, .inr (2, [.ref a_rme, .ref a_rbu, .ref a_rsl, .int rmask, .int rsize, .int rcr])), (a_rme, .inl (cJ, n1, .inr (.inl fme))), (a_rbu, .inl (cJ, n2, .inr (.inl fbu))), (a_rsl, .inl (cI, n3, .inl fsl))] → va_S A s.heap H locs → lv_has ls 10 [(0, .ref a_ro), (1, .long L1), (3, .long L3), (7, .int L7), (8, .int L8)] → W p l e ({ frames := 10, cells := 0, slots := 0, locals := 150 } : Room) s m args below meth c H locs 0 0 (MQ below (jQ_RO_slotOf dC dI cI cJ cZ cQ A a_ro Post) args s 0 0 A) (F0 m 43 ls [])) : ∀ (rmask rsize rcr : Int32) (n1 : Nat) (fme : Nat → Int64) (n2 : Nat) (fbu : Nat → Int64) (n3 : Nat) (fsl : Nat → Int32) (L1 L3 : Int64) (L7 L8 : Int32), ∀ (a_rme a_rbu a_rsl : Nat), ∀ (H : Heap) (locs : List Loc) (ls : Array Slot), wp_RO_slotOf_95 Post K43 rmask rsize rcr n1 fme n2 fbu n3 fsl L1 L3 L7 L8 → va_P (dC, dI) vwCl [(a_ro, .inr (2, [.ref a_rme, .ref a_rbu, .ref a_rsl, .int rmask, .int rsize, .int rcr])), (a_rme, .inl (cJ, n1, .inr (.inl fme))), (a_rbu, .inl (cJ, n2, .inr (.inl fbu))), (a_rsl, .inl (cI, n3, .inl fsl))] H → va_D A [(a_ro, .inr (2, [.ref a_rme, .ref a_rbu, .ref a_rsl, .int rmask, .int rsize, .int rcr])), (a_rme, .inl (cJ, n1, .inr (.inl fme))), (a_rbu, .inl (cJ, n2, .inr (.inl fbu))), (a_rsl, .inl (cI, n3, .inl fsl))] → va_S A s.heap H locs → lv_has ls 10 [(0, .ref a_ro), (1, .long L1), (3, .long L3), (7, .int L7), (8, .int L8)] → W p l e ({ frames := 10, cells := 0, slots := 0, locals := 150 } : Room) s m args below meth c H locs 0 0 (MQ below (jQ_RO_slotOf dC dI cI cJ cZ cQ A a_ro Post) args s 0 0 A) (F0 m 95 ls []) := by
  obtain ⟨hx, hb, hr, hml, hown, hts, hlocks, hK, hZ, hA, hst⟩ := id C0
  intro rmask rsize rcr n1 fme n2 fbu n3 fsl L1 L3 L7 L8 a_rme a_rbu a_rsl H locs ls h hP hD hS hl
  rw [wp_RO_slotOf_95] at h
  refine lv_iload hx hb d_RO_slotOf_95 (lv_at hl 3 rfl) ?_
  refine lv_iconst (v := 1) hx hb d_RO_slotOf_97 (by decide) ?_
  refine lv_iadd hx hb d_RO_slotOf_98 ?_
  refine lv_aload_n hx hb d_RO_slotOf_99 rfl (lv_at hl 0 rfl) ?_
  refine va_get (D := (dC, dI)) (ci := 2) (v := .int rmask) (C := R_RO) (T := T_RO) (N := 6) hx hb hts in_RO hown hK hP 0 rfl rfl 3 (by decide) (hts _ mw_65) (fun _ h9 => h9) rfl d_RO_slotOf_100 ?_
  refine lv_iand hx hb d_RO_slotOf_103 ?_
  refine lv_topi (fun x5 ex5 => ?_)
  have h := h x5 ex5
  refine lv_istore (lv' := [(7, .int x5), (0, .ref a_ro), (1, .long L1), (3, .long L3), (8, .int L8)]) hx hb d_RO_slotOf_104 hl (by decide) rfl (fun ls hl => ?_)
  obtain ⟨x6, ex6⟩ : ∃ y : Int32, y = L8 + 1 := ⟨_, rfl⟩
  have h := h x6 ex6
  refine lv_iinc (v := x6) (lv' := [(8, .int x6), (7, .int x5), (0, .ref a_ro), (1, .long L1), (3, .long L3)]) hx hb d_RO_slotOf_106 hl (k := 4) rfl (by rw [ex6]; rfl) (by decide) rfl (fun ls hl => ?_)
  refine lv_goto (tgt := 43) hx hb d_RO_slotOf_109 (by decide) ?_
  exact hK43 rmask rsize rcr n1 fme n2 fbu n3 fsl L1 L3 x5 x6 a_rme a_rbu a_rsl H locs ls h hP hD hS (lv_sub hl [2, 3, 4, 1, 0] rfl)
set_option maxHeartbeats 4000000 in
set_option maxRecDepth 100000 in
theorem l_RO_slotOf_43 {p : Program} {l : Launch} {e : Env} {s : State} {m : MethodId} {args : Array Value} {below : List Frame} {meth : Method} {c : Code} {dC : Nat → ClassId} {dI : Nat → Nat → Nat} {cI cJ cZ cQ : ClassId} {a_ro : Nat} {A : Nat → Prop} {Post : Int32 → Int32 → Int32 → Int32 → Nat → (Nat → Int64) → Nat → (Nat → Int64) → Nat → (Nat → Int32) → Prop} (C0 : jC p l s m args meth c b_RO_slotOf (some .int) 10 R_RO (dC, dI) cI cJ cZ cQ A)  : ∀ n9 : Nat, ∀ (rmask rsize rcr : Int32) (n1 : Nat) (fme : Nat → Int64) (n2 : Nat) (fbu : Nat → Int64) (n3 : Nat) (fsl : Nat → Int32) (L1 L3 : Int64) (L7 L8 : Int32), ∀ (a_rme a_rbu a_rsl : Nat), ∀ (H : Heap) (locs : List Loc) (ls : Array Slot), wp_RO_slotOf_43 Post  n9 rmask rsize rcr n1 fme n2 fbu n3 fsl L1 L3 L7 L8 → va_P (dC, dI) vwCl [(a_ro, .inr (2, [.ref a_rme, .ref a_rbu, .ref a_rsl, .int rmask, .int rsize, .int rcr])), (a_rme, .inl (cJ, n1, .inr (.inl fme))), (a_rbu, .inl (cJ, n2, .inr (.inl fbu))), (a_rsl, .inl (cI, n3, .inl fsl))] H → va_D A [(a_ro, .inr (2, [.ref a_rme, .ref a_rbu, .ref a_rsl, .int rmask, .int rsize, .int rcr])), (a_rme, .inl (cJ, n1, .inr (.inl fme))), (a_rbu, .inl (cJ, n2, .inr (.inl fbu))), (a_rsl, .inl (cI, n3, .inl fsl))] → va_S A s.heap H locs → lv_has ls 10 [(0, .ref a_ro), (1, .long L1), (3, .long L3), (7, .int L7), (8, .int L8)] → W p l e ({ frames := 10, cells := 0, slots := 0, locals := 150 } : Room) s m args below meth c H locs 0 0 (MQ below (jQ_RO_slotOf dC dI cI cJ cZ cQ A a_ro Post) args s 0 0 A) (F0 m 43 ls []) := by
  obtain ⟨hx, hb, hr, hml, hown, hts, hlocks, hK, hZ, hA, hst⟩ := id C0
  intro n9
  induction n9 with
  | zero =>
    intro rmask rsize rcr n1 fme n2 fbu n3 fsl L1 L3 L7 L8 a_rme a_rbu a_rsl H locs ls h hP hD hS hl
    exact False.elim h
  | succ n_43 ih =>
    intro rmask rsize rcr n1 fme n2 fbu n3 fsl L1 L3 L7 L8 a_rme a_rbu a_rsl H locs ls h hP hD hS hl
    rw [wp_RO_slotOf_43] at h
    refine lv_iload hx hb d_RO_slotOf_43 (lv_at hl 4 rfl) ?_
    refine lv_aload_n hx hb d_RO_slotOf_45 rfl (lv_at hl 0 rfl) ?_
    refine va_get (D := (dC, dI)) (ci := 2) (v := .int rmask) (C := R_RO) (T := T_RO) (N := 6) hx hb hts in_RO hown hK hP 0 rfl rfl 3 (by decide) (hts _ mw_65) (fun _ h9 => h9) rfl d_RO_slotOf_46 ?_
    refine lv_icmp_gt (tgt := 112) hx hb d_RO_slotOf_49 (by decide) (fun c49 => ?_) (fun c49 => ?_)
    · have h := h.1 c49
      refine lv_iconst (v := (-1)) hx hb d_RO_slotOf_112 (by decide) ?_
      have hP9 := hP
      have hD9 := hD
      exact W.iret (v := (-1)) hx hb hr (fun t ht hW => ⟨⟨(-1), (rmask, rsize, rcr, n1, fme, n2, fbu, n3, fsl), rfl, h, a_rme, a_rbu, a_rsl, by rw [ht]; exact hP9, va_K.moved hW.alike hK, hD9⟩, hS.F ht⟩) hS.2.2 d_RO_slotOf_113
    · have h := h.2 c49
      refine lv_aload_n hx hb d_RO_slotOf_52 rfl (lv_at hl 0 rfl) ?_
      refine va_get (D := (dC, dI)) (ci := 2) (v := .ref a_rsl) (C := R_RO) (T := T_RO) (N := 6) hx hb hts in_RO hown hK hP 0 rfl rfl 2 (by decide) (hts _ mw_64) (fun _ h9 => h9) rfl d_RO_slotOf_53 ?_
      refine lv_iload hx hb d_RO_slotOf_56 (lv_at hl 3 rfl) ?_
      refine va_iald hx hb hK hP 3 0 rfl rfl h.1 d_RO_slotOf_58 ?_
      have h := h.2
      refine lv_iconst (v := 1) hx hb d_RO_slotOf_59 (by decide) ?_
      refine lv_isub hx hb d_RO_slotOf_60 ?_
      refine lv_topi (fun x4 ex4 => ?_)
      have h := h x4 ex4
      refine lv_istore (lv' := [(9, .int x4), (0, .ref a_ro), (1, .long L1), (3, .long L3), (7, .int L7), (8, .int L8)]) hx hb d_RO_slotOf_61 hl (by decide) rfl (fun ls hl => ?_)
      refine lv_iload hx hb d_RO_slotOf_63 (lv_at hl 0 rfl) ?_
      refine lv_if_lt (tgt := 92) hx hb d_RO_slotOf_65 (by decide) (fun c65 => ?_) (fun c65 => ?_)
      · have h := h.1 c65
        refine lv_iload hx hb d_RO_slotOf_92 (lv_at hl 4 rfl) ?_
        have hP9 := hP
        have hD9 := hD
        exact W.iret (v := L7) hx hb hr (fun t ht hW => ⟨⟨L7, (rmask, rsize, rcr, n1, fme, n2, fbu, n3, fsl), rfl, h, a_rme, a_rbu, a_rsl, by rw [ht]; exact hP9, va_K.moved hW.alike hK, hD9⟩, hS.F ht⟩) hS.2.2 d_RO_slotOf_94
      · have h := h.2 c65
        refine lv_aload_n hx hb d_RO_slotOf_68 rfl (lv_at hl 1 rfl) ?_
        refine va_get (D := (dC, dI)) (ci := 2) (v := .ref a_rme) (C := R_RO) (T := T_RO) (N := 6) hx hb hts in_RO hown hK hP 0 rfl rfl 0 (by decide) (hts _ mw_60) (fun _ h9 => h9) rfl d_RO_slotOf_69 ?_
        refine lv_iload hx hb d_RO_slotOf_72 (lv_at hl 0 rfl) ?_
        refine va_lald hx hb hK hP 1 1 rfl rfl h.1 d_RO_slotOf_74 ?_
        have h := h.2
        refine lv_lload_n hx hb d_RO_slotOf_75 rfl (lv_at hl 2 rfl) ?_
        refine W.lcmp hx hb d_RO_slotOf_76 ?_
        refine lv_if_ne (tgt := 95) hx hb d_RO_slotOf_77 (by decide) (fun c77 => ?_) (fun c77 => ?_)
        · have h := h.1 c77
          exact l_RO_slotOf_95 C0 (fun (rmask : Int32) (rsize : Int32) (rcr : Int32) (n1 : Nat) (fme : Nat → Int64) (n2 : Nat) (fbu : Nat → Int64) (n3 : Nat) (fsl : Nat → Int32) (L1 : Int64) (L3 : Int64) (L7 : Int32) (L8 : Int32) => wp_RO_slotOf_43 Post n_43 rmask rsize rcr n1 fme n2 fbu n3 fsl L1 L3 L7 L8) ih rmask rsize rcr n1 fme n2 fbu n3 fsl L1 L3 L7 L8 a_rme a_rbu a_rsl H locs ls h hP hD hS (lv_sub hl [1, 2, 3, 4, 5] rfl)
        · have h := h.2 c77
          refine lv_aload_n hx hb d_RO_slotOf_80 rfl (lv_at hl 1 rfl) ?_
          refine va_get (D := (dC, dI)) (ci := 2) (v := .ref a_rbu) (C := R_RO) (T := T_RO) (N := 6) hx hb hts in_RO hown hK hP 0 rfl rfl 1 (by decide) (hts _ mw_62) (fun _ h9 => h9) rfl d_RO_slotOf_81 ?_
          refine lv_iload hx hb d_RO_slotOf_84 (lv_at hl 0 rfl) ?_
          refine va_lald hx hb hK hP 2 1 rfl rfl h.1 d_RO_slotOf_86 ?_
          have h := h.2
          refine lv_lload_n hx hb d_RO_slotOf_87 rfl (lv_at hl 3 rfl) ?_
          refine W.lcmp hx hb d_RO_slotOf_88 ?_
          refine lv_if_ne (tgt := 95) hx hb d_RO_slotOf_89 (by decide) (fun c89 => ?_) (fun c89 => ?_)
          · have h := h.1 c89
            exact l_RO_slotOf_95 C0 (fun (rmask : Int32) (rsize : Int32) (rcr : Int32) (n1 : Nat) (fme : Nat → Int64) (n2 : Nat) (fbu : Nat → Int64) (n3 : Nat) (fsl : Nat → Int32) (L1 : Int64) (L3 : Int64) (L7 : Int32) (L8 : Int32) => wp_RO_slotOf_43 Post n_43 rmask rsize rcr n1 fme n2 fbu n3 fsl L1 L3 L7 L8) ih rmask rsize rcr n1 fme n2 fbu n3 fsl L1 L3 L7 L8 a_rme a_rbu a_rsl H locs ls h hP hD hS (lv_sub hl [1, 2, 3, 4, 5] rfl)
          · have h := h.2 c89
            refine lv_iload hx hb d_RO_slotOf_92 (lv_at hl 4 rfl) ?_
            have hP9 := hP
            have hD9 := hD
            exact W.iret (v := L7) hx hb hr (fun t ht hW => ⟨⟨L7, (rmask, rsize, rcr, n1, fme, n2, fbu, n3, fsl), rfl, h, a_rme, a_rbu, a_rsl, by rw [ht]; exact hP9, va_K.moved hW.alike hK, hD9⟩, hS.F ht⟩) hS.2.2 d_RO_slotOf_94
set_option maxHeartbeats 4000000 in
set_option maxRecDepth 100000 in
theorem c_RO_slotOf (l : Launch) (dC : Nat → ClassId) (dI : Nat → Nat → Nat) (cI cJ cZ cQ : ClassId) (a_ro : Nat) (a_rme a_rbu a_rsl : Nat) (sz : Nat) (rmask rsize rcr : Int32) (n1 : Nat) (fme : Nat → Int64) (n2 : Nat) (fbu : Nat → Int64) (n3 : Nat) (fsl : Nat → Int32) (x0 y0 : Int64) (Post : Int32 → Int32 → Int32 → Int32 → Nat → (Nat → Int64) → Nat → (Nat → Int64) → Nat → (Nat → Int32) → Prop) (h : wp_RO_slotOf Post rmask rsize rcr n1 fme n2 fbu n3 fsl x0 y0) : Met l y_RO_slotOf (.code y_RO_slotOf b_RO_slotOf 10 (some .int) :: jW) ({ frames := 10, cells := 0, slots := 0, locals := 150 } : Room) (jPre l (dC, dI) cI cJ cZ cQ [(a_ro, .inr (2, [.ref a_rme, .ref a_rbu, .ref a_rsl, .int rmask, .int rsize, .int rcr])), (a_rme, .inl (cJ, n1, .inr (.inl fme))), (a_rbu, .inl (cJ, n2, .inr (.inl fbu))), (a_rsl, .inl (cI, n3, .inl fsl))] sz [.ref a_ro, .long x0, .long y0]) (jQ_RO_slotOf dC dI cI cJ cZ cQ (va_A [(a_ro, .inr (2, [.ref a_rme, .ref a_rbu, .ref a_rsl, .int rmask, .int rsize, .int rcr])), (a_rme, .inl (cJ, n1, .inr (.inl fme))), (a_rbu, .inl (cJ, n2, .inr (.inl fbu))), (a_rsl, .inl (cI, n3, .inl fsl))] sz) a_ro Post) 0 0 (va_A [(a_ro, .inr (2, [.ref a_rme, .ref a_rbu, .ref a_rsl, .int rmask, .int rsize, .int rcr])), (a_rme, .inl (cJ, n1, .inr (.inl fme))), (a_rbu, .inl (cJ, n2, .inr (.inl fbu))), (a_rsl, .inl (cI, n3, .inl fsl))] sz) := by
  refine Met.ofW (cc := b_RO_slotOf) (maxL := 10) (ret := (some .int)) (by decide) rfl ?_
  intro p e s m args below meth c s₁ B hml hv
  obtain ⟨rfl, hsz, hP, hK, hD0, hZ, hst⟩ := hv
  subst hsz
  have hD := hD0.self (sz := s.heap.size)
  generalize hAe : va_A [(a_ro, .inr (2, [.ref a_rme, .ref a_rbu, .ref a_rsl, .int rmask, .int rsize, .int rcr])), (a_rme, .inl (cJ, n1, .inr (.inl fme))), (a_rbu, .inl (cJ, n2, .inr (.inl fbu))), (a_rsl, .inl (cI, n3, .inl fsl))] s.heap.size = A at hD hZ ⊢
  have hA : ∀ q : Nat, s.heap.size ≤ q → A q := fun q h => by rw [← hAe]; exact Or.inr h
  have C0 : jC p l s m ([.ref a_ro, .long x0, .long y0] : List Value).toArray meth c b_RO_slotOf (some .int) 10 R_RO (dC, dI) cI cJ cZ cQ A := ⟨B.exec, B.bytes, B.returns, hml, findClass_of_methodNamed B.named, fun w hw => atoms_spec (ws := (.code y_RO_slotOf b_RO_slotOf 10 (some .int) :: jW)) B.pre w (List.mem_cons_of_mem _ hw), B.notSynchronized, hK, hZ, hA, hst⟩
  obtain ⟨hx, hb, hr, hml, hown, hts, hlocks, hK, hZ, hA, hst⟩ := id C0
  have hS : va_S A s.heap s.heap [] := va_S.rf
  have hl := lv_entry ([.ref a_ro, .long x0, .long y0]) (n := 10) (Nat.le_of_ble_eq_true rfl)
  rw [lg_entry_eq]
  generalize (lg_sl ([.ref a_ro, .long x0, .long y0]) ++ List.replicate (10 - (lg_sl ([.ref a_ro, .long x0, .long y0])).length) Slot.unset).toArray = ls at hl ⊢
  have hl : lv_has ls 10 [(0, .ref a_ro), (1, .long x0), (3, .long y0)] := hl
  obtain ⟨H, hH⟩ : ∃ H : Heap, H = s.heap := ⟨_, rfl⟩
  obtain ⟨locs, hlc⟩ : ∃ L : List Loc, L = [] := ⟨_, rfl⟩
  have hP : va_P (dC, dI) vwCl [(a_ro, .inr (2, [.ref a_rme, .ref a_rbu, .ref a_rsl, .int rmask, .int rsize, .int rcr])), (a_rme, .inl (cJ, n1, .inr (.inl fme))), (a_rbu, .inl (cJ, n2, .inr (.inl fbu))), (a_rsl, .inl (cI, n3, .inl fsl))] H := by rw [hH]; exact hP
  have hS : va_S A s.heap H locs := by rw [hH, hlc]; exact hS
  suffices hW9 : W p l e ({ frames := 10, cells := 0, slots := 0, locals := 150 } : Room) s m ([.ref a_ro, .long x0, .long y0] : List Value).toArray below meth c H locs 0 0 (MQ below (jQ_RO_slotOf dC dI cI cJ cZ cQ A a_ro Post) ([.ref a_ro, .long x0, .long y0] : List Value).toArray s 0 0 A) (F0 m 0 ls []) by rw [hH, hlc] at hW9; exact hW9
  clear hH hlc
  rw [wp_RO_slotOf] at h
  refine lv_lload_n hx hb d_RO_slotOf_0 rfl (lv_at hl 1 rfl) ?_
  refine lv_ldc2 (v := (-7046029254386353131)) hx hb hown (hts _ mw_624) d_RO_slotOf_1 ?_
  refine lv_lmul hx hb d_RO_slotOf_4 ?_
  refine lv_lload_n hx hb d_RO_slotOf_5 rfl (lv_at hl 2 rfl) ?_
  refine lv_ldc2 (v := (-4417276706812531889)) hx hb hown (hts _ mw_625) d_RO_slotOf_6 ?_
  refine lv_lmul hx hb d_RO_slotOf_9 ?_
  refine lv_ladd hx hb d_RO_slotOf_10 ?_
  refine lv_topl (fun x1 ex1 => ?_)
  have h := h x1 ex1
  refine lv_lstore (lv' := [(5, .long x1), (0, .ref a_ro), (1, .long x0), (3, .long y0)]) hx hb d_RO_slotOf_11 hl (by decide) rfl (fun ls hl => ?_)
  refine lv_lload hx hb d_RO_slotOf_13 (lv_at hl 0 rfl) ?_
  refine lv_lload hx hb d_RO_slotOf_15 (lv_at hl 0 rfl) ?_
  refine lv_bipush (v := 32) hx hb d_RO_slotOf_17 (by decide) ?_
  refine lv_lushr hx hb d_RO_slotOf_19 rfl ?_
  refine lv_lxor hx hb d_RO_slotOf_20 ?_
  refine lv_ldc2 (v := (-7046029254386353131)) hx hb hown (hts _ mw_624) d_RO_slotOf_21 ?_
  refine lv_lmul hx hb d_RO_slotOf_24 ?_
  refine lv_topl (fun x2 ex2 => ?_)
  have h := h x2 ex2
  refine lv_lstore (lv' := [(5, .long x2), (0, .ref a_ro), (1, .long x0), (3, .long y0)]) hx hb d_RO_slotOf_25 hl (by decide) rfl (fun ls hl => ?_)
  refine lv_lload hx hb d_RO_slotOf_27 (lv_at hl 0 rfl) ?_
  refine lv_bipush (v := 32) hx hb d_RO_slotOf_29 (by decide) ?_
  refine lv_lushr hx hb d_RO_slotOf_31 rfl ?_
  refine lv_l2i hx hb d_RO_slotOf_32 rfl ?_
  refine lv_aload_n hx hb d_RO_slotOf_33 rfl (lv_at hl 1 rfl) ?_
  refine va_get (D := (dC, dI)) (ci := 2) (v := .int rmask) (C := R_RO) (T := T_RO) (N := 6) hx hb hts in_RO hown hK hP 0 rfl rfl 3 (by decide) (hts _ mw_65) (fun _ h9 => h9) rfl d_RO_slotOf_34 ?_
  refine lv_iand hx hb d_RO_slotOf_37 ?_
  refine lv_topi (fun x3 ex3 => ?_)
  have h := h x3 ex3
  refine lv_istore (lv' := [(7, .int x3), (5, .long x2), (0, .ref a_ro), (1, .long x0), (3, .long y0)]) hx hb d_RO_slotOf_38 hl (by decide) rfl (fun ls hl => ?_)
  refine lv_iconst (v := 0) hx hb d_RO_slotOf_40 (by decide) ?_
  refine lv_istore (lv' := [(8, .int 0), (7, .int x3), (5, .long x2), (0, .ref a_ro), (1, .long x0), (3, .long y0)]) hx hb d_RO_slotOf_41 hl (by decide) rfl (fun ls hl => ?_)
  obtain ⟨n_43, h⟩ := h
  exact l_RO_slotOf_43 C0  n_43 rmask rsize rcr n1 fme n2 fbu n3 fsl x0 y0 x3 0 a_rme a_rbu a_rsl H locs ls h hP hD hS (lv_sub hl [3, 4, 5, 1, 0] rfl)

/-- what OrderMachines$Room.widen()V leaves -/
abbrev jQ_RO_widen (dC : Nat → ClassId) (dI : Nat → Nat → Nat) (cI cJ cZ cQ : ClassId) (A : Nat → Prop) (a_ro : Nat) (Post : Int32 → Int32 → Int32 → Nat → (Nat → Int64) → Nat → (Nat → Int64) → Nat → (Nat → Int32) → Prop) : Array Value → State → Outcome → State → Prop := va_Qv (fun (u : Int32 × Int32 × Int32 × Nat × (Nat → Int64) × Nat × (Nat → Int64) × Nat × (Nat → Int32)) => Post u.1 u.2.1 u.2.2.1 u.2.2.2.1 u.2.2.2.2.1 u.2.2.2.2.2.1 u.2.2.2.2.2.2.1 u.2.2.2.2.2.2.2.1 u.2.2.2.2.2.2.2.2) (fun (u : Int32 × Int32 × Int32 × Nat × (Nat → Int64) × Nat × (Nat → Int64) × Nat × (Nat → Int32)) (t : State) => match u with
  | (rmask, rsize, rcr, n1, fme, n2, fbu, n3, fsl) => ∃ (a_rme a_rbu a_rsl : Nat), jPost (dC, dI) (jT cI cJ cZ cQ) A [(a_ro, .inr (2, [.ref a_rme, .ref a_rbu, .ref a_rsl, .int rmask, .int rsize, .int rcr])), (a_rme, .inl (cJ, n1, .inr (.inl fme))), (a_rbu, .inl (cJ, n2, .inr (.inl fbu))), (a_rsl, .inl (cI, n3, .inl fsl))] t) A
def wp_RO_widen_133 (Post : Int32 → Int32 → Int32 → Nat → (Nat → Int64) → Nat → (Nat → Int64) → Nat → (Nat → Int32) → Prop) (mc ms : Nat) (K91 : Int32 → Int32 → Int32 → Nat → (Nat → Int64) → Nat → (Nat → Int64) → Nat → (Nat → Int32) → Int32 → Nat → Nat → Prop) (rmask rsize rcr : Int32) (n1 : Nat) (fme : Nat → Int64) (n2 : Nat) (fbu : Nat → Int64) (n3 : Nat) (fsl : Nat → Int32) (L3 : Int32) (ca sa : Nat) : Prop :=
    ∀ x35 : Int32, x35 = L3 + 1 → K91 rmask rsize rcr n1 fme n2 fbu n3 fsl x35 ca sa
def wp_RO_widen_91 (Post : Int32 → Int32 → Int32 → Nat → (Nat → Int64) → Nat → (Nat → Int64) → Nat → (Nat → Int32) → Prop) (mc ms : Nat)  : Nat → Int32 → Int32 → Int32 → Nat → (Nat → Int64) → Nat → (Nat → Int64) → Nat → (Nat → Int32) → Int32 → Nat → Nat → Prop
  | 0, _, _, _, _, _, _, _, _, _, _, _, _ => False
  | n_91 + 1, rmask, rsize, rcr, n1, fme, n2, fbu, n3, fsl, L3, ca, sa =>
    ((rsize ≤ L3 → ca ≤ mc ∧ sa ≤ ms ∧ Post rmask rsize rcr n1 fme n2 fbu n3 fsl) ∧
    (¬ rsize ≤ L3 → vp_in L3 n1 ∧ vp_in L3 n2 ∧ ca ≤ mc ∧ sa ≤ ms ∧ wp_RO_slotOf (fun (r21 : Int32) (u22 : Int32) (u23 : Int32) (u24 : Int32) (u25 : Nat) (u26 : Nat → Int64) (u27 : Nat) (u28 : Nat → Int64) (u29 : Nat) (u30 : Nat → Int32) => ((r21 = (-1) → wp_RO_widen_133 Post mc ms (fun (rmask : Int32) (rsize : Int32) (rcr : Int32) (n1 : Nat) (fme : Nat → Int64) (n2 : Nat) (fbu : Nat → Int64) (n3 : Nat) (fsl : Nat → Int32) (L3 : Int32) (ca : Nat) (sa : Nat) => wp_RO_widen_91 Post mc ms n_91 rmask rsize rcr n1 fme n2 fbu n3 fsl L3 ca sa) u22 u23 u24 u25 u26 u27 u28 u29 u30 L3 ca sa) ∧
      (¬ r21 = (-1) → vp_in r21 u29 ∧ ∀ f34 : Nat → Int32, f34 = upd u30 r21.toNatClampNeg (L3 + 1) → wp_RO_widen_133 Post mc ms (fun (rmask : Int32) (rsize : Int32) (rcr : Int32) (n1 : Nat) (fme : Nat → Int64) (n2 : Nat) (fbu : Nat → Int64) (n3 : Nat) (fsl : Nat → Int32) (L3 : Int32) (ca : Nat) (sa : Nat) => wp_RO_widen_91 Post mc ms n_91 rmask rsize rcr n1 fme n2 fbu n3 fsl L3 ca sa) u22 u23 u24 u25 u26 u27 u28 u29 f34 L3 ca sa))) rmask rsize rcr n1 fme n2 fbu n3 fsl (fme L3.toNatClampNeg) (fbu L3.toNatClampNeg)))
def wp_RO_widen_89 (Post : Int32 → Int32 → Int32 → Nat → (Nat → Int64) → Nat → (Nat → Int64) → Nat → (Nat → Int32) → Prop) (mc ms : Nat)  (rmask rsize rcr : Int32) (n1 : Nat) (fme : Nat → Int64) (n2 : Nat) (fbu : Nat → Int64) (n3 : Nat) (fsl : Nat → Int32) (ca sa : Nat) : Prop :=
    (∃ n_91 : Nat, wp_RO_widen_91 Post mc ms n_91 rmask rsize rcr n1 fme n2 fbu n3 fsl 0 ca sa)
def wp_RO_widen_39 (Post : Int32 → Int32 → Int32 → Nat → (Nat → Int64) → Nat → (Nat → Int64) → Nat → (Nat → Int32) → Prop) (mc ms : Nat)  (rmask rsize rcr : Int32) (n1 : Nat) (fme : Nat → Int64) (n2 : Nat) (fbu : Nat → Int64) (n3 : Nat) (fsl : Nat → Int32) (L1 : Int32) (ca sa : Nat) : Prop :=
    ∀ x5 : Int32, x5 = L1 - 1 → ca ≤ mc ∧ sa ≤ ms ∧ ∀ x6 : Int32, x6 = (if (L1 / 2) < 12000 then (L1 / 2) else 12000) → ((x6 ≤ (Int32.ofNat n1) → wp_RO_widen_89 Post mc ms x5 rsize rcr n1 fme n2 fbu n3 fsl ca sa) ∧
  (¬ x6 ≤ (Int32.ofNat n1) → ∃ mg11 sg12 : Nat, ca + mg11 ≤ mc ∧ sa + sg12 ≤ ms ∧ wp_JA_copyOf_aJI (fun (u8 : Nat) (u9 : Nat → Int64) (u10 : Nat → Int64) => ∃ mg18 sg19 : Nat, (ca + mg11) + mg18 ≤ mc ∧ (sa + sg12) + sg19 ≤ ms ∧ wp_JA_copyOf_aJI (fun (u15 : Nat) (u16 : Nat → Int64) (u17 : Nat → Int64) => wp_RO_widen_89 Post mc ms x5 rsize rcr u8 u9 u15 u16 n3 fsl ((ca + mg11) + mg18) ((sa + sg12) + sg19)) mg18 sg19 n2 fbu x6) mg11 sg12 n1 fme x6))
/-- OrderMachines$Room.widen()V -/
def wp_RO_widen (Post : Int32 → Int32 → Int32 → Nat → (Nat → Int64) → Nat → (Nat → Int64) → Nat → (Nat → Int32) → Prop) (mc ms : Nat) (rmask rsize rcr : Int32) (n1 : Nat) (fme : Nat → Int64) (n2 : Nat) (fbu : Nat → Int64) (n3 : Nat) (fsl : Nat → Int32) : Prop :=
  ∀ x1 : Int32, x1 = (rmask + 1) * 8 → ((x1 ≤ (Int32.ofNat n3) → 0 ≤ mc ∧ 0 ≤ ms ∧ wp_JA_fill_aIIII (fun (u3 : Nat → Int32) => wp_RO_widen_39 Post mc ms rmask rsize rcr n1 fme n2 fbu n3 u3 x1 0 0) n3 fsl 0 x1 0) ∧
  (¬ x1 ≤ (Int32.ofNat n3) → ¬ x1 < 0 ∧ x1.toNatClampNeg * 4 ≤ 536870912 ∧ 0 + 1 ≤ mc ∧ 0 + x1.toNatClampNeg ≤ ms ∧ wp_RO_widen_39 Post mc ms rmask rsize rcr n1 fme n2 fbu x1.toNatClampNeg (fun _ => 0) x1 (0 + 1) (0 + x1.toNatClampNeg)))
set_option maxHeartbeats 4000000 in
set_option maxRecDepth 100000 in
theorem l_RO_widen_133 {p : Program} {l : Launch} {e : Env} {s : State} {m : MethodId} {args : Array Value} {below : List Frame} {meth : Method} {c : Code} {dC : Nat → ClassId} {dI : Nat → Nat → Nat} {cI cJ cZ cQ : ClassId} {a_ro : Nat} {A : Nat → Prop} {Post : Int32 → Int32 → Int32 → Nat → (Nat → Int64) → Nat → (Nat → Int64) → Nat → (Nat → Int32) → Prop} {mc ms : Nat} (C0 : jC p l s m args meth c b_RO_widen none 5 R_RO (dC, dI) cI cJ cZ cQ A) (K91 : Int32 → Int32 → Int32 → Nat → (Nat → Int64) → Nat → (Nat → Int64) → Nat → (Nat → Int32) → Int32 → Nat → Nat → Prop) (hK91 : ∀ (rmask rsize rcr : Int32) (n1 : Nat) (fme : Nat → Int64) (n2 : Nat) (fbu : Nat → Int64) (n3 : Nat) (fsl : Nat → Int32) (L3 : Int32) (ca sa : Nat), ∀ (a_rme a_rbu a_rsl : Nat), ∀ (H : Heap) (locs : List Loc) (ls : Array Slot), K91 rmask rsize rcr n1 fme n2 fbu n3 fsl L3 ca sa → va_P (dC, dI) vwCl [(a_ro, .inr (2, [.ref a_rme, .ref a_rbu, .ref a_rsl, .int rmask, .int rsize, .int rcr])), (a_rme, .inl (cJ, n1, .inr (.inl fme))), (a_rbu, .inl (cJ, n2, .inr (.inl fbu))), (a_rsl, .inl (cI, n3, .inl fsl))] H → va_D A [(a_ro, .inr (2, [.ref a_rme, .ref a_rbu, .ref a_rsl, .int rmask, .int rsize, .int rcr])), (a_rme, .inl (cJ, n1, .inr (.inl fme))), (a_rbu, .inl (cJ, n2, .inr (.inl fbu))), (a_rsl, .inl (cI, n3, .inl fsl))] → va_S A s.heap H locs → lv_has ls 5 [(0, .ref a_ro), (3, .int L3)] → W p l e ({ frames := 12, cells := mc, slots := ms, locals := 196 } : Room) s m args below meth c H locs ca sa (MQ below (jQ_RO_widen dC dI cI cJ cZ cQ A a_ro Post) args s mc ms A) (F0 m 91 ls [])) : ∀ (rmask rsize rcr : Int32) (n1 : Nat) (fme : Nat → Int64) (n2 : Nat) (fbu : Nat → Int64) (n3 : Nat) (fsl : Nat → Int32) (L3 : Int32) (ca sa : Nat), ∀ (a_rme a_rbu a_rsl : Nat), ∀ (H : Heap) (locs : List Loc) (ls : Array Slot), wp_RO_widen_133 Post mc ms K91 rmask rsize rcr n1 fme n2 fbu n3 fsl L3 ca sa → va_P (dC, dI) vwCl [(a_ro, .inr (2, [.ref a_rme, .ref a_rbu, .ref a_rsl, .int rmask, .int rsize, .int rcr])), (a_rme, .inl (cJ, n1, .inr (.inl fme))), (a_rbu, .inl (cJ, n2, .inr (.inl fbu))), (a_rsl, .inl (cI, n3, .inl fsl))] H → va_D A [(a_ro, .inr (2, [.ref a_rme, .ref a_rbu, .ref a_rsl, .int rmask, .int rsize, .int rcr])), (a_rme, .inl (cJ, n1, .inr (.inl fme))), (a_rbu, .inl (cJ, n2, .inr (.inl fbu))), (a_rsl, .inl (cI, n3, .inl fsl))] → va_S A s.heap H locs → lv_has ls 5 [(0, .ref a_ro), (3, .int L3)] → W p l e ({ frames := 12, cells := mc, slots := ms, locals := 196 } : Room) s m args below meth c H locs ca sa (MQ below (jQ_RO_widen dC dI cI cJ cZ cQ A a_ro Post) args s mc ms A) (F0 m 133 ls []) := by
  obtain ⟨hx, hb, hr, hml, hown, hts, hlocks, hK, hZ, hA, hst⟩ := id C0
  intro rmask rsize rcr n1 fme n2 fbu n3 fsl L3 ca sa a_rme a_rbu a_rsl H locs ls h hP hD hS hl
  rw [wp_RO_widen_133] at h
  obtain ⟨x35, ex35⟩ : ∃ y : Int32, y = L3 + 1 := ⟨_, rfl⟩
  have h := h x35 ex35
  refine lv_iinc (v := x35) (lv' := [(3, .int x35), (0, .ref a_ro)]) hx hb d_RO_widen_133 hl (k := 1) rfl (by rw [ex35]; rfl) (by decide) rfl (fun ls hl => ?_)
  refine lv_goto (tgt := 91) hx hb d_RO_widen_136 (by decide) ?_
  exact hK91 rmask rsize rcr n1 fme n2 fbu n3 fsl x35 ca sa a_rme a_rbu a_rsl H locs ls h hP hD hS (lv_sub hl [1, 0] rfl)
set_option maxHeartbeats 4000000 in
set_option maxRecDepth 100000 in
theorem l_RO_widen_91 {p : Program} {l : Launch} {e : Env} {s : State} {m : MethodId} {args : Array Value} {below : List Frame} {meth : Method} {c : Code} {dC : Nat → ClassId} {dI : Nat → Nat → Nat} {cI cJ cZ cQ : ClassId} {a_ro : Nat} {A : Nat → Prop} {Post : Int32 → Int32 → Int32 → Nat → (Nat → Int64) → Nat → (Nat → Int64) → Nat → (Nat → Int32) → Prop} {mc ms : Nat} (C0 : jC p l s m args meth c b_RO_widen none 5 R_RO (dC, dI) cI cJ cZ cQ A)  : ∀ n9 : Nat, ∀ (rmask rsize rcr : Int32) (n1 : Nat) (fme : Nat → Int64) (n2 : Nat) (fbu : Nat → Int64) (n3 : Nat) (fsl : Nat → Int32) (L3 : Int32) (ca sa : Nat), ∀ (a_rme a_rbu a_rsl : Nat), ∀ (H : Heap) (locs : List Loc) (ls : Array Slot), wp_RO_widen_91 Post mc ms  n9 rmask rsize rcr n1 fme n2 fbu n3 fsl L3 ca sa → va_P (dC, dI) vwCl [(a_ro, .inr (2, [.ref a_rme, .ref a_rbu, .ref a_rsl, .int rmask, .int rsize, .int rcr])), (a_rme, .inl (cJ, n1, .inr (.inl fme))), (a_rbu, .inl (cJ, n2, .inr (.inl fbu))), (a_rsl, .inl (cI, n3, .inl fsl))] H → va_D A [(a_ro, .inr (2, [.ref a_rme, .ref a_rbu, .ref a_rsl, .int rmask, .int rsize, .int rcr])), (a_rme, .inl (cJ, n1, .inr (.inl fme))), (a_rbu, .inl (cJ, n2, .inr (.inl fbu))), (a_rsl, .inl (cI, n3, .inl fsl))] → va_S A s.heap H locs → lv_has ls 5 [(0, .ref a_ro), (3, .int L3)] → W p l e ({ frames := 12, cells := mc, slots := ms, locals := 196 } : Room) s m args below meth c H locs ca sa (MQ below (jQ_RO_widen dC dI cI cJ cZ cQ A a_ro Post) args s mc ms A) (F0 m 91 ls []) := by
  obtain ⟨hx, hb, hr, hml, hown, hts, hlocks, hK, hZ, hA, hst⟩ := id C0
  intro n9
  induction n9 with
  | zero =>
    intro rmask rsize rcr n1 fme n2 fbu n3 fsl L3 ca sa a_rme a_rbu a_rsl H locs ls h hP hD hS hl
    exact False.elim h
  | succ n_91 ih =>
    intro rmask rsize rcr n1 fme n2 fbu n3 fsl L3 ca sa a_rme a_rbu a_rsl H locs ls h hP hD hS hl
    rw [wp_RO_widen_91] at h
    refine lv_iload_n hx hb d_RO_widen_91 rfl (lv_at hl 1 rfl) ?_
    refine lv_aload_n hx hb d_RO_widen_92 rfl (lv_at hl 0 rfl) ?_
    refine va_get (D := (dC, dI)) (ci := 2) (v := .int rsize) (C := R_RO) (T := T_RO) (N := 6) hx hb hts in_RO hown hK hP 0 rfl rfl 4 (by decide) (hts _ mw_66) (fun _ h9 => h9) rfl d_RO_widen_93 ?_
    refine lv_icmp_ge (tgt := 139) hx hb d_RO_widen_96 (by decide) (fun c96 => ?_) (fun c96 => ?_)
    · have h := h.1 c96
      refine W.widen (k := mc) (n := ms) h.1 h.2.1 ?_
      have h := h.2.2
      have hP9 := hP
      have hD9 := hD
      exact W.vret hx hb hr (fun t ht hW => ⟨⟨(rmask, rsize, rcr, n1, fme, n2, fbu, n3, fsl), rfl, h, a_rme, a_rbu, a_rsl, by rw [ht]; exact hP9, va_K.moved hW.alike hK, hD9⟩, hS.F ht⟩) hS.2.2 d_RO_widen_139
    · have h := h.2 c96
      refine lv_aload_n hx hb d_RO_widen_99 rfl (lv_at hl 0 rfl) ?_
      refine lv_aload_n hx hb d_RO_widen_100 rfl (lv_at hl 0 rfl) ?_
      refine va_get (D := (dC, dI)) (ci := 2) (v := .ref a_rme) (C := R_RO) (T := T_RO) (N := 6) hx hb hts in_RO hown hK hP 0 rfl rfl 0 (by decide) (hts _ mw_60) (fun _ h9 => h9) rfl d_RO_widen_101 ?_
      refine lv_iload_n hx hb d_RO_widen_104 rfl (lv_at hl 1 rfl) ?_
      refine va_lald hx hb hK hP 1 1 rfl rfl h.1 d_RO_widen_105 ?_
      have h := h.2
      refine lv_aload_n hx hb d_RO_widen_106 rfl (lv_at hl 0 rfl) ?_
      refine va_get (D := (dC, dI)) (ci := 2) (v := .ref a_rbu) (C := R_RO) (T := T_RO) (N := 6) hx hb hts in_RO hown hK hP 0 rfl rfl 1 (by decide) (hts _ mw_62) (fun _ h9 => h9) rfl d_RO_widen_107 ?_
      refine lv_iload_n hx hb d_RO_widen_110 rfl (lv_at hl 1 rfl) ?_
      refine va_lald hx hb hK hP 2 1 rfl rfl h.1 d_RO_widen_111 ?_
      have h := h.2
      have hca := h.1
      have hsa := h.2.1
      have h := h.2.2
      have hPc := hP.sub (ws' := [(a_ro, .inr (2, [.ref a_rme, .ref a_rbu, .ref a_rsl, .int rmask, .int rsize, .int rcr])), (a_rme, .inl (cJ, n1, .inr (.inl fme))), (a_rbu, .inl (cJ, n2, .inr (.inl fbu))), (a_rsl, .inl (cI, n3, .inl fsl))]) [0, 1, 2, 3] rfl
      have hDc := hD.sub (ws' := [(a_ro, .inr (2, [.ref a_rme, .ref a_rbu, .ref a_rsl, .int rmask, .int rsize, .int rcr])), (a_rme, .inl (cJ, n1, .inr (.inl fme))), (a_rbu, .inl (cJ, n2, .inr (.inl fbu))), (a_rsl, .inl (cI, n3, .inl fsl))]) [0, 1, 2, 3] (by decide) rfl
      have hFc := va_free (wc := [(a_ro, .inr (2, [.ref a_rme, .ref a_rbu, .ref a_rsl, .int rmask, .int rsize, .int rcr])), (a_rme, .inl (cJ, n1, .inr (.inl fme))), (a_rbu, .inl (cJ, n2, .inr (.inl fbu))), (a_rsl, .inl (cI, n3, .inl fsl))]) hD hS hA [0, 1, 2, 3] rfl
      refine va_calli (va_runV (As := [.long (fme L3.toNatClampNeg), .long (fbu L3.toNatClampNeg)]) (rest := []) ⟨hx, hb, hml, hown, hts⟩ (c_RO_slotOf l dC dI cI cJ cZ cQ a_ro a_rme a_rbu a_rsl H.size rmask rsize rcr n1 fme n2 fbu n3 fsl (fme L3.toNatClampNeg) (fbu L3.toNatClampNeg) _  h) (cwV 2 hts (goodIn_app (jGl (List.forall_mem_cons.mpr ⟨mw_620, List.forall_mem_cons.mpr ⟨mw_622, List.forall_mem_cons.mpr ⟨ms_RO_slotOf, List.forall_mem_cons.mpr ⟨mw_4, fun _ h => absurd h List.not_mem_nil⟩⟩⟩⟩)) (jG mw_623)) rfl rfl rfl (by decide +kernel) ⟨Nat.le_of_ble_eq_true rfl, Nat.le_of_ble_eq_true rfl⟩) ⟨jPre_blind, va_recv hK hPc (ci := 2) (q0 := 0) rfl rfl, jPre_in hPc hK hDc hZ hS hFc hst⟩ rfl rfl hl.1 rfl (lv_room (Nat.le_of_ble_eq_true rfl)) d_RO_widen_112 ⟨hca, hsa⟩) hS (fun q _ h => hFc q h) hFc (fun r21 u t H1 locs ht hvm hw hB hz1 hk1 hS => ?_)
      obtain ⟨u22, u23, u24, u25, u26, u27, u28, u29, u30⟩ := u
      obtain ⟨q31, q32, q33, hP1, hK1, hD1⟩ := hB
      rw [ht] at hP1
      have h := hw
      obtain ⟨hP, hD⟩ := va_join (wr := []) (w1 := [(a_ro, .inr (2, [.ref q31, .ref q32, .ref q33, .int u22, .int u23, .int u24])), (q31, .inl (cJ, u25, .inr (.inl u26))), (q32, .inl (cJ, u27, .inr (.inl u28))), (q33, .inl (cI, u29, .inl u30))]) hP hD [0, 1, 2, 3] [] rfl rfl (by decide) (by decide) hk1 hFc hP1 hD1
      generalize H1 = H at hP hS ⊢
      have hP : va_P (dC, dI) vwCl [(a_ro, .inr (2, [.ref q31, .ref q32, .ref q33, .int u22, .int u23, .int u24])), (q31, .inl (cJ, u25, .inr (.inl u26))), (q32, .inl (cJ, u27, .inr (.inl u28))), (q33, .inl (cI, u29, .inl u30))] H := hP
      have hD : va_D A [(a_ro, .inr (2, [.ref q31, .ref q32, .ref q33, .int u22, .int u23, .int u24])), (q31, .inl (cJ, u25, .inr (.inl u26))), (q32, .inl (cJ, u27, .inr (.inl u28))), (q33, .inl (cI, u29, .inl u30))] := hD
      refine lv_istore (lv' := [(4, .int r21), (0, .ref a_ro), (3, .int L3)]) hx hb d_RO_widen_115 hl (by decide) rfl (fun ls hl => ?_)
      refine lv_iload hx hb d_RO_widen_117 (lv_at hl 0 rfl) ?_
      refine lv_iconst (v := (-1)) hx hb d_RO_widen_119 (by decide) ?_
      refine lv_icmp_eq (tgt := 133) hx hb d_RO_widen_120 (by decide) (fun c120 => ?_) (fun c120 => ?_)
      · have h := h.1 c120
        exact l_RO_widen_133 C0 (fun (rmask : Int32) (rsize : Int32) (rcr : Int32) (n1 : Nat) (fme : Nat → Int64) (n2 : Nat) (fbu : Nat → Int64) (n3 : Nat) (fsl : Nat → Int32) (L3 : Int32) (ca : Nat) (sa : Nat) => wp_RO_widen_91 Post mc ms n_91 rmask rsize rcr n1 fme n2 fbu n3 fsl L3 ca sa) ih u22 u23 u24 u25 u26 u27 u28 u29 u30 L3 ca sa q31 q32 q33 H locs ls h hP hD hS (lv_sub hl [1, 2] rfl)
      · have h := h.2 c120
        refine lv_aload_n hx hb d_RO_widen_123 rfl (lv_at hl 1 rfl) ?_
        refine va_get (D := (dC, dI)) (ci := 2) (v := .ref q33) (C := R_RO) (T := T_RO) (N := 6) hx hb hts in_RO hown hK hP 0 rfl rfl 2 (by decide) (hts _ mw_64) (fun _ h9 => h9) rfl d_RO_widen_124 ?_
        refine lv_iload hx hb d_RO_widen_127 (lv_at hl 0 rfl) ?_
        refine lv_iload_n hx hb d_RO_widen_129 rfl (lv_at hl 2 rfl) ?_
        refine lv_iconst (v := 1) hx hb d_RO_widen_130 (by decide) ?_
        refine lv_iadd hx hb d_RO_widen_131 ?_
        refine va_iast hx hb hK hP hD hS 3 0 rfl rfl h.1 d_RO_widen_132 (fun H locs hP hD hS => ?_)
        have h := h.2
        obtain ⟨f34, ef34⟩ : ∃ y : Nat → Int32, y = upd u30 r21.toNatClampNeg (L3 + 1) := ⟨_, rfl⟩
        rw [← ef34] at hP hD
        have h := h f34 ef34
        have hP : va_P (dC, dI) vwCl [(a_ro, .inr (2, [.ref q31, .ref q32, .ref q33, .int u22, .int u23, .int u24])), (q31, .inl (cJ, u25, .inr (.inl u26))), (q32, .inl (cJ, u27, .inr (.inl u28))), (q33, .inl (cI, u29, .inl f34))] H := hP
        have hD : va_D A [(a_ro, .inr (2, [.ref q31, .ref q32, .ref q33, .int u22, .int u23, .int u24])), (q31, .inl (cJ, u25, .inr (.inl u26))), (q32, .inl (cJ, u27, .inr (.inl u28))), (q33, .inl (cI, u29, .inl f34))] := hD
        exact l_RO_widen_133 C0 (fun (rmask : Int32) (rsize : Int32) (rcr : Int32) (n1 : Nat) (fme : Nat → Int64) (n2 : Nat) (fbu : Nat → Int64) (n3 : Nat) (fsl : Nat → Int32) (L3 : Int32) (ca : Nat) (sa : Nat) => wp_RO_widen_91 Post mc ms n_91 rmask rsize rcr n1 fme n2 fbu n3 fsl L3 ca sa) ih u22 u23 u24 u25 u26 u27 u28 u29 f34 L3 ca sa q31 q32 q33 H locs ls h hP hD hS (lv_sub hl [1, 2] rfl)
set_option maxHeartbeats 4000000 in
set_option maxRecDepth 100000 in
theorem l_RO_widen_89 {p : Program} {l : Launch} {e : Env} {s : State} {m : MethodId} {args : Array Value} {below : List Frame} {meth : Method} {c : Code} {dC : Nat → ClassId} {dI : Nat → Nat → Nat} {cI cJ cZ cQ : ClassId} {a_ro : Nat} {A : Nat → Prop} {Post : Int32 → Int32 → Int32 → Nat → (Nat → Int64) → Nat → (Nat → Int64) → Nat → (Nat → Int32) → Prop} {mc ms : Nat} (C0 : jC p l s m args meth c b_RO_widen none 5 R_RO (dC, dI) cI cJ cZ cQ A)  : ∀ (rmask rsize rcr : Int32) (n1 : Nat) (fme : Nat → Int64) (n2 : Nat) (fbu : Nat → Int64) (n3 : Nat) (fsl : Nat → Int32) (ca sa : Nat), ∀ (a_rme a_rbu a_rsl : Nat), ∀ (H : Heap) (locs : List Loc) (ls : Array Slot), wp_RO_widen_89 Post mc ms  rmask rsize rcr n1 fme n2 fbu n3 fsl ca sa → va_P (dC, dI) vwCl [(a_ro, .inr (2, [.ref a_rme, .ref a_rbu, .ref a_rsl, .int rmask, .int rsize, .int rcr])), (a_rme, .inl (cJ, n1, .inr (.inl fme))), (a_rbu, .inl (cJ, n2, .inr (.inl fbu))), (a_rsl, .inl (cI, n3, .inl fsl))] H → va_D A [(a_ro, .inr (2, [.ref a_rme, .ref a_rbu, .ref a_rsl, .int rmask, .int rsize, .int rcr])), (a_rme, .inl (cJ, n1, .inr (.inl fme))), (a_rbu, .inl (cJ, n2, .inr (.inl fbu))), (a_rsl, .inl (cI, n3, .inl fsl))] → va_S A s.heap H locs → lv_has ls 5 [(0, .ref a_ro)] → W p l e ({ frames := 12, cells := mc, slots := ms, locals := 196 } : Room) s m args below meth c H locs ca sa (MQ below (jQ_RO_widen dC dI cI cJ cZ cQ A a_ro Post) args s mc ms A) (F0 m 89 ls []) := by
  obtain ⟨hx, hb, hr, hml, hown, hts, hlocks, hK, hZ, hA, hst⟩ := id C0
  intro rmask rsize rcr n1 fme n2 fbu n3 fsl ca sa a_rme a_rbu a_rsl H locs ls h hP hD hS hl
  rw [wp_RO_widen_89] at h
  refine lv_iconst (v := 0) hx hb d_RO_widen_89 (by decide) ?_
  refine lv_istore_n (lv' := [(3, .int 0), (0, .ref a_ro)]) hx hb d_RO_widen_90 rfl hl (by decide) rfl (fun ls hl => ?_)
  obtain ⟨n_91, h⟩ := h
  exact l_RO_widen_91 C0  n_91 rmask rsize rcr n1 fme n2 fbu n3 fsl 0 ca sa a_rme a_rbu a_rsl H locs ls h hP hD hS (lv_sub hl [1, 0] rfl)
set_option maxHeartbeats 4000000 in
set_option maxRecDepth 100000 in
theorem l_RO_widen_39 {p : Program} {l : Launch} {e : Env} {s : State} {m : MethodId} {args : Array Value} {below : List Frame} {meth : Method} {c : Code} {dC : Nat → ClassId} {dI : Nat → Nat → Nat} {cI cJ cZ cQ : ClassId} {a_ro : Nat} {A : Nat → Prop} {Post : Int32 → Int32 → Int32 → Nat → (Nat → Int64) → Nat → (Nat → Int64) → Nat → (Nat → Int32) → Prop} {mc ms : Nat} (C0 : jC p l s m args meth c b_RO_widen none 5 R_RO (dC, dI) cI cJ cZ cQ A)  : ∀ (rmask rsize rcr : Int32) (n1 : Nat) (fme : Nat → Int64) (n2 : Nat) (fbu : Nat → Int64) (n3 : Nat) (fsl : Nat → Int32) (L1 : Int32) (ca sa : Nat), ∀ (a_rme a_rbu a_rsl : Nat), ∀ (H : Heap) (locs : List Loc) (ls : Array Slot), wp_RO_widen_39 Post mc ms  rmask rsize rcr n1 fme n2 fbu n3 fsl L1 ca sa → va_P (dC, dI) vwCl [(a_ro, .inr (2, [.ref a_rme, .ref a_rbu, .ref a_rsl, .int rmask, .int rsize, .int rcr])), (a_rme, .inl (cJ, n1, .inr (.inl fme))), (a_rbu, .inl (cJ, n2, .inr (.inl fbu))), (a_rsl, .inl (cI, n3, .inl fsl))] H → va_D A [(a_ro, .inr (2, [.ref a_rme, .ref a_rbu, .ref a_rsl, .int rmask, .int rsize, .int rcr])), (a_rme, .inl (cJ, n1, .inr (.inl fme))), (a_rbu, .inl (cJ, n2, .inr (.inl fbu))), (a_rsl, .inl (cI, n3, .inl fsl))] → va_S A s.heap H locs → lv_has ls 5 [(0, .ref a_ro), (1, .int L1)] → W p l e ({ frames := 12, cells := mc, slots := ms, locals := 196 } : Room) s m args below meth c H locs ca sa (MQ below (jQ_RO_widen dC dI cI cJ cZ cQ A a_ro Post) args s mc ms A) (F0 m 39 ls []) := by
  obtain ⟨hx, hb, hr, hml, hown, hts, hlocks, hK, hZ, hA, hst⟩ := id C0
  intro rmask rsize rcr n1 fme n2 fbu n3 fsl L1 ca sa a_rme a_rbu a_rsl H locs ls h hP hD hS hl
  rw [wp_RO_widen_39] at h
  refine lv_aload_n hx hb d_RO_widen_39 rfl (lv_at hl 0 rfl) ?_
  refine lv_iload_n hx hb d_RO_widen_40 rfl (lv_at hl 1 rfl) ?_
  refine lv_iconst (v := 1) hx hb d_RO_widen_41 (by decide) ?_
  refine lv_isub hx hb d_RO_widen_42 ?_
  refine lv_topi (fun x5 ex5 => ?_)
  have h := h x5 ex5
  refine va_put (D := (dC, dI)) (ci := 2) (v := .int x5) (ty := .int) (C := R_RO) (T := T_RO) (N := 6) hx hb hts in_RO ty_RO tok_RO nm_RO hown hK hP hD hS 0 rfl rfl 3 (by decide) (hts _ mw_65) (fun _ h9 => h9) rfl (by decide +kernel) rfl rfl (Nat.le_of_ble_eq_true rfl) d_RO_widen_43 (fun H locs hP hD hS => ?_)
  have hP : va_P (dC, dI) vwCl [(a_ro, .inr (2, [.ref a_rme, .ref a_rbu, .ref a_rsl, .int x5, .int rsize, .int rcr])), (a_rme, .inl (cJ, n1, .inr (.inl fme))), (a_rbu, .inl (cJ, n2, .inr (.inl fbu))), (a_rsl, .inl (cI, n3, .inl fsl))] H := hP
  have hD : va_D A [(a_ro, .inr (2, [.ref a_rme, .ref a_rbu, .ref a_rsl, .int x5, .int rsize, .int rcr])), (a_rme, .inl (cJ, n1, .inr (.inl fme))), (a_rbu, .inl (cJ, n2, .inr (.inl fbu))), (a_rsl, .inl (cI, n3, .inl fsl))] := hD
  refine lv_sipush (v := 12000) hx hb d_RO_widen_46 (by decide) ?_
  refine lv_iload_n hx hb d_RO_widen_49 rfl (lv_at hl 1 rfl) ?_
  refine lv_iconst (v := 2) hx hb d_RO_widen_50 (by decide) ?_
  refine lv_idiv hx hb d_RO_widen_51 (by decide) ?_
  refine va_mmin hx hb (hml.trans hl.1.symm) hown (hts _ mw_630) (hts _ mw_421) (hts _ mw_19) (hts _ mw_422) (Nat.le_of_ble_eq_true rfl) (Nat.le_of_ble_eq_true rfl) h.1 h.2.1 d_RO_widen_52 ?_
  have h := h.2.2
  refine lv_topi (fun x6 ex6 => ?_)
  have h := h x6 ex6
  refine lv_istore_n (lv' := [(2, .int x6), (0, .ref a_ro), (1, .int L1)]) hx hb d_RO_widen_55 rfl hl (by decide) rfl (fun ls hl => ?_)
  refine lv_aload_n hx hb d_RO_widen_56 rfl (lv_at hl 1 rfl) ?_
  refine va_get (D := (dC, dI)) (ci := 2) (v := .ref a_rme) (C := R_RO) (T := T_RO) (N := 6) hx hb hts in_RO hown hK hP 0 rfl rfl 0 (by decide) (hts _ mw_60) (fun _ h9 => h9) rfl d_RO_widen_57 ?_
  refine va_alen hx hb hK hP 1 1 (ty := .long) rfl rfl (v := Int32.ofNat n1) rfl d_RO_widen_60 ?_
  refine lv_iload_n hx hb d_RO_widen_61 rfl (lv_at hl 0 rfl) ?_
  refine lv_icmp_ge (tgt := 89) hx hb d_RO_widen_62 (by decide) (fun c62 => ?_) (fun c62 => ?_)
  · have h := h.1 c62
    exact l_RO_widen_89 C0  x5 rsize rcr n1 fme n2 fbu n3 fsl ca sa a_rme a_rbu a_rsl H locs ls h hP hD hS (lv_sub hl [1] rfl)
  · have h := h.2 c62
    refine lv_aload_n hx hb d_RO_widen_65 rfl (lv_at hl 1 rfl) ?_
    refine lv_aload_n hx hb d_RO_widen_66 rfl (lv_at hl 1 rfl) ?_
    refine va_get (D := (dC, dI)) (ci := 2) (v := .ref a_rme) (C := R_RO) (T := T_RO) (N := 6) hx hb hts in_RO hown hK hP 0 rfl rfl 0 (by decide) (hts _ mw_60) (fun _ h9 => h9) rfl d_RO_widen_67 ?_
    refine lv_iload_n hx hb d_RO_widen_70 rfl (lv_at hl 0 rfl) ?_
    obtain ⟨mg11, sg12, hmg, hsg, h⟩ := h
    have hPc := hP.sub (ws' := [(a_rme, .inl (cJ, n1, .inr (.inl fme)))]) [1] rfl
    have hDc := hD.sub (ws' := [(a_rme, .inl (cJ, n1, .inr (.inl fme)))]) [1] (by decide) rfl
    have hFc := va_free (wc := [(a_rme, .inl (cJ, n1, .inr (.inl fme)))]) hD hS hA [1] rfl
    refine va_callr (va_runS (As := [.ref a_rme, .int x6]) (rest := [.ref a_ro]) ⟨hx, hb, hml, hown, hts⟩ (c_JA_copyOf_aJI l dC dI cI cJ cZ cQ a_rme n1 H.size fme x6 mg11 sg12 _  h) (va_cwS 2 hts (goodIn_app (jGl (List.forall_mem_cons.mpr ⟨mw_631, List.forall_mem_cons.mpr ⟨mw_632, List.forall_mem_cons.mpr ⟨mw_13, fun _ h => absurd h List.not_mem_nil⟩⟩⟩)) (jG mw_633)) rfl rfl rfl (by decide +kernel) ⟨Nat.le_of_ble_eq_true rfl, Nat.le_of_ble_eq_true rfl⟩) ⟨jPre_blind, jPre_in hPc hK hDc hZ hS hFc hst⟩ rfl rfl hl.1 rfl (lv_room (Nat.le_of_ble_eq_true rfl)) d_RO_widen_71 ⟨hmg, hsg⟩) hS (fun q _ h => hFc q h) hFc (fun u ra9 t H1 locs ht hvm hw hB hz1 hk1 hS => ?_)
    obtain ⟨u8, u9, u10⟩ := u
    obtain ⟨hP1, hK1, hD1⟩ := hB
    rw [ht] at hP1
    have h := hw
    obtain ⟨q13, hra9⟩ : ∃ z : Nat, z = ra9 := ⟨_, rfl⟩
    rw [← hra9] at hP1 hD1 ⊢
    obtain ⟨hP, hD⟩ := va_join (wr := [(a_ro, .inr (2, [.ref a_rme, .ref a_rbu, .ref a_rsl, .int x5, .int rsize, .int rcr])), (a_rbu, .inl (cJ, n2, .inr (.inl fbu))), (a_rsl, .inl (cI, n3, .inl fsl))]) (w1 := [(a_rme, .inl (cJ, n1, .inr (.inl u10))), (q13, .inl (cJ, u8, .inr (.inl u9)))]) hP hD [1] [0, 2, 3] rfl rfl (by decide) (by decide) hk1 hFc hP1 hD1
    generalize H1 = H at hP hS ⊢
    have hP : va_P (dC, dI) vwCl [(a_ro, .inr (2, [.ref a_rme, .ref a_rbu, .ref a_rsl, .int x5, .int rsize, .int rcr])), (a_rbu, .inl (cJ, n2, .inr (.inl fbu))), (a_rsl, .inl (cI, n3, .inl fsl)), (a_rme, .inl (cJ, n1, .inr (.inl u10))), (q13, .inl (cJ, u8, .inr (.inl u9)))] H := hP
    have hD : va_D A [(a_ro, .inr (2, [.ref a_rme, .ref a_rbu, .ref a_rsl, .int x5, .int rsize, .int rcr])), (a_rbu, .inl (cJ, n2, .inr (.inl fbu))), (a_rsl, .inl (cI, n3, .inl fsl)), (a_rme, .inl (cJ, n1, .inr (.inl u10))), (q13, .inl (cJ, u8, .inr (.inl u9)))] := hD
    refine va_put (D := (dC, dI)) (ci := 2) (v := .ref q13) (ty := (.array .long)) (C := R_RO) (T := T_RO) (N := 6) hx hb hts in_RO ty_RO tok_RO nm_RO hown hK hP hD hS 0 rfl rfl 0 (by decide) (hts _ mw_60) (fun _ h9 => h9) rfl (by decide +kernel) rfl rfl (Nat.le_of_ble_eq_true rfl) d_RO_widen_74 (fun H locs hP hD hS => ?_)
    have hP : va_P (dC, dI) vwCl [(a_ro, .inr (2, [.ref q13, .ref a_rbu, .ref a_rsl, .int x5, .int rsize, .int rcr])), (a_rbu, .inl (cJ, n2, .inr (.inl fbu))), (a_rsl, .inl (cI, n3, .inl fsl)), (a_rme, .inl (cJ, n1, .inr (.inl u10))), (q13, .inl (cJ, u8, .inr (.inl u9)))] H := hP
    have hD : va_D A [(a_ro, .inr (2, [.ref q13, .ref a_rbu, .ref a_rsl, .int x5, .int rsize, .int rcr])), (a_rbu, .inl (cJ, n2, .inr (.inl fbu))), (a_rsl, .inl (cI, n3, .inl fsl)), (a_rme, .inl (cJ, n1, .inr (.inl u10))), (q13, .inl (cJ, u8, .inr (.inl u9)))] := hD
    refine lv_aload_n hx hb d_RO_widen_77 rfl (lv_at hl 1 rfl) ?_
    refine lv_aload_n hx hb d_RO_widen_78 rfl (lv_at hl 1 rfl) ?_
    refine va_get (D := (dC, dI)) (ci := 2) (v := .ref a_rbu) (C := R_RO) (T := T_RO) (N := 6) hx hb hts in_RO hown hK hP 0 rfl rfl 1 (by decide) (hts _ mw_62) (fun _ h9 => h9) rfl d_RO_widen_79 ?_
    refine lv_iload_n hx hb d_RO_widen_82 rfl (lv_at hl 0 rfl) ?_
    obtain ⟨mg18, sg19, hmg, hsg, h⟩ := h
    have hPc := hP.sub (ws' := [(a_rbu, .inl (cJ, n2, .inr (.inl fbu)))]) [1] rfl
    have hDc := hD.sub (ws' := [(a_rbu, .inl (cJ, n2, .inr (.inl fbu)))]) [1] (by decide) rfl
    have hFc := va_free (wc := [(a_rbu, .inl (cJ, n2, .inr (.inl fbu)))]) hD hS hA [1] rfl
    refine va_callr (va_runS (As := [.ref a_rbu, .int x6]) (rest := [.ref a_ro]) ⟨hx, hb, hml, hown, hts⟩ (c_JA_copyOf_aJI l dC dI cI cJ cZ cQ a_rbu n2 H.size fbu x6 mg18 sg19 _  h) (va_cwS 2 hts (goodIn_app (jGl (List.forall_mem_cons.mpr ⟨mw_631, List.forall_mem_cons.mpr ⟨mw_632, List.forall_mem_cons.mpr ⟨mw_13, fun _ h => absurd h List.not_mem_nil⟩⟩⟩)) (jG mw_633)) rfl rfl rfl (by decide +kernel) ⟨Nat.le_of_ble_eq_true rfl, Nat.le_of_ble_eq_true rfl⟩) ⟨jPre_blind, jPre_in hPc hK hDc hZ hS hFc hst⟩ rfl rfl hl.1 rfl (lv_room (Nat.le_of_ble_eq_true rfl)) d_RO_widen_83 ⟨hmg, hsg⟩) hS (fun q _ h => hFc q h) hFc (fun u ra9 t H1 locs ht hvm hw hB hz1 hk1 hS => ?_)
    obtain ⟨u15, u16, u17⟩ := u
    obtain ⟨hP1, hK1, hD1⟩ := hB
    rw [ht] at hP1
    have h := hw
    obtain ⟨q20, hra9⟩ : ∃ z : Nat, z = ra9 := ⟨_, rfl⟩
    rw [← hra9] at hP1 hD1 ⊢
    obtain ⟨hP, hD⟩ := va_join (wr := [(a_ro, .inr (2, [.ref q13, .ref a_rbu, .ref a_rsl, .int x5, .int rsize, .int rcr])), (a_rsl, .inl (cI, n3, .inl fsl)), (a_rme, .inl (cJ, n1, .inr (.inl u10))), (q13, .inl (cJ, u8, .inr (.inl u9)))]) (w1 := [(a_rbu, .inl (cJ, n2, .inr (.inl u17))), (q20, .inl (cJ, u15, .inr (.inl u16)))]) hP hD [1] [0, 2, 3, 4] rfl rfl (by decide) (by decide) hk1 hFc hP1 hD1
    generalize H1 = H at hP hS ⊢
    have hP : va_P (dC, dI) vwCl [(a_ro, .inr (2, [.ref q13, .ref a_rbu, .ref a_rsl, .int x5, .int rsize, .int rcr])), (a_rsl, .inl (cI, n3, .inl fsl)), (a_rme, .inl (cJ, n1, .inr (.inl u10))), (q13, .inl (cJ, u8, .inr (.inl u9))), (a_rbu, .inl (cJ, n2, .inr (.inl u17))), (q20, .inl (cJ, u15, .inr (.inl u16)))] H := hP
    have hD : va_D A [(a_ro, .inr (2, [.ref q13, .ref a_rbu, .ref a_rsl, .int x5, .int rsize, .int rcr])), (a_rsl, .inl (cI, n3, .inl fsl)), (a_rme, .inl (cJ, n1, .inr (.inl u10))), (q13, .inl (cJ, u8, .inr (.inl u9))), (a_rbu, .inl (cJ, n2, .inr (.inl u17))), (q20, .inl (cJ, u15, .inr (.inl u16)))] := hD
    refine va_put (D := (dC, dI)) (ci := 2) (v := .ref q20) (ty := (.array .long)) (C := R_RO) (T := T_RO) (N := 6) hx hb hts in_RO ty_RO tok_RO nm_RO hown hK hP hD hS 0 rfl rfl 1 (by decide) (hts _ mw_62) (fun _ h9 => h9) rfl (by decide +kernel) rfl rfl (Nat.le_of_ble_eq_true rfl) d_RO_widen_86 (fun H locs hP hD hS => ?_)
    have hP : va_P (dC, dI) vwCl [(a_ro, .inr (2, [.ref q13, .ref q20, .ref a_rsl, .int x5, .int rsize, .int rcr])), (a_rsl, .inl (cI, n3, .inl fsl)), (a_rme, .inl (cJ, n1, .inr (.inl u10))), (q13, .inl (cJ, u8, .inr (.inl u9))), (a_rbu, .inl (cJ, n2, .inr (.inl u17))), (q20, .inl (cJ, u15, .inr (.inl u16)))] H := hP
    have hD : va_D A [(a_ro, .inr (2, [.ref q13, .ref q20, .ref a_rsl, .int x5, .int rsize, .int rcr])), (a_rsl, .inl (cI, n3, .inl fsl)), (a_rme, .inl (cJ, n1, .inr (.inl u10))), (q13, .inl (cJ, u8, .inr (.inl u9))), (a_rbu, .inl (cJ, n2, .inr (.inl u17))), (q20, .inl (cJ, u15, .inr (.inl u16)))] := hD
    exact l_RO_widen_89 C0  x5 rsize rcr u8 u9 u15 u16 n3 fsl ((ca + mg11) + mg18) ((sa + sg12) + sg19) q13 q20 a_rsl H locs ls h (hP.sub [0, 3, 5, 1] rfl) (hD.sub [0, 3, 5, 1] (by decide) rfl) hS (lv_sub hl [1] rfl)
set_option maxHeartbeats 4000000 in
set_option maxRecDepth 100000 in
theorem c_RO_widen (l : Launch) (dC : Nat → ClassId) (dI : Nat → Nat → Nat) (cI cJ cZ cQ : ClassId) (a_ro : Nat) (a_rme a_rbu a_rsl : Nat) (sz : Nat) (rmask rsize rcr : Int32) (n1 : Nat) (fme : Nat → Int64) (n2 : Nat) (fbu : Nat → Int64) (n3 : Nat) (fsl : Nat → Int32) (mc ms : Nat) (Post : Int32 → Int32 → Int32 → Nat → (Nat → Int64) → Nat → (Nat → Int64) → Nat → (Nat → Int32) → Prop) (h : wp_RO_widen Post mc ms rmask rsize rcr n1 fme n2 fbu n3 fsl) : Met l y_RO_widen (.code y_RO_widen b_RO_widen 5 none :: jW) ({ frames := 12, cells := mc, slots := ms, locals := 196 } : Room) (jPre l (dC, dI) cI cJ cZ cQ [(a_ro, .inr (2, [.ref a_rme, .ref a_rbu, .ref a_rsl, .int rmask, .int rsize, .int rcr])), (a_rme, .inl (cJ, n1, .inr (.inl fme))), (a_rbu, .inl (cJ, n2, .inr (.inl fbu))), (a_rsl, .inl (cI, n3, .inl fsl))] sz [.ref a_ro]) (jQ_RO_widen dC dI cI cJ cZ cQ (va_A [(a_ro, .inr (2, [.ref a_rme, .ref a_rbu, .ref a_rsl, .int rmask, .int rsize, .int rcr])), (a_rme, .inl (cJ, n1, .inr (.inl fme))), (a_rbu, .inl (cJ, n2, .inr (.inl fbu))), (a_rsl, .inl (cI, n3, .inl fsl))] sz) a_ro Post) mc ms (va_A [(a_ro, .inr (2, [.ref a_rme, .ref a_rbu, .ref a_rsl, .int rmask, .int rsize, .int rcr])), (a_rme, .inl (cJ, n1, .inr (.inl fme))), (a_rbu, .inl (cJ, n2, .inr (.inl fbu))), (a_rsl, .inl (cI, n3, .inl fsl))] sz) := by
  refine Met.ofW (cc := b_RO_widen) (maxL := 5) (ret := none) (by decide) rfl ?_
  intro p e s m args below meth c s₁ B hml hv
  obtain ⟨rfl, hsz, hP, hK, hD0, hZ, hst⟩ := hv
  subst hsz
  have hD := hD0.self (sz := s.heap.size)
  generalize hAe : va_A [(a_ro, .inr (2, [.ref a_rme, .ref a_rbu, .ref a_rsl, .int rmask, .int rsize, .int rcr])), (a_rme, .inl (cJ, n1, .inr (.inl fme))), (a_rbu, .inl (cJ, n2, .inr (.inl fbu))), (a_rsl, .inl (cI, n3, .inl fsl))] s.heap.size = A at hD hZ ⊢
  have hA : ∀ q : Nat, s.heap.size ≤ q → A q := fun q h => by rw [← hAe]; exact Or.inr h
  have C0 : jC p l s m ([.ref a_ro] : List Value).toArray meth c b_RO_widen none 5 R_RO (dC, dI) cI cJ cZ cQ A := ⟨B.exec, B.bytes, B.returns, hml, findClass_of_methodNamed B.named, fun w hw => atoms_spec (ws := (.code y_RO_widen b_RO_widen 5 none :: jW)) B.pre w (List.mem_cons_of_mem _ hw), B.notSynchronized, hK, hZ, hA, hst⟩
  obtain ⟨hx, hb, hr, hml, hown, hts, hlocks, hK, hZ, hA, hst⟩ := id C0
  have hS : va_S A s.heap s.heap [] := va_S.rf
  have hl := lv_entry ([.ref a_ro]) (n := 5) (Nat.le_of_ble_eq_true rfl)
  rw [lg_entry_eq]
  generalize (lg_sl ([.ref a_ro]) ++ List.replicate (5 - (lg_sl ([.ref a_ro])).length) Slot.unset).toArray = ls at hl ⊢
  have hl : lv_has ls 5 [(0, .ref a_ro)] := hl
  obtain ⟨H, hH⟩ : ∃ H : Heap, H = s.heap := ⟨_, rfl⟩
  obtain ⟨locs, hlc⟩ : ∃ L : List Loc, L = [] := ⟨_, rfl⟩
  have hP : va_P (dC, dI) vwCl [(a_ro, .inr (2, [.ref a_rme, .ref a_rbu, .ref a_rsl, .int rmask, .int rsize, .int rcr])), (a_rme, .inl (cJ, n1, .inr (.inl fme))), (a_rbu, .inl (cJ, n2, .inr (.inl fbu))), (a_rsl, .inl (cI, n3, .inl fsl))] H := by rw [hH]; exact hP
  have hS : va_S A s.heap H locs := by rw [hH, hlc]; exact hS
  suffices hW9 : W p l e ({ frames := 12, cells := mc, slots := ms, locals := 196 } : Room) s m ([.ref a_ro] : List Value).toArray below meth c H locs 0 0 (MQ below (jQ_RO_widen dC dI cI cJ cZ cQ A a_ro Post) ([.ref a_ro] : List Value).toArray s mc ms A) (F0 m 0 ls []) by rw [hH, hlc] at hW9; exact hW9
  clear hH hlc
  rw [wp_RO_widen] at h
  refine lv_aload_n hx hb d_RO_widen_0 rfl (lv_at hl 0 rfl) ?_
  refine va_get (D := (dC, dI)) (ci := 2) (v := .int rmask) (C := R_RO) (T := T_RO) (N := 6) hx hb hts in_RO hown hK hP 0 rfl rfl 3 (by decide) (hts _ mw_65) (fun _ h9 => h9) rfl d_RO_widen_1 ?_
  refine lv_iconst (v := 1) hx hb d_RO_widen_4 (by decide) ?_
  refine lv_iadd hx hb d_RO_widen_5 ?_
  refine lv_bipush (v := 8) hx hb d_RO_widen_6 (by decide) ?_
  refine lv_imul hx hb d_RO_widen_8 ?_
  refine lv_topi (fun x1 ex1 => ?_)
  have h := h x1 ex1
  refine lv_istore_n (lv' := [(1, .int x1), (0, .ref a_ro)]) hx hb d_RO_widen_9 rfl hl (by decide) rfl (fun ls hl => ?_)
  refine lv_aload_n hx hb d_RO_widen_10 rfl (lv_at hl 1 rfl) ?_
  refine va_get (D := (dC, dI)) (ci := 2) (v := .ref a_rsl) (C := R_RO) (T := T_RO) (N := 6) hx hb hts in_RO hown hK hP 0 rfl rfl 2 (by decide) (hts _ mw_64) (fun _ h9 => h9) rfl d_RO_widen_11 ?_
  refine va_alen hx hb hK hP 3 0 (ty := .int) rfl rfl (v := Int32.ofNat n3) rfl d_RO_widen_14 ?_
  refine lv_iload_n hx hb d_RO_widen_15 rfl (lv_at hl 0 rfl) ?_
  refine lv_icmp_ge (tgt := 29) hx hb d_RO_widen_16 (by decide) (fun c16 => ?_) (fun c16 => ?_)
  · have h := h.1 c16
    refine lv_aload_n hx hb d_RO_widen_29 rfl (lv_at hl 1 rfl) ?_
    refine va_get (D := (dC, dI)) (ci := 2) (v := .ref a_rsl) (C := R_RO) (T := T_RO) (N := 6) hx hb hts in_RO hown hK hP 0 rfl rfl 2 (by decide) (hts _ mw_64) (fun _ h9 => h9) rfl d_RO_widen_30 ?_
    refine lv_iconst (v := 0) hx hb d_RO_widen_33 (by decide) ?_
    refine lv_iload_n hx hb d_RO_widen_34 rfl (lv_at hl 0 rfl) ?_
    refine lv_iconst (v := 0) hx hb d_RO_widen_35 (by decide) ?_
    have hca := h.1
    have hsa := h.2.1
    have h := h.2.2
    have hPc := hP.sub (ws' := [(a_rsl, .inl (cI, n3, .inl fsl))]) [3] rfl
    have hDc := hD.sub (ws' := [(a_rsl, .inl (cI, n3, .inl fsl))]) [3] (by decide) rfl
    have hFc := va_free (wc := [(a_rsl, .inl (cI, n3, .inl fsl))]) hD hS hA [3] rfl
    refine va_callv (va_runS (As := [.ref a_rsl, .int 0, .int x1, .int 0]) (rest := []) ⟨hx, hb, hml, hown, hts⟩ (c_JA_fill_aIIII l dC dI cI cJ cZ cQ a_rsl n3 H.size fsl 0 x1 0 _  h) (va_cwS 4 hts (goodIn_app (jGl (List.forall_mem_cons.mpr ⟨mw_341, List.forall_mem_cons.mpr ⟨mw_342, List.forall_mem_cons.mpr ⟨mw_13, fun _ h => absurd h List.not_mem_nil⟩⟩⟩)) (jG mw_343)) rfl rfl rfl (by decide +kernel) ⟨Nat.le_of_ble_eq_true rfl, Nat.le_of_ble_eq_true rfl⟩) ⟨jPre_blind, jPre_in hPc hK hDc hZ hS hFc hst⟩ rfl rfl hl.1 rfl (lv_room (Nat.le_of_ble_eq_true rfl)) d_RO_widen_36 ⟨hca, hsa⟩) hS (fun q _ h => hFc q h) hFc (fun u t H1 locs ht hvm hw hB hz1 hk1 hS => ?_)
    obtain ⟨u3, rfl⟩ : ∃ z, z = u := ⟨_, rfl⟩
    obtain ⟨hP1, hK1, hD1⟩ := hB
    rw [ht] at hP1
    have h := hw
    obtain ⟨hP, hD⟩ := va_join (wr := [(a_ro, .inr (2, [.ref a_rme, .ref a_rbu, .ref a_rsl, .int rmask, .int rsize, .int rcr])), (a_rme, .inl (cJ, n1, .inr (.inl fme))), (a_rbu, .inl (cJ, n2, .inr (.inl fbu)))]) (w1 := [(a_rsl, .inl (cI, n3, .inl u3))]) hP hD [3] [0, 1, 2] rfl rfl (by decide) (by decide) hk1 hFc hP1 hD1
    generalize H1 = H at hP hS ⊢
    have hP : va_P (dC, dI) vwCl [(a_ro, .inr (2, [.ref a_rme, .ref a_rbu, .ref a_rsl, .int rmask, .int rsize, .int rcr])), (a_rme, .inl (cJ, n1, .inr (.inl fme))), (a_rbu, .inl (cJ, n2, .inr (.inl fbu))), (a_rsl, .inl (cI, n3, .inl u3))] H := hP
    have hD : va_D A [(a_ro, .inr (2, [.ref a_rme, .ref a_rbu, .ref a_rsl, .int rmask, .int rsize, .int rcr])), (a_rme, .inl (cJ, n1, .inr (.inl fme))), (a_rbu, .inl (cJ, n2, .inr (.inl fbu))), (a_rsl, .inl (cI, n3, .inl u3))] := hD
    exact l_RO_widen_39 C0  rmask rsize rcr n1 fme n2 fbu n3 u3 x1 0 0 a_rme a_rbu a_rsl H locs ls h hP hD hS (lv_sub hl [1, 0] rfl)
  · have h := h.2 c16
    refine lv_aload_n hx hb d_RO_widen_19 rfl (lv_at hl 1 rfl) ?_
    refine lv_iload_n hx hb d_RO_widen_20 rfl (lv_at hl 0 rfl) ?_
    have hn9 := h.1
    have hb9 := h.2.1
    have h := h.2.2
    have hrc := h.1
    have hrs := h.2.1
    have h := h.2.2
    refine va_newa (atype := .int) (ty := .int) (N' := x1.toNatClampNeg) (a0 := (x1.toNatClampNeg, .inl (fun _ => 0))) hx hb (hts _ mw_47) rfl hK hP hD hS hA (fun _ => rfl) hn9 rfl hb9 hrc hrs d_RO_widen_21 (fun q4 cA9 H hK9 hP hD hS => ?_)
    obtain rfl := (jx_int 0 hK9 rfl).symm
    have hP : va_P (dC, dI) vwCl [(a_ro, .inr (2, [.ref a_rme, .ref a_rbu, .ref a_rsl, .int rmask, .int rsize, .int rcr])), (a_rme, .inl (cJ, n1, .inr (.inl fme))), (a_rbu, .inl (cJ, n2, .inr (.inl fbu))), (a_rsl, .inl (cI, n3, .inl fsl)), (q4, .inl (cI, x1.toNatClampNeg, .inl (fun _ => 0)))] H := hP
    have hD : va_D A [(a_ro, .inr (2, [.ref a_rme, .ref a_rbu, .ref a_rsl, .int rmask, .int rsize, .int rcr])), (a_rme, .inl (cJ, n1, .inr (.inl fme))), (a_rbu, .inl (cJ, n2, .inr (.inl fbu))), (a_rsl, .inl (cI, n3, .inl fsl)), (q4, .inl (cI, x1.toNatClampNeg, .inl (fun _ => 0)))] := hD
    refine va_put (D := (dC, dI)) (ci := 2) (v := .ref q4) (ty := (.array .int)) (C := R_RO) (T := T_RO) (N := 6) hx hb hts in_RO ty_RO tok_RO nm_RO hown hK hP hD hS 0 rfl rfl 2 (by decide) (hts _ mw_64) (fun _ h9 => h9) rfl (by decide +kernel) rfl rfl (Nat.le_of_ble_eq_true rfl) d_RO_widen_23 (fun H locs hP hD hS => ?_)
    have hP : va_P (dC, dI) vwCl [(a_ro, .inr (2, [.ref a_rme, .ref a_rbu, .ref q4, .int rmask, .int rsize, .int rcr])), (a_rme, .inl (cJ, n1, .inr (.inl fme))), (a_rbu, .inl (cJ, n2, .inr (.inl fbu))), (a_rsl, .inl (cI, n3, .inl fsl)), (q4, .inl (cI, x1.toNatClampNeg, .inl (fun _ => 0)))] H := hP
    have hD : va_D A [(a_ro, .inr (2, [.ref a_rme, .ref a_rbu, .ref q4, .int rmask, .int rsize, .int rcr])), (a_rme, .inl (cJ, n1, .inr (.inl fme))), (a_rbu, .inl (cJ, n2, .inr (.inl fbu))), (a_rsl, .inl (cI, n3, .inl fsl)), (q4, .inl (cI, x1.toNatClampNeg, .inl (fun _ => 0)))] := hD
    refine lv_goto (tgt := 39) hx hb d_RO_widen_26 (by decide) ?_
    exact l_RO_widen_39 C0  rmask rsize rcr n1 fme n2 fbu x1.toNatClampNeg (fun _ => 0) x1 (0 + 1) (0 + x1.toNatClampNeg) a_rme a_rbu q4 H locs ls h (hP.sub [0, 1, 2, 4] rfl) (hD.sub [0, 1, 2, 4] (by decide) rfl) hS (lv_sub hl [1, 0] rfl)

/-- what OrderMachines$Room.add(JJ)Z leaves -/
abbrev jQ_RO_add (dC : Nat → ClassId) (dI : Nat → Nat → Nat) (cI cJ cZ cQ : ClassId) (A : Nat → Prop) (a_ro : Nat) (Post : Int32 → Int32 → Int32 → Int32 → Nat → (Nat → Int64) → Nat → (Nat → Int64) → Nat → (Nat → Int32) → Prop) : Array Value → State → Outcome → State → Prop := va_Qi (fun (r : Int32) (u : Int32 × Int32 × Int32 × Nat × (Nat → Int64) × Nat × (Nat → Int64) × Nat × (Nat → Int32)) => Post r u.1 u.2.1 u.2.2.1 u.2.2.2.1 u.2.2.2.2.1 u.2.2.2.2.2.1 u.2.2.2.2.2.2.1 u.2.2.2.2.2.2.2.1 u.2.2.2.2.2.2.2.2) (fun (u : Int32 × Int32 × Int32 × Nat × (Nat → Int64) × Nat × (Nat → Int64) × Nat × (Nat → Int32)) (t : State) => match u with
  | (rmask, rsize, rcr, n1, fme, n2, fbu, n3, fsl) => ∃ (a_rme a_rbu a_rsl : Nat), jPost (dC, dI) (jT cI cJ cZ cQ) A [(a_ro, .inr (2, [.ref a_rme, .ref a_rbu, .ref a_rsl, .int rmask, .int rsize, .int rcr])), (a_rme, .inl (cJ, n1, .inr (.inl fme))), (a_rbu, .inl (cJ, n2, .inr (.inl fbu))), (a_rsl, .inl (cI, n3, .inl fsl))] t) A
/-- OrderMachines$Room.add(JJ)Z -/
def wp_RO_add (Post : Int32 → Int32 → Int32 → Int32 → Nat → (Nat → Int64) → Nat → (Nat → Int64) → Nat → (Nat → Int32) → Prop) (mc ms : Nat) (rmask rsize rcr : Int32) (n1 : Nat) (fme : Nat → Int64) (n2 : Nat) (fbu : Nat → Int64) (n3 : Nat) (fsl : Nat → Int32) (x0 y0 : Int64) : Prop :=
  0 ≤ mc ∧ 0 ≤ ms ∧ wp_RO_slotOf (fun (r1 : Int32) (u2 : Int32) (u3 : Int32) (u4 : Int32) (u5 : Nat) (u6 : Nat → Int64) (u7 : Nat) (u8 : Nat → Int64) (u9 : Nat) (u10 : Nat → Int32) => ((r1 = (-1) → 0 ≤ mc ∧ 0 ≤ ms ∧ Post 0 u2 u3 u4 u5 u6 u7 u8 u9 u10) ∧
  (¬ r1 = (-1) → vp_in r1 u9 ∧ (((u10 r1.toNatClampNeg) = 0 → ((u3 < (Int32.ofNat u5) → vp_in u3 u5 ∧ ∀ f14 : Nat → Int64, f14 = vp_updL u6 u3.toNatClampNeg x0 → vp_in u3 u7 ∧ ∀ f15 : Nat → Int64, f15 = vp_updL u8 u3.toNatClampNeg y0 → ∀ x16 : Int32, x16 = u3 + 1 → vp_in r1 u9 ∧ ∀ f17 : Nat → Int32, f17 = upd u10 r1.toNatClampNeg x16 → (((x16 * 2) ≤ u2 → 0 ≤ mc ∧ 0 ≤ ms ∧ Post 1 u2 x16 u4 u5 f14 u7 f15 u9 f17) ∧
        (¬ (x16 * 2) ≤ u2 → ∃ mg28 sg29 : Nat, 0 + mg28 ≤ mc ∧ 0 + sg29 ≤ ms ∧ wp_RO_widen (fun (u19 : Int32) (u20 : Int32) (u21 : Int32) (u22 : Nat) (u23 : Nat → Int64) (u24 : Nat) (u25 : Nat → Int64) (u26 : Nat) (u27 : Nat → Int32) => (0 + mg28) ≤ mc ∧ (0 + sg29) ≤ ms ∧ Post 1 u19 u20 u21 u22 u23 u24 u25 u26 u27) mg28 sg29 u2 x16 u4 u5 f14 u7 f15 u9 f17))) ∧
      (¬ u3 < (Int32.ofNat u5) → 0 ≤ mc ∧ 0 ≤ ms ∧ Post 0 u2 u3 1 u5 u6 u7 u8 u9 u10))) ∧
    (¬ (u10 r1.toNatClampNeg) = 0 → 0 ≤ mc ∧ 0 ≤ ms ∧ Post 0 u2 u3 u4 u5 u6 u7 u8 u9 u10))))) rmask rsize rcr n1 fme n2 fbu n3 fsl x0 y0
set_option maxHeartbeats 4000000 in
set_option maxRecDepth 100000 in
theorem c_RO_add (l : Launch) (dC : Nat → ClassId) (dI : Nat → Nat → Nat) (cI cJ cZ cQ : ClassId) (a_ro : Nat) (a_rme a_rbu a_rsl : Nat) (sz : Nat) (rmask rsize rcr : Int32) (n1 : Nat) (fme : Nat → Int64) (n2 : Nat) (fbu : Nat → Int64) (n3 : Nat) (fsl : Nat → Int32) (x0 y0 : Int64) (mc ms : Nat) (Post : Int32 → Int32 → Int32 → Int32 → Nat → (Nat → Int64) → Nat → (Nat → Int64) → Nat → (Nat → Int32) → Prop) (h : wp_RO_add Post mc ms rmask rsize rcr n1 fme n2 fbu n3 fsl x0 y0) : Met l y_RO_add (.code y_RO_add b_RO_add 6 (some .boolean) :: jW) ({ frames := 13, cells := mc, slots := ms, locals := 220 } : Room) (jPre l (dC, dI) cI cJ cZ cQ [(a_ro, .inr (2, [.ref a_rme, .ref a_rbu, .ref a_rsl, .int rmask, .int rsize, .int rcr])), (a_rme, .inl (cJ, n1, .inr (.inl fme))), (a_rbu, .inl (cJ, n2, .inr (.inl fbu))), (a_rsl, .inl (cI, n3, .inl fsl))] sz [.ref a_ro, .long x0, .long y0]) (jQ_RO_add dC dI cI cJ cZ cQ (va_A [(a_ro, .inr (2, [.ref a_rme, .ref a_rbu, .ref a_rsl, .int rmask, .int rsize, .int rcr])), (a_rme, .inl (cJ, n1, .inr (.inl fme))), (a_rbu, .inl (cJ, n2, .inr (.inl fbu))), (a_rsl, .inl (cI, n3, .inl fsl))] sz) a_ro Post) mc ms (va_A [(a_ro, .inr (2, [.ref a_rme, .ref a_rbu, .ref a_rsl, .int rmask, .int rsize, .int rcr])), (a_rme, .inl (cJ, n1, .inr (.inl fme))), (a_rbu, .inl (cJ, n2, .inr (.inl fbu))), (a_rsl, .inl (cI, n3, .inl fsl))] sz) := by
  refine Met.ofW (cc := b_RO_add) (maxL := 6) (ret := (some .boolean)) (by decide) rfl ?_
  intro p e s m args below meth c s₁ B hml hv
  obtain ⟨rfl, hsz, hP, hK, hD0, hZ, hst⟩ := hv
  subst hsz
  have hD := hD0.self (sz := s.heap.size)
  generalize hAe : va_A [(a_ro, .inr (2, [.ref a_rme, .ref a_rbu, .ref a_rsl, .int rmask, .int rsize, .int rcr])), (a_rme, .inl (cJ, n1, .inr (.inl fme))), (a_rbu, .inl (cJ, n2, .inr (.inl fbu))), (a_rsl, .inl (cI, n3, .inl fsl))] s.heap.size = A at hD hZ ⊢
  have hA : ∀ q : Nat, s.heap.size ≤ q → A q := fun q h => by rw [← hAe]; exact Or.inr h
  have C0 : jC p l s m ([.ref a_ro, .long x0, .long y0] : List Value).toArray meth c b_RO_add (some .boolean) 6 R_RO (dC, dI) cI cJ cZ cQ A := ⟨B.exec, B.bytes, B.returns, hml, findClass_of_methodNamed B.named, fun w hw => atoms_spec (ws := (.code y_RO_add b_RO_add 6 (some .boolean) :: jW)) B.pre w (List.mem_cons_of_mem _ hw), B.notSynchronized, hK, hZ, hA, hst⟩
  obtain ⟨hx, hb, hr, hml, hown, hts, hlocks, hK, hZ, hA, hst⟩ := id C0
  have hS : va_S A s.heap s.heap [] := va_S.rf
  have hl := lv_entry ([.ref a_ro, .long x0, .long y0]) (n := 6) (Nat.le_of_ble_eq_true rfl)
  rw [lg_entry_eq]
  generalize (lg_sl ([.ref a_ro, .long x0, .long y0]) ++ List.replicate (6 - (lg_sl ([.ref a_ro, .long x0, .long y0])).length) Slot.unset).toArray = ls at hl ⊢
  have hl : lv_has ls 6 [(0, .ref a_ro), (1, .long x0), (3, .long y0)] := hl
  obtain ⟨H, hH⟩ : ∃ H : Heap, H = s.heap := ⟨_, rfl⟩
  obtain ⟨locs, hlc⟩ : ∃ L : List Loc, L = [] := ⟨_, rfl⟩
  have hP : va_P (dC, dI) vwCl [(a_ro, .inr (2, [.ref a_rme, .ref a_rbu, .ref a_rsl, .int rmask, .int rsize, .int rcr])), (a_rme, .inl (cJ, n1, .inr (.inl fme))), (a_rbu, .inl (cJ, n2, .inr (.inl fbu))), (a_rsl, .inl (cI, n3, .inl fsl))] H := by rw [hH]; exact hP
  have hS : va_S A s.heap H locs := by rw [hH, hlc]; exact hS
  suffices hW9 : W p l e ({ frames := 13, cells := mc, slots := ms, locals := 220 } : Room) s m ([.ref a_ro, .long x0, .long y0] : List Value).toArray below meth c H locs 0 0 (MQ below (jQ_RO_add dC dI cI cJ cZ cQ A a_ro Post) ([.ref a_ro, .long x0, .long y0] : List Value).toArray s mc ms A) (F0 m 0 ls []) by rw [hH, hlc] at hW9; exact hW9
  clear hH hlc
  rw [wp_RO_add] at h
  refine lv_aload_n hx hb d_RO_add_0 rfl (lv_at hl 0 rfl) ?_
  refine lv_lload_n hx hb d_RO_add_1 rfl (lv_at hl 1 rfl) ?_
  refine lv_lload_n hx hb d_RO_add_2 rfl (lv_at hl 2 rfl) ?_
  have hca := h.1
  have hsa := h.2.1
  have h := h.2.2
  have hPc := hP.sub (ws' := [(a_ro, .inr (2, [.ref a_rme, .ref a_rbu, .ref a_rsl, .int rmask, .int rsize, .int rcr])), (a_rme, .inl (cJ, n1, .inr (.inl fme))), (a_rbu, .inl (cJ, n2, .inr (.inl fbu))), (a_rsl, .inl (cI, n3, .inl fsl))]) [0, 1, 2, 3] rfl
  have hDc := hD.sub (ws' := [(a_ro, .inr (2, [.ref a_rme, .ref a_rbu, .ref a_rsl, .int rmask, .int rsize, .int rcr])), (a_rme, .inl (cJ, n1, .inr (.inl fme))), (a_rbu, .inl (cJ, n2, .inr (.inl fbu))), (a_rsl, .inl (cI, n3, .inl fsl))]) [0, 1, 2, 3] (by decide) rfl
  have hFc := va_free (wc := [(a_ro, .inr (2, [.ref a_rme, .ref a_rbu, .ref a_rsl, .int rmask, .int rsize, .int rcr])), (a_rme, .inl (cJ, n1, .inr (.inl fme))), (a_rbu, .inl (cJ, n2, .inr (.inl fbu))), (a_rsl, .inl (cI, n3, .inl fsl))]) hD hS hA [0, 1, 2, 3] rfl
  refine va_calli (va_runV (As := [.long x0, .long y0]) (rest := []) ⟨hx, hb, hml, hown, hts⟩ (c_RO_slotOf l dC dI cI cJ cZ cQ a_ro a_rme a_rbu a_rsl H.size rmask rsize rcr n1 fme n2 fbu n3 fsl x0 y0 _  h) (cwV 2 hts (goodIn_app (jGl (List.forall_mem_cons.mpr ⟨mw_620, List.forall_mem_cons.mpr ⟨mw_622, List.forall_mem_cons.mpr ⟨ms_RO_slotOf, List.forall_mem_cons.mpr ⟨mw_4, fun _ h => absurd h List.not_mem_nil⟩⟩⟩⟩)) (jG mw_623)) rfl rfl rfl (by decide +kernel) ⟨Nat.le_of_ble_eq_true rfl, Nat.le_of_ble_eq_true rfl⟩) ⟨jPre_blind, va_recv hK hPc (ci := 2) (q0 := 0) rfl rfl, jPre_in hPc hK hDc hZ hS hFc hst⟩ rfl rfl hl.1 rfl (lv_room (Nat.le_of_ble_eq_true rfl)) d_RO_add_3 ⟨hca, hsa⟩) hS (fun q _ h => hFc q h) hFc (fun r1 u t H1 locs ht hvm hw hB hz1 hk1 hS => ?_)
  obtain ⟨u2, u3, u4, u5, u6, u7, u8, u9, u10⟩ := u
  obtain ⟨q11, q12, q13, hP1, hK1, hD1⟩ := hB
  rw [ht] at hP1
  have h := hw
  obtain ⟨hP, hD⟩ := va_join (wr := []) (w1 := [(a_ro, .inr (2, [.ref q11, .ref q12, .ref q13, .int u2, .int u3, .int u4])), (q11, .inl (cJ, u5, .inr (.inl u6))), (q12, .inl (cJ, u7, .inr (.inl u8))), (q13, .inl (cI, u9, .inl u10))]) hP hD [0, 1, 2, 3] [] rfl rfl (by decide) (by decide) hk1 hFc hP1 hD1
  generalize H1 = H at hP hS ⊢
  have hP : va_P (dC, dI) vwCl [(a_ro, .inr (2, [.ref q11, .ref q12, .ref q13, .int u2, .int u3, .int u4])), (q11, .inl (cJ, u5, .inr (.inl u6))), (q12, .inl (cJ, u7, .inr (.inl u8))), (q13, .inl (cI, u9, .inl u10))] H := hP
  have hD : va_D A [(a_ro, .inr (2, [.ref q11, .ref q12, .ref q13, .int u2, .int u3, .int u4])), (q11, .inl (cJ, u5, .inr (.inl u6))), (q12, .inl (cJ, u7, .inr (.inl u8))), (q13, .inl (cI, u9, .inl u10))] := hD
  refine lv_istore (lv' := [(5, .int r1), (0, .ref a_ro), (1, .long x0), (3, .long y0)]) hx hb d_RO_add_6 hl (by decide) rfl (fun ls hl => ?_)
  refine lv_iload hx hb d_RO_add_8 (lv_at hl 0 rfl) ?_
  refine lv_iconst (v := (-1)) hx hb d_RO_add_10 (by decide) ?_
  refine lv_icmp_eq (tgt := 24) hx hb d_RO_add_11 (by decide) (fun c11 => ?_) (fun c11 => ?_)
  · have h := h.1 c11
    refine lv_iconst (v := 0) hx hb d_RO_add_24 (by decide) ?_
    refine W.widen (k := mc) (n := ms) h.1 h.2.1 ?_
    have h := h.2.2
    have hP9 := hP
    have hD9 := hD
    exact W.zret (v := 0) hx hb hr rfl (fun t ht hW => ⟨⟨0, (u2, u3, u4, u5, u6, u7, u8, u9, u10), rfl, h, q11, q12, q13, by rw [ht]; exact hP9, va_K.moved hW.alike hK, hD9⟩, hS.F ht⟩) hS.2.2 d_RO_add_25
  · have h := h.2 c11
    refine lv_aload_n hx hb d_RO_add_14 rfl (lv_at hl 1 rfl) ?_
    refine va_get (D := (dC, dI)) (ci := 2) (v := .ref q13) (C := R_RO) (T := T_RO) (N := 6) hx hb hts in_RO hown hK hP 0 rfl rfl 2 (by decide) (hts _ mw_64) (fun _ h9 => h9) rfl d_RO_add_15 ?_
    refine lv_iload hx hb d_RO_add_18 (lv_at hl 0 rfl) ?_
    refine va_iald hx hb hK hP 3 0 rfl rfl h.1 d_RO_add_20 ?_
    have h := h.2
    refine lv_if_eq (tgt := 26) hx hb d_RO_add_21 (by decide) (fun c21 => ?_) (fun c21 => ?_)
    · have h := h.1 c21
      refine lv_aload_n hx hb d_RO_add_26 rfl (lv_at hl 1 rfl) ?_
      refine va_get (D := (dC, dI)) (ci := 2) (v := .int u3) (C := R_RO) (T := T_RO) (N := 6) hx hb hts in_RO hown hK hP 0 rfl rfl 4 (by decide) (hts _ mw_66) (fun _ h9 => h9) rfl d_RO_add_27 ?_
      refine lv_aload_n hx hb d_RO_add_30 rfl (lv_at hl 1 rfl) ?_
      refine va_get (D := (dC, dI)) (ci := 2) (v := .ref q11) (C := R_RO) (T := T_RO) (N := 6) hx hb hts in_RO hown hK hP 0 rfl rfl 0 (by decide) (hts _ mw_60) (fun _ h9 => h9) rfl d_RO_add_31 ?_
      refine va_alen hx hb hK hP 1 1 (ty := .long) rfl rfl (v := Int32.ofNat u5) rfl d_RO_add_34 ?_
      refine lv_icmp_lt (tgt := 45) hx hb d_RO_add_35 (by decide) (fun c35 => ?_) (fun c35 => ?_)
      · have h := h.1 c35
        refine lv_aload_n hx hb d_RO_add_45 rfl (lv_at hl 1 rfl) ?_
        refine va_get (D := (dC, dI)) (ci := 2) (v := .ref q11) (C := R_RO) (T := T_RO) (N := 6) hx hb hts in_RO hown hK hP 0 rfl rfl 0 (by decide) (hts _ mw_60) (fun _ h9 => h9) rfl d_RO_add_46 ?_
        refine lv_aload_n hx hb d_RO_add_49 rfl (lv_at hl 1 rfl) ?_
        refine va_get (D := (dC, dI)) (ci := 2) (v := .int u3) (C := R_RO) (T := T_RO) (N := 6) hx hb hts in_RO hown hK hP 0 rfl rfl 4 (by decide) (hts _ mw_66) (fun _ h9 => h9) rfl d_RO_add_50 ?_
        refine lv_lload_n hx hb d_RO_add_53 rfl (lv_at hl 2 rfl) ?_
        refine va_last hx hb hK hP hD hS 1 1 rfl rfl h.1 d_RO_add_54 (fun H locs hP hD hS => ?_)
        have h := h.2
        obtain ⟨f14, ef14⟩ : ∃ y : Nat → Int64, y = vp_updL u6 u3.toNatClampNeg x0 := ⟨_, rfl⟩
        rw [← ef14] at hP hD
        have h := h f14 ef14
        have hP : va_P (dC, dI) vwCl [(a_ro, .inr (2, [.ref q11, .ref q12, .ref q13, .int u2, .int u3, .int u4])), (q11, .inl (cJ, u5, .inr (.inl f14))), (q12, .inl (cJ, u7, .inr (.inl u8))), (q13, .inl (cI, u9, .inl u10))] H := hP
        have hD : va_D A [(a_ro, .inr (2, [.ref q11, .ref q12, .ref q13, .int u2, .int u3, .int u4])), (q11, .inl (cJ, u5, .inr (.inl f14))), (q12, .inl (cJ, u7, .inr (.inl u8))), (q13, .inl (cI, u9, .inl u10))] := hD
        refine lv_aload_n hx hb d_RO_add_55 rfl (lv_at hl 1 rfl) ?_
        refine va_get (D := (dC, dI)) (ci := 2) (v := .ref q12) (C := R_RO) (T := T_RO) (N := 6) hx hb hts in_RO hown hK hP 0 rfl rfl 1 (by decide) (hts _ mw_62) (fun _ h9 => h9) rfl d_RO_add_56 ?_
        refine lv_aload_n hx hb d_RO_add_59 rfl (lv_at hl 1 rfl) ?_
        refine va_get (D := (dC, dI)) (ci := 2) (v := .int u3) (C := R_RO) (T := T_RO) (N := 6) hx hb hts in_RO hown hK hP 0 rfl rfl 4 (by decide) (hts _ mw_66) (fun _ h9 => h9) rfl d_RO_add_60 ?_
        refine lv_lload_n hx hb d_RO_add_63 rfl (lv_at hl 3 rfl) ?_
        refine va_last hx hb hK hP hD hS 2 1 rfl rfl h.1 d_RO_add_64 (fun H locs hP hD hS => ?_)
        have h := h.2
        obtain ⟨f15, ef15⟩ : ∃ y : Nat → Int64, y = vp_updL u8 u3.toNatClampNeg y0 := ⟨_, rfl⟩
        rw [← ef15] at hP hD
        have h := h f15 ef15
        have hP : va_P (dC, dI) vwCl [(a_ro, .inr (2, [.ref q11, .ref q12, .ref q13, .int u2, .int u3, .int u4])), (q11, .inl (cJ, u5, .inr (.inl f14))), (q12, .inl (cJ, u7, .inr (.inl f15))), (q13, .inl (cI, u9, .inl u10))] H := hP
        have hD : va_D A [(a_ro, .inr (2, [.ref q11, .ref q12, .ref q13, .int u2, .int u3, .int u4])), (q11, .inl (cJ, u5, .inr (.inl f14))), (q12, .inl (cJ, u7, .inr (.inl f15))), (q13, .inl (cI, u9, .inl u10))] := hD
        refine lv_aload_n hx hb d_RO_add_65 rfl (lv_at hl 1 rfl) ?_
        refine lv_dup hx hb d_RO_add_66 rfl ?_
        refine va_get (D := (dC, dI)) (ci := 2) (v := .int u3) (C := R_RO) (T := T_RO) (N := 6) hx hb hts in_RO hown hK hP 0 rfl rfl 4 (by decide) (hts _ mw_66) (fun _ h9 => h9) rfl d_RO_add_67 ?_
        refine lv_iconst (v := 1) hx hb d_RO_add_70 (by decide) ?_
        refine lv_iadd hx hb d_RO_add_71 ?_
        refine lv_topi (fun x16 ex16 => ?_)
        have h := h x16 ex16
        refine va_put (D := (dC, dI)) (ci := 2) (v := .int x16) (ty := .int) (C := R_RO) (T := T_RO) (N := 6) hx hb hts in_RO ty_RO tok_RO nm_RO hown hK hP hD hS 0 rfl rfl 4 (by decide) (hts _ mw_66) (fun _ h9 => h9) rfl (by decide +kernel) rfl rfl (Nat.le_of_ble_eq_true rfl) d_RO_add_72 (fun H locs hP hD hS => ?_)
        have hP : va_P (dC, dI) vwCl [(a_ro, .inr (2, [.ref q11, .ref q12, .ref q13, .int u2, .int x16, .int u4])), (q11, .inl (cJ, u5, .inr (.inl f14))), (q12, .inl (cJ, u7, .inr (.inl f15))), (q13, .inl (cI, u9, .inl u10))] H := hP
        have hD : va_D A [(a_ro, .inr (2, [.ref q11, .ref q12, .ref q13, .int u2, .int x16, .int u4])), (q11, .inl (cJ, u5, .inr (.inl f14))), (q12, .inl (cJ, u7, .inr (.inl f15))), (q13, .inl (cI, u9, .inl u10))] := hD
        refine lv_aload_n hx hb d_RO_add_75 rfl (lv_at hl 1 rfl) ?_
        refine va_get (D := (dC, dI)) (ci := 2) (v := .ref q13) (C := R_RO) (T := T_RO) (N := 6) hx hb hts in_RO hown hK hP 0 rfl rfl 2 (by decide) (hts _ mw_64) (fun _ h9 => h9) rfl d_RO_add_76 ?_
        refine lv_iload hx hb d_RO_add_79 (lv_at hl 0 rfl) ?_
        refine lv_aload_n hx hb d_RO_add_81 rfl (lv_at hl 1 rfl) ?_
        refine va_get (D := (dC, dI)) (ci := 2) (v := .int x16) (C := R_RO) (T := T_RO) (N := 6) hx hb hts in_RO hown hK hP 0 rfl rfl 4 (by decide) (hts _ mw_66) (fun _ h9 => h9) rfl d_RO_add_82 ?_
        refine va_iast hx hb hK hP hD hS 3 0 rfl rfl h.1 d_RO_add_85 (fun H locs hP hD hS => ?_)
        have h := h.2
        obtain ⟨f17, ef17⟩ : ∃ y : Nat → Int32, y = upd u10 r1.toNatClampNeg x16 := ⟨_, rfl⟩
        rw [← ef17] at hP hD
        have h := h f17 ef17
        have hP : va_P (dC, dI) vwCl [(a_ro, .inr (2, [.ref q11, .ref q12, .ref q13, .int u2, .int x16, .int u4])), (q11, .inl (cJ, u5, .inr (.inl f14))), (q12, .inl (cJ, u7, .inr (.inl f15))), (q13, .inl (cI, u9, .inl f17))] H := hP
        have hD : va_D A [(a_ro, .inr (2, [.ref q11, .ref q12, .ref q13, .int u2, .int x16, .int u4])), (q11, .inl (cJ, u5, .inr (.inl f14))), (q12, .inl (cJ, u7, .inr (.inl f15))), (q13, .inl (cI, u9, .inl f17))] := hD
        refine lv_aload_n hx hb d_RO_add_86 rfl (lv_at hl 1 rfl) ?_
        refine va_get (D := (dC, dI)) (ci := 2) (v := .int x16) (C := R_RO) (T := T_RO) (N := 6) hx hb hts in_RO hown hK hP 0 rfl rfl 4 (by decide) (hts _ mw_66) (fun _ h9 => h9) rfl d_RO_add_87 ?_
        refine lv_iconst (v := 2) hx hb d_RO_add_90 (by decide) ?_
        refine lv_imul hx hb d_RO_add_91 ?_
        refine lv_aload_n hx hb d_RO_add_92 rfl (lv_at hl 1 rfl) ?_
        refine va_get (D := (dC, dI)) (ci := 2) (v := .int u2) (C := R_RO) (T := T_RO) (N := 6) hx hb hts in_RO hown hK hP 0 rfl rfl 3 (by decide) (hts _ mw_65) (fun _ h9 => h9) rfl d_RO_add_93 ?_
        refine lv_icmp_le (tgt := 103) hx hb d_RO_add_96 (by decide) (fun c96 => ?_) (fun c96 => ?_)
        · have h := h.1 c96
          refine lv_iconst (v := 1) hx hb d_RO_add_103 (by decide) ?_
          refine W.widen (k := mc) (n := ms) h.1 h.2.1 ?_
          have h := h.2.2
          have hP9 := hP
          have hD9 := hD
          exact W.zret (v := 1) hx hb hr rfl (fun t ht hW => ⟨⟨1, (u2, x16, u4, u5, f14, u7, f15, u9, f17), rfl, h, q11, q12, q13, by rw [ht]; exact hP9, va_K.moved hW.alike hK, hD9⟩, hS.F ht⟩) hS.2.2 d_RO_add_104
        · have h := h.2 c96
          refine lv_aload_n hx hb d_RO_add_99 rfl (lv_at hl 1 rfl) ?_
          obtain ⟨mg28, sg29, hmg, hsg, h⟩ := h
          have hPc := hP.sub (ws' := [(a_ro, .inr (2, [.ref q11, .ref q12, .ref q13, .int u2, .int x16, .int u4])), (q11, .inl (cJ, u5, .inr (.inl f14))), (q12, .inl (cJ, u7, .inr (.inl f15))), (q13, .inl (cI, u9, .inl f17))]) [0, 1, 2, 3] rfl
          have hDc := hD.sub (ws' := [(a_ro, .inr (2, [.ref q11, .ref q12, .ref q13, .int u2, .int x16, .int u4])), (q11, .inl (cJ, u5, .inr (.inl f14))), (q12, .inl (cJ, u7, .inr (.inl f15))), (q13, .inl (cI, u9, .inl f17))]) [0, 1, 2, 3] (by decide) rfl
          have hFc := va_free (wc := [(a_ro, .inr (2, [.ref q11, .ref q12, .ref q13, .int u2, .int x16, .int u4])), (q11, .inl (cJ, u5, .inr (.inl f14))), (q12, .inl (cJ, u7, .inr (.inl f15))), (q13, .inl (cI, u9, .inl f17))]) hD hS hA [0, 1, 2, 3] rfl
          refine va_callv (va_runV (As := []) (rest := []) ⟨hx, hb, hml, hown, hts⟩ (c_RO_widen l dC dI cI cJ cZ cQ a_ro q11 q12 q13 H.size u2 x16 u4 u5 f14 u7 f15 u9 f17 mg28 sg29 _  h) (cwV 0 hts (goodIn_app (jGl (List.forall_mem_cons.mpr ⟨mw_626, List.forall_mem_cons.mpr ⟨mw_628, List.forall_mem_cons.mpr ⟨ms_RO_widen, List.forall_mem_cons.mpr ⟨mw_4, fun _ h => absurd h List.not_mem_nil⟩⟩⟩⟩)) (jG mw_629)) rfl rfl rfl (by decide +kernel) ⟨Nat.le_of_ble_eq_true rfl, Nat.le_of_ble_eq_true rfl⟩) ⟨jPre_blind, va_recv hK hPc (ci := 2) (q0 := 0) rfl rfl, jPre_in hPc hK hDc hZ hS hFc hst⟩ rfl rfl hl.1 rfl (lv_room (Nat.le_of_ble_eq_true rfl)) d_RO_add_100 ⟨hmg, hsg⟩) hS (fun q _ h => hFc q h) hFc (fun u t H1 locs ht hvm hw hB hz1 hk1 hS => ?_)
          obtain ⟨u19, u20, u21, u22, u23, u24, u25, u26, u27⟩ := u
          obtain ⟨q30, q31, q32, hP1, hK1, hD1⟩ := hB
          rw [ht] at hP1
          have h := hw
          obtain ⟨hP, hD⟩ := va_join (wr := []) (w1 := [(a_ro, .inr (2, [.ref q30, .ref q31, .ref q32, .int u19, .int u20, .int u21])), (q30, .inl (cJ, u22, .inr (.inl u23))), (q31, .inl (cJ, u24, .inr (.inl u25))), (q32, .inl (cI, u26, .inl u27))]) hP hD [0, 1, 2, 3] [] rfl rfl (by decide) (by decide) hk1 hFc hP1 hD1
          generalize H1 = H at hP hS ⊢
          have hP : va_P (dC, dI) vwCl [(a_ro, .inr (2, [.ref q30, .ref q31, .ref q32, .int u19, .int u20, .int u21])), (q30, .inl (cJ, u22, .inr (.inl u23))), (q31, .inl (cJ, u24, .inr (.inl u25))), (q32, .inl (cI, u26, .inl u27))] H := hP
          have hD : va_D A [(a_ro, .inr (2, [.ref q30, .ref q31, .ref q32, .int u19, .int u20, .int u21])), (q30, .inl (cJ, u22, .inr (.inl u23))), (q31, .inl (cJ, u24, .inr (.inl u25))), (q32, .inl (cI, u26, .inl u27))] := hD
          refine lv_iconst (v := 1) hx hb d_RO_add_103 (by decide) ?_
          refine W.widen (k := mc) (n := ms) h.1 h.2.1 ?_
          have h := h.2.2
          have hP9 := hP
          have hD9 := hD
          exact W.zret (v := 1) hx hb hr rfl (fun t ht hW => ⟨⟨1, (u19, u20, u21, u22, u23, u24, u25, u26, u27), rfl, h, q30, q31, q32, by rw [ht]; exact hP9, va_K.moved hW.alike hK, hD9⟩, hS.F ht⟩) hS.2.2 d_RO_add_104
      · have h := h.2 c35
        refine lv_aload_n hx hb d_RO_add_38 rfl (lv_at hl 1 rfl) ?_
        refine lv_iconst (v := 1) hx hb d_RO_add_39 (by decide) ?_
        refine va_put (D := (dC, dI)) (ci := 2) (v := .int 1) (ty := .boolean) (C := R_RO) (T := T_RO) (N := 6) hx hb hts in_RO ty_RO tok_RO nm_RO hown hK hP hD hS 0 rfl rfl 5 (by decide) (hts _ mw_68) (fun _ h9 => h9) rfl (by decide +kernel) rfl rfl (Nat.le_of_ble_eq_true rfl) d_RO_add_40 (fun H locs hP hD hS => ?_)
        have hP : va_P (dC, dI) vwCl [(a_ro, .inr (2, [.ref q11, .ref q12, .ref q13, .int u2, .int u3, .int 1])), (q11, .inl (cJ, u5, .inr (.inl u6))), (q12, .inl (cJ, u7, .inr (.inl u8))), (q13, .inl (cI, u9, .inl u10))] H := hP
        have hD : va_D A [(a_ro, .inr (2, [.ref q11, .ref q12, .ref q13, .int u2, .int u3, .int 1])), (q11, .inl (cJ, u5, .inr (.inl u6))), (q12, .inl (cJ, u7, .inr (.inl u8))), (q13, .inl (cI, u9, .inl u10))] := hD
        refine lv_iconst (v := 0) hx hb d_RO_add_43 (by decide) ?_
        refine W.widen (k := mc) (n := ms) h.1 h.2.1 ?_
        have h := h.2.2
        have hP9 := hP
        have hD9 := hD
        exact W.zret (v := 0) hx hb hr rfl (fun t ht hW => ⟨⟨0, (u2, u3, 1, u5, u6, u7, u8, u9, u10), rfl, h, q11, q12, q13, by rw [ht]; exact hP9, va_K.moved hW.alike hK, hD9⟩, hS.F ht⟩) hS.2.2 d_RO_add_44
    · have h := h.2 c21
      refine lv_iconst (v := 0) hx hb d_RO_add_24 (by decide) ?_
      refine W.widen (k := mc) (n := ms) h.1 h.2.1 ?_
      have h := h.2.2
      have hP9 := hP
      have hD9 := hD
      exact W.zret (v := 0) hx hb hr rfl (fun t ht hW => ⟨⟨0, (u2, u3, u4, u5, u6, u7, u8, u9, u10), rfl, h, q11, q12, q13, by rw [ht]; exact hP9, va_K.moved hW.alike hK, hD9⟩, hS.F ht⟩) hS.2.2 d_RO_add_25
