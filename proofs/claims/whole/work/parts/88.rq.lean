/-! the reference's questions, the rest -/
def RJ (na co : Nat → Nat) (hknown htooMany hstates hstuck houtcomes hfrom hstep hdepth hends : Nat → Int32) (hendOutcome : Nat → Int64) (hcuts hsoonest : Nat → Int32) : Prop :=
  ∀ k, k < 4 → hknown k = 0 ∨ (hknown k = 1 ∧ RK na co k htooMany hstates hstuck houtcomes hfrom hstep hdepth hends hendOutcome hcuts hsoonest)
theorem RJ_RN {na co : Nat → Nat} {k : Nat} {hknown htooMany hstates hstuck houtcomes hfrom hstep hdepth hends hcuts hsoonest : Nat → Int32} {hendOutcome : Nat → Int64} {hknown' htooMany' hstates' hstuck' houtcomes' hfrom' hstep' hdepth' hends' hcuts' hsoonest' : Nat → Int32} {hendOutcome' : Nat → Int64} (hPN : PN na co)
    (h : RJ na co hknown htooMany hstates hstuck houtcomes hfrom hstep hdepth hends hendOutcome hcuts hsoonest) (hN : RN na co k hknown htooMany hstates hstuck houtcomes hfrom hstep hdepth hends hendOutcome hcuts hsoonest hknown' htooMany' hstates' hstuck' houtcomes' hfrom' hstep' hdepth' hends' hendOutcome' hcuts' hsoonest') : RJ na co hknown' htooMany' hstates' hstuck' houtcomes' hfrom' hstep' hdepth' hends' hendOutcome' hcuts' hsoonest' := by
  intro j hj
  by_cases e : j = k
  · rw [e]
    exact Or.inr ⟨hN.2.2.1, hN.1⟩
  · rw [hN.2.2.2 j e]
    rcases h j hj with a | a
    · exact Or.inl a
    · exact Or.inr ⟨a.1, RK_frame hPN e hN.2.1 a.2⟩
theorem s_row77 {Post : Int32 → Int32 → (Nat → Int32) → (Nat → Int32) → (Nat → Int32) → (Nat → Int32) → (Nat → Int32) → (Nat → Int32) → (Nat → Int32) → (Nat → Int32) → (Nat → Int32) → (Nat → Int32) → (Nat → Int32) → (Nat → Int32) → (Nat → Int32) → (Nat → Int32) → (Nat → Int32) → (Nat → Int64) → (Nat → Int64) → (Nat → Int32) → (Nat → Int32) → (Nat → Int32) → (Nat → Int32) → (Nat → Int64) → (Nat → Int32) → (Nat → Int32) → (Nat → Int32) → (Nat → Int32) → (Nat → Int32) → Prop} {th : Int32} {hactions hwhat hwhere hnumber d r m sz p v hknown htooMany hstates hstuck houtcomes hfrom hstep hdepth hends hcuts hsoonest hchain hnext : Nat → Int32} {hfront hbehind hendOutcome : Nat → Int64} {na co : Nat → Nat} {k s i : Nat} (hPN : PN na co) (hk : k < 4) (hR : RK na co k htooMany hstates hstuck houtcomes hfrom hstep hdepth hends hendOutcome hcuts hsoonest) (hs : s < xn (xF na co k)) (hi : i < xd (xF na co k) s)
    (h : ∀ hrow', Post (rwS (xF na co k) s i) th hactions hwhat hwhere hnumber d r m sz p v hknown htooMany hstates hstuck houtcomes hfront hbehind hfrom hstep hdepth hends hendOutcome hcuts hsoonest hchain hnext hrow') :
    ∀ u hrow, u ≤ xd (xF na co k) s → (∀ x, u ≤ x → x < xd (xF na co k) s → hrow x = nI (xtr (xF na co k) (bk (xF na co k) s (xd (xF na co k) s - 1 - x))).2.1) → wp_MO_row_77 Post (u + 1) th hactions hwhat hwhere hnumber d r m sz p v hknown htooMany hstates hstuck houtcomes hfront hbehind hfrom hstep hdepth hends hendOutcome hcuts hsoonest hchain hnext hrow (nI k) (nI i) (nI (bk (xF na co k) s (xd (xF na co k) s - u))) (nI u) := by
  have hX := XI_F (k := k) hPN
  have hn12 := hX.2.1
  have hd40 := xd_le hPN.1 hX hs
  have h3 := hR.2.2.1
  generalize xF na co k = F at *
  intro u
  induction u with
  | zero =>
    intro hrow hu hz
    rw [wp_MO_row_77]
    refine ⟨fun _ => ⟨vp_in_nI (by omega) (by decide), ?_⟩, fun c => absurd (show nI 0 ≤ 0 by decide) c⟩
    rw [nI_clamp (by omega), hz i (by omega) hi]
    have := h hrow
    simp only [rwS] at this
    rw [if_pos hi] at this
    exact this
  | succ u ih =>
    intro hrow hu hz
    obtain ⟨a1, a2⟩ := bk_p hX hs (xd F s - (u + 1)) (by omega)
    have hne : bk F s (xd F s - (u + 1)) ≠ 0 := fun e => by
      have := (bk_z hX hs (show xd F s - (u + 1) ≤ xd F s by omega)).mp e
      omega
    obtain ⟨b1, b2⟩ := (h3 _ a1).2 (by omega)
    rw [wp_MO_row_77, show (12001 : Int32) = nI 12001 from rfl, pk_mul, nI_add, nI_clamp (n := 12001 * k + bk F s (xd F s - (u + 1))) (by omega), b1, b2, show (1 : Int32) = nI 1 from rfl, pk_sub (by omega), nI_clamp (n := u + 1 - 1) (by omega)]
    refine ⟨fun c => absurd c (nI_nle (by omega) (by omega)), fun _ => ⟨vp_in_nI (by omega) (by decide), vp_in_nI (by omega) (by decide), fun f34 e34 => ⟨vp_in_nI (by omega) (by decide), fun x35 e35 x36 e36 => ?_⟩⟩⟩
    rw [← Int32.sub_eq_add_neg, pk_sub (by omega), show u + 1 - 1 = u by omega] at e36
    rw [e36, e35, show (xtr F (bk F s (xd F s - (u + 1)))).1 = bk F s (xd F s - u) by rw [show xd F s - u = (xd F s - (u + 1)) + 1 by omega]; rfl]
    refine ih f34 (by omega) (fun x hx1 hx2 => ?_)
    rw [e34]
    by_cases e : x = u
    · rw [e, show u + 1 - 1 = u by omega, pk_us, show xd F s - 1 - u = xd F s - (u + 1) by omega]
    · rw [pk_un (by omega)]
      exact hz x (by omega) hx2
theorem s_r_row {Post : Int32 → Int32 → (Nat → Int32) → (Nat → Int32) → (Nat → Int32) → (Nat → Int32) → (Nat → Int32) → (Nat → Int32) → (Nat → Int32) → (Nat → Int32) → (Nat → Int32) → (Nat → Int32) → (Nat → Int32) → (Nat → Int32) → (Nat → Int32) → (Nat → Int32) → (Nat → Int32) → (Nat → Int64) → (Nat → Int64) → (Nat → Int32) → (Nat → Int32) → (Nat → Int32) → (Nat → Int32) → (Nat → Int64) → (Nat → Int32) → (Nat → Int32) → (Nat → Int32) → (Nat → Int32) → (Nat → Int32) → Prop} {th : Int32} {hactions hwhat hwhere hnumber d r m sz p v hknown htooMany hstates hstuck houtcomes hfrom hstep hdepth hends hcuts hsoonest hchain hnext : Nat → Int32} {hfront hbehind hendOutcome : Nat → Int64} {na co : Nat → Nat} {hrow : Nat → Int32} {k : Nat} {k0 i0 : Int32} (hP : PGr hactions hwhat hwhere hnumber na co) (hPN : PN na co) (hk : k < 4) (hkn : hknown k = 0 ∨ (hknown k = 1 ∧ RK na co k htooMany hstates hstuck houtcomes hfrom hstep hdepth hends hendOutcome hcuts hsoonest))
    (h1 : ∀ d r m sz p v hknown' htooMany' hstates' hstuck' houtcomes' hfront' hbehind' hfrom' hstep' hdepth' hends' hendOutcome' hcuts' hsoonest' hchain' hnext', RN na co k hknown htooMany hstates hstuck houtcomes hfrom hstep hdepth hends hendOutcome hcuts hsoonest hknown' htooMany' hstates' hstuck' houtcomes' hfrom' hstep' hdepth' hends' hendOutcome' hcuts' hsoonest' → xc (xF na co k) = false → ∀ j, j < eN na co k → k0 = nI j → ∀ i, i < 2 ^ 31 → i0 = nI i → ∀ hrow', Post (rwS (xF na co k) (wC na co k j % 2 ^ 14) i) 0 hactions hwhat hwhere hnumber d r m sz p v hknown' htooMany' hstates' hstuck' houtcomes' hfront' hbehind' hfrom' hstep' hdepth' hends' hendOutcome' hcuts' hsoonest' hchain' hnext' hrow') (h3 : ∀ d r m sz p v hknown' htooMany' hstates' hstuck' houtcomes' hfront' hbehind' hfrom' hstep' hdepth' hends' hendOutcome' hcuts' hsoonest' hchain' hnext', RN na co k hknown htooMany hstates hstuck houtcomes hfrom hstep hdepth hends hendOutcome hcuts hsoonest hknown' htooMany' hstates' hstuck' houtcomes' hfrom' hstep' hdepth' hends' hendOutcome' hcuts' hsoonest' → xc (xF na co k) = false → (∀ j, j < eN na co k → k0 ≠ nI j) ∨ i0 < 0 → Post 0 3 hactions hwhat hwhere hnumber d r m sz p v hknown' htooMany' hstates' hstuck' houtcomes' hfront' hbehind' hfrom' hstep' hdepth' hends' hendOutcome' hcuts' hsoonest' hchain' hnext' hrow) (h2 : ∀ d r m sz p v hknown' htooMany' hstates' hstuck' houtcomes' hfront' hbehind' hfrom' hstep' hdepth' hends' hendOutcome' hcuts' hsoonest' hchain' hnext', RN na co k hknown htooMany hstates hstuck houtcomes hfrom hstep hdepth hends hendOutcome hcuts hsoonest hknown' htooMany' hstates' hstuck' houtcomes' hfrom' hstep' hdepth' hends' hendOutcome' hcuts' hsoonest' → xc (xF na co k) = true → Post 0 2 hactions hwhat hwhere hnumber d r m sz p v hknown' htooMany' hstates' hstuck' houtcomes' hfront' hbehind' hfrom' hstep' hdepth' hends' hendOutcome' hcuts' hsoonest' hchain' hnext' hrow) :
    wp_MO_row Post th hactions hwhat hwhere hnumber d r m sz p v hknown htooMany hstates hstuck houtcomes hfront hbehind hfrom hstep hdepth hends hendOutcome hcuts hsoonest hchain hnext hrow (nI k) k0 i0 := by
  have h12 := eN_le na co k
  rw [wp_MO_row, nI_clamp (by omega)]
  refine s_isThere hP hPN hk hkn (fun d r m sz p v hknown' htooMany' hstates' hstuck' houtcomes' hfront' hbehind' hfrom' hstep' hdepth' hends' hendOutcome' hcuts' hsoonest' hchain' hnext' hN hc => ⟨fun _ => ⟨vp_in_nI hk (by decide), ?_⟩, fun c => absurd c (by decide)⟩) (fun d r m sz p v hknown' htooMany' hstates' hstuck' houtcomes' hfront' hbehind' hfrom' hstep' hdepth' hends' hendOutcome' hcuts' hsoonest' hchain' hnext' hN hc => ⟨fun c => absurd rfl c, fun _ => h2 _ _ _ _ _ _ _ _ _ _ _ _ _ _ _ _ _ _ _ _ _ _ hN hc⟩)
  have hE := RK_E hN.1
  rw [hE.1]
  refine within_of (n := eN na co k) (by omega) (wn1 (by omega)) (fun j hj e => ⟨fun c => absurd c (by decide), fun _ => ?_⟩) (fun hn => ⟨fun _ => ?_, fun c => absurd rfl c⟩)
  · have hs : wC na co k j % 2 ^ 14 < xn (xF na co k) := Nat.lt_of_lt_of_le (wC_lt hj).2 (iE_xn hPN)
    have hX := XI_F (k := k) hPN
    have hn12 := hX.2.1
    have hd40 := xd_le hPN.1 hX hs
    have hdep := (hN.1.2.2.1 _ hs).1
    refine ⟨fun c => ?_, fun c => ?_⟩
    · obtain ⟨i, hi, ei⟩ := nI_of (show ¬ i0 < 0 from fun x => by
        rw [Int32.lt_iff_toInt_lt] at x
        rw [Int32.le_iff_toInt_le] at c
        omega)
      rw [e, show (12001 : Int32) = nI 12001 from rfl, pk_mul, nI_add, nI_clamp (by omega), (hE.2 j hj).2]
      refine ⟨vp_in_nI (by omega) (by decide), fun x30 e30 => ?_⟩
      rw [e30, nI_add, nI_clamp (by omega), hdep, ei]
      refine ⟨vp_in_nI (by omega) (by decide), fun x31 e31 => ?_⟩
      rw [e31]
      have hde : (xtr (xF na co k) (wC na co k j % 2 ^ 14)).2.2 = xd (xF na co k) (wC na co k j % 2 ^ 14) := rfl
      rw [hde]
      refine pk_lt i (xd (xF na co k) (wC na co k j % 2 ^ 14)) (fun c2 => ⟨xd (xF na co k) (wC na co k j % 2 ^ 14) + 1, ?_⟩) (fun c2 => ?_)
      · have := s_row77 (Post := Post) (th := 0) (d := d) (r := r) (m := m) (sz := sz) (p := p) (v := v) (hactions := hactions) (hwhat := hwhat) (hwhere := hwhere) (hnumber := hnumber) (hknown := hknown') (hfront := hfront') (hbehind := hbehind') (hchain := hchain') (hnext := hnext') hPN hk hN.1 hs c2 (fun hrow' => h1 _ _ _ _ _ _ _ _ _ _ _ _ _ _ _ _ _ _ _ _ _ _ hN hc j hj e i hi ei hrow') (xd (xF na co k) (wC na co k j % 2 ^ 14)) hrow (Nat.le_refl _) (fun x a b => by omega)
        rw [Nat.sub_self] at this
        exact this
      · have := h1 d r m sz p v hknown' htooMany' hstates' hstuck' houtcomes' hfront' hbehind' hfrom' hstep' hdepth' hends' hendOutcome' hcuts' hsoonest' hchain' hnext' hN hc j hj e i hi ei hrow
        simp only [rwS] at this
        rw [if_neg (by omega)] at this
        exact this
    · rw [wp_MO_row_30, wp_MO_fail]
      refine h3 _ _ _ _ _ _ _ _ _ _ _ _ _ _ _ _ _ _ _ _ _ _ hN hc (Or.inr ?_)
      rw [Int32.le_iff_toInt_le] at c
      rw [Int32.lt_iff_toInt_lt]
      omega
  · rw [wp_MO_row_30, wp_MO_fail]
    exact h3 _ _ _ _ _ _ _ _ _ _ _ _ _ _ _ _ _ _ _ _ _ _ hN hc (Or.inl hn)
theorem RK_cuts {na co : Nat → Nat} {k : Nat} {htooMany hstates hstuck houtcomes hfrom hstep hdepth hends hcuts hsoonest : Nat → Int32} {hendOutcome : Nat → Int64} (hPN : PN na co) (h : RK na co k htooMany hstates hstuck houtcomes hfrom hstep hdepth hends hendOutcome hcuts hsoonest) (hc : xc (xF na co k) = false) : ∀ c, c < 256 → hcuts (256 * k + c) = if csX (xF na co k) (iE na co k) c = 0 then 0 else 1 := by
  intro c hcc
  rw [h.2.2.2.1 c hcc, cI_cs, iE_n hPN (by rw [hc]; simp)]
theorem s_r_cuts {Post : Int32 → Int32 → (Nat → Int32) → (Nat → Int32) → (Nat → Int32) → (Nat → Int32) → (Nat → Int32) → (Nat → Int32) → (Nat → Int32) → (Nat → Int32) → (Nat → Int32) → (Nat → Int32) → (Nat → Int32) → (Nat → Int32) → (Nat → Int32) → (Nat → Int32) → (Nat → Int32) → (Nat → Int64) → (Nat → Int64) → (Nat → Int32) → (Nat → Int32) → (Nat → Int32) → (Nat → Int32) → (Nat → Int64) → (Nat → Int32) → (Nat → Int32) → (Nat → Int32) → (Nat → Int32) → Prop} {th : Int32} {hactions hwhat hwhere hnumber d r m sz p v hknown htooMany hstates hstuck houtcomes hfrom hstep hdepth hends hcuts hsoonest hchain hnext : Nat → Int32} {hfront hbehind hendOutcome : Nat → Int64} {na co : Nat → Nat} {k : Nat} (hP : PGr hactions hwhat hwhere hnumber na co) (hPN : PN na co) (hk : k < 4) (hkn : hknown k = 0 ∨ (hknown k = 1 ∧ RK na co k htooMany hstates hstuck houtcomes hfrom hstep hdepth hends hendOutcome hcuts hsoonest))
    (h1 : ∀ d r m sz p v hknown' htooMany' hstates' hstuck' houtcomes' hfront' hbehind' hfrom' hstep' hdepth' hends' hendOutcome' hcuts' hsoonest' hchain' hnext', RN na co k hknown htooMany hstates hstuck houtcomes hfrom hstep hdepth hends hendOutcome hcuts hsoonest hknown' htooMany' hstates' hstuck' houtcomes' hfrom' hstep' hdepth' hends' hendOutcome' hcuts' hsoonest' → xc (xF na co k) = false → Post (nI (tk (csX (xF na co k) (iE na co k)) 256)) 0 hactions hwhat hwhere hnumber d r m sz p v hknown' htooMany' hstates' hstuck' houtcomes' hfront' hbehind' hfrom' hstep' hdepth' hends' hendOutcome' hcuts' hsoonest' hchain' hnext') (h2 : ∀ d r m sz p v hknown' htooMany' hstates' hstuck' houtcomes' hfront' hbehind' hfrom' hstep' hdepth' hends' hendOutcome' hcuts' hsoonest' hchain' hnext', RN na co k hknown htooMany hstates hstuck houtcomes hfrom hstep hdepth hends hendOutcome hcuts hsoonest hknown' htooMany' hstates' hstuck' houtcomes' hfrom' hstep' hdepth' hends' hendOutcome' hcuts' hsoonest' → xc (xF na co k) = true → Post 0 2 hactions hwhat hwhere hnumber d r m sz p v hknown' htooMany' hstates' hstuck' houtcomes' hfront' hbehind' hfrom' hstep' hdepth' hends' hendOutcome' hcuts' hsoonest' hchain' hnext') :
    wp_MO_cuts Post th hactions hwhat hwhere hnumber d r m sz p v hknown htooMany hstates hstuck houtcomes hfront hbehind hfrom hstep hdepth hends hendOutcome hcuts hsoonest hchain hnext (nI k) := by
  rw [wp_MO_cuts]
  refine s_isThere hP hPN hk hkn (fun d r m sz p v hknown' htooMany' hstates' hstuck' houtcomes' hfront' hbehind' hfrom' hstep' hdepth' hends' hendOutcome' hcuts' hsoonest' hchain' hnext' hN hc => ⟨fun _ => ⟨257, ?_⟩, fun c => absurd c (by decide)⟩) (fun d r m sz p v hknown' htooMany' hstates' hstuck' houtcomes' hfront' hbehind' hfrom' hstep' hdepth' hends' hendOutcome' hcuts' hsoonest' hchain' hnext' hN hc => ⟨fun c => absurd rfl c, fun _ => h2 _ _ _ _ _ _ _ _ _ _ _ _ _ _ _ _ _ _ _ _ _ _ hN hc⟩)
  have hcu := RK_cuts hPN hN.1 hc
  have hp := h1 d r m sz p v hknown' htooMany' hstates' hstuck' houtcomes' hfront' hbehind' hfrom' hstep' hdepth' hends' hendOutcome' hcuts' hsoonest' hchain' hnext' hN hc
  generalize csX (xF na co k) (iE na co k) = g at hcu hp
  have key : ∀ u c, u + c = 256 → wp_MO_cuts_14 Post (u + 1) 0 hactions hwhat hwhere hnumber d r m sz p v hknown' htooMany' hstates' hstuck' houtcomes' hfront' hbehind' hfrom' hstep' hdepth' hends' hendOutcome' hcuts' hsoonest' hchain' hnext' (nI k) (nI (tk g c)) (nI c) := by
    intro u
    induction u with
    | zero =>
      intro c hcc
      rw [wp_MO_cuts_14]
      refine pk_le 256 c (fun _ => ?_) (fun x => by omega)
      rw [show c = 256 by omega]
      exact hp
    | succ u ih =>
      intro c hcc
      have ht : tk g (c + 1) = tk g c + (if g c = 0 then 0 else 1) := rfl
      have ih1 := ih (c + 1) (by omega)
      rw [wp_MO_cuts_14, show (256 : Int32) = nI 256 from rfl, pk_mul, nI_add, nI_clamp (by omega), hcu c (by omega)]
      refine pk_le 256 c (fun x => by omega) (fun _ => ⟨vp_in_nI (by omega) (by decide), fun c1 => ?_, fun c1 => ?_⟩)
      · have g0 : g c = 0 := by
          by_cases x : g c = 0
          · exact x
          · rw [if_neg x] at c1
            exact absurd c1 (by decide)
        rw [if_pos g0] at ht
        rw [wp_MO_cuts_42]
        intro x29 e29 x30 e30
        rw [show (0 : Int32) = nI 0 from rfl, nI_add, ← ht] at e29
        rw [nI_1] at e30
        rw [e29, e30]
        exact ih1
      · have g0 : ¬ g c = 0 := fun x => by
          rw [if_pos x] at c1
          exact c1 rfl
        rw [if_neg g0] at ht
        rw [wp_MO_cuts_42]
        intro x29 e29 x30 e30
        rw [nI_1, ← ht] at e29
        rw [nI_1] at e30
        rw [e29, e30]
        exact ih1
  exact key 256 0 (by omega)
theorem s_r_cut {Post : Int32 → Int32 → (Nat → Int32) → (Nat → Int32) → (Nat → Int32) → (Nat → Int32) → (Nat → Int32) → (Nat → Int32) → (Nat → Int32) → (Nat → Int32) → (Nat → Int32) → (Nat → Int32) → (Nat → Int32) → (Nat → Int32) → (Nat → Int32) → (Nat → Int32) → (Nat → Int32) → (Nat → Int64) → (Nat → Int64) → (Nat → Int32) → (Nat → Int32) → (Nat → Int32) → (Nat → Int32) → (Nat → Int64) → (Nat → Int32) → (Nat → Int32) → (Nat → Int32) → (Nat → Int32) → Prop} {th : Int32} {hactions hwhat hwhere hnumber d r m sz p v hknown htooMany hstates hstuck houtcomes hfrom hstep hdepth hends hcuts hsoonest hchain hnext : Nat → Int32} {hfront hbehind hendOutcome : Nat → Int64} {na co : Nat → Nat} {k : Nat} {k0 : Int32} (hP : PGr hactions hwhat hwhere hnumber na co) (hPN : PN na co) (hk : k < 4) (hkn : hknown k = 0 ∨ (hknown k = 1 ∧ RK na co k htooMany hstates hstuck houtcomes hfrom hstep hdepth hends hendOutcome hcuts hsoonest))
    (h1 : ∀ d r m sz p v hknown' htooMany' hstates' hstuck' houtcomes' hfront' hbehind' hfrom' hstep' hdepth' hends' hendOutcome' hcuts' hsoonest' hchain' hnext', RN na co k hknown htooMany hstates hstuck houtcomes hfrom hstep hdepth hends hendOutcome hcuts hsoonest hknown' htooMany' hstates' hstuck' houtcomes' hfrom' hstep' hdepth' hends' hendOutcome' hcuts' hsoonest' → xc (xF na co k) = false → ∀ c, c < 256 → csX (xF na co k) (iE na co k) c ≠ 0 → k0 = nI (tk (csX (xF na co k) (iE na co k)) c) → Post (nI c) 0 hactions hwhat hwhere hnumber d r m sz p v hknown' htooMany' hstates' hstuck' houtcomes' hfront' hbehind' hfrom' hstep' hdepth' hends' hendOutcome' hcuts' hsoonest' hchain' hnext')
    (h3 : ∀ d r m sz p v hknown' htooMany' hstates' hstuck' houtcomes' hfront' hbehind' hfrom' hstep' hdepth' hends' hendOutcome' hcuts' hsoonest' hchain' hnext', RN na co k hknown htooMany hstates hstuck houtcomes hfrom hstep hdepth hends hendOutcome hcuts hsoonest hknown' htooMany' hstates' hstuck' houtcomes' hfrom' hstep' hdepth' hends' hendOutcome' hcuts' hsoonest' → xc (xF na co k) = false → (∀ c, c < 256 → csX (xF na co k) (iE na co k) c ≠ 0 → k0 ≠ nI (tk (csX (xF na co k) (iE na co k)) c)) → Post 0 3 hactions hwhat hwhere hnumber d r m sz p v hknown' htooMany' hstates' hstuck' houtcomes' hfront' hbehind' hfrom' hstep' hdepth' hends' hendOutcome' hcuts' hsoonest' hchain' hnext') (h2 : ∀ d r m sz p v hknown' htooMany' hstates' hstuck' houtcomes' hfront' hbehind' hfrom' hstep' hdepth' hends' hendOutcome' hcuts' hsoonest' hchain' hnext', RN na co k hknown htooMany hstates hstuck houtcomes hfrom hstep hdepth hends hendOutcome hcuts hsoonest hknown' htooMany' hstates' hstuck' houtcomes' hfrom' hstep' hdepth' hends' hendOutcome' hcuts' hsoonest' → xc (xF na co k) = true → Post 0 2 hactions hwhat hwhere hnumber d r m sz p v hknown' htooMany' hstates' hstuck' houtcomes' hfront' hbehind' hfrom' hstep' hdepth' hends' hendOutcome' hcuts' hsoonest' hchain' hnext') :
    wp_MO_cut Post th hactions hwhat hwhere hnumber d r m sz p v hknown htooMany hstates hstuck houtcomes hfront hbehind hfrom hstep hdepth hends hendOutcome hcuts hsoonest hchain hnext (nI k) k0 := by
  rw [wp_MO_cut]
  refine s_isThere hP hPN hk hkn (fun d r m sz p v hknown' htooMany' hstates' hstuck' houtcomes' hfront' hbehind' hfrom' hstep' hdepth' hends' hendOutcome' hcuts' hsoonest' hchain' hnext' hN hc => ⟨fun _ => ⟨257, ?_⟩, fun c => absurd c (by decide)⟩) (fun d r m sz p v hknown' htooMany' hstates' hstuck' houtcomes' hfront' hbehind' hfrom' hstep' hdepth' hends' hendOutcome' hcuts' hsoonest' hchain' hnext' hN hc => ⟨fun c => absurd rfl c, fun _ => h2 _ _ _ _ _ _ _ _ _ _ _ _ _ _ _ _ _ _ _ _ _ _ hN hc⟩)
  have hcu := RK_cuts hPN hN.1 hc
  have hp := h1 d r m sz p v hknown' htooMany' hstates' hstuck' houtcomes' hfront' hbehind' hfrom' hstep' hdepth' hends' hendOutcome' hcuts' hsoonest' hchain' hnext' hN hc
  have hq := h3 d r m sz p v hknown' htooMany' hstates' hstuck' houtcomes' hfront' hbehind' hfrom' hstep' hdepth' hends' hendOutcome' hcuts' hsoonest' hchain' hnext' hN hc
  generalize csX (xF na co k) (iE na co k) = g at hcu hp hq
  have key : ∀ u c, u + c = 256 → (∀ b, b < c → g b ≠ 0 → k0 ≠ nI (tk g b)) → wp_MO_cut_15 Post (u + 1) 0 hactions hwhat hwhere hnumber d r m sz p v hknown' htooMany' hstates' hstuck' houtcomes' hfront' hbehind' hfrom' hstep' hdepth' hends' hendOutcome' hcuts' hsoonest' hchain' hnext' (nI k) k0 (nI (tk g c)) (nI c) := by
    intro u
    induction u with
    | zero =>
      intro c hcc hno
      rw [wp_MO_cut_15]
      refine pk_le 256 c (fun _ => ?_) (fun x => by omega)
      rw [wp_MO_fail]
      exact hq (fun b hb => hno b (by omega))
    | succ u ih =>
      intro c hcc hno
      have ht : tk g (c + 1) = tk g c + (if g c = 0 then 0 else 1) := rfl
      have ih1 := ih (c + 1) (by omega)
      rw [wp_MO_cut_15, show (256 : Int32) = nI 256 from rfl, pk_mul, nI_add, nI_clamp (by omega), hcu c (by omega)]
      refine pk_le 256 c (fun x => by omega) (fun _ => ⟨vp_in_nI (by omega) (by decide), fun c1 => ?_, fun c1 => ⟨fun c2 x31 e31 => ?_, fun c2 => ?_⟩⟩)
      · have g0 : g c = 0 := by
          by_cases x : g c = 0
          · exact x
          · rw [if_neg x] at c1
            exact absurd c1 (by decide)
        have ht2 : tk g c = tk g (c + 1) := by rw [ht, if_pos g0]; rfl
        rw [wp_MO_cut_50]
        intro x32 e32
        rw [nI_1] at e32
        rw [e32, ht2]
        refine ih1 (fun b hb => ?_)
        by_cases e : b = c
        · rw [e]
          exact fun x => absurd g0 x
        · exact hno b (by omega)
      · have g0 : ¬ g c = 0 := fun x => by
          rw [if_pos x] at c1
          exact c1 rfl
        rw [if_neg g0] at ht
        rw [nI_1, ← ht] at e31
        rw [wp_MO_cut_50]
        intro x32 e32
        rw [nI_1] at e32
        rw [e32, e31]
        refine ih1 (fun b hb => ?_)
        by_cases e : b = c
        · rw [e]
          exact fun _ x => c2 x.symm
        · exact hno b (by omega)
      · have g0 : ¬ g c = 0 := fun x => by
          rw [if_pos x] at c1
          exact c1 rfl
        exact hp c (by omega) g0 c2.symm
  exact key 256 0 (by omega) (fun b hb => by omega)
theorem s_has {Post : Int32 → Int32 → (Nat → Int32) → (Nat → Int64) → Prop} {th : Int32} {houtcomes : Nat → Int32} {hendOutcome : Nat → Int64} {k n : Nat} {W : Nat → Nat} {x : Int64} (hk : k < 4) (hn : n ≤ 12000) (hO : houtcomes k = nI n) (hE : ∀ j, j < n → hendOutcome (12001 * k + j) = lN (W j))
    (h1 : (∃ j, j < n ∧ lN (W j) = x) → Post 1 th houtcomes hendOutcome) (h0 : ¬ (∃ j, j < n ∧ lN (W j) = x) → Post 0 th houtcomes hendOutcome) : wp_MO_has Post th houtcomes hendOutcome (nI k) x := by
  have key : ∀ u j L4, u + j = n → (L4 = 1 ∧ (∃ i, i < n ∧ lN (W i) = x) ∨ L4 = 0 ∧ ∀ i, i < j → lN (W i) ≠ x) → wp_MO_has_6 Post (u + 1) th houtcomes hendOutcome (nI k) x L4 (nI j) := by
    intro u
    induction u with
    | zero =>
      intro j L4 hj hL
      rw [wp_MO_has_6, nI_clamp (by omega), hO]
      refine ⟨vp_in_nI hk (by decide), pk_le n j (fun _ => ?_) (fun c => by omega)⟩
      rcases hL with ⟨rfl, a⟩ | ⟨rfl, a⟩
      · exact ⟨Or.inr rfl, h1 a⟩
      · exact ⟨Or.inl rfl, h0 (fun ⟨i, hi, e⟩ => a i (by omega) e)⟩
    | succ u ih =>
      intro j L4 hj hL
      rw [wp_MO_has_6, nI_clamp (by omega), hO, show (12001 : Int32) = nI 12001 from rfl, pk_mul, nI_add, nI_clamp (by omega), hE j (by omega), lg_cmp_eq]
      refine ⟨vp_in_nI hk (by decide), pk_le n j (fun c => by omega) (fun _ => ⟨fun c => ?_, fun c => ⟨vp_in_nI (by omega) (by decide), fun c2 => ?_, fun c2 => ?_⟩⟩)⟩
      · rw [wp_MO_has_40, wp_MO_has_45]
        intro x1 e1
        rw [nI_1] at e1
        rw [e1]
        rcases hL with a | a
        · exact ih (j + 1) 1 (by omega) (Or.inl ⟨rfl, a.2⟩)
        · exact absurd a.1 c
      · rw [wp_MO_has_45]
        intro x1 e1
        rw [nI_1] at e1
        rw [e1]
        rcases hL with a | a
        · rw [a.1] at c
          exact absurd c (by decide)
        · refine ih (j + 1) 0 (by omega) (Or.inr ⟨rfl, fun i hi => ?_⟩)
          by_cases e : i = j
          · rw [e]
            exact c2
          · exact a.2 i (by omega)
      · rw [wp_MO_has_40, wp_MO_has_45]
        intro x1 e1
        rw [nI_1] at e1
        rw [e1]
        exact ih (j + 1) 1 (by omega) (Or.inl ⟨rfl, j, by omega, c2⟩)
  exact ⟨n + 1, key n 0 0 (by omega) (Or.inr ⟨rfl, fun i hi => by omega⟩)⟩
theorem s_r_allows {Post : Int32 → Int32 → (Nat → Int32) → (Nat → Int32) → (Nat → Int32) → (Nat → Int32) → (Nat → Int32) → (Nat → Int32) → (Nat → Int32) → (Nat → Int32) → (Nat → Int32) → (Nat → Int32) → (Nat → Int32) → (Nat → Int32) → (Nat → Int32) → (Nat → Int32) → (Nat → Int32) → (Nat → Int64) → (Nat → Int64) → (Nat → Int32) → (Nat → Int32) → (Nat → Int32) → (Nat → Int32) → (Nat → Int64) → (Nat → Int32) → (Nat → Int32) → (Nat → Int32) → (Nat → Int32) → Prop} {th : Int32} {hactions hwhat hwhere hnumber d r m sz p v hknown htooMany hstates hstuck houtcomes hfrom hstep hdepth hends hcuts hsoonest hchain hnext : Nat → Int32} {hfront hbehind hendOutcome : Nat → Int64} {na co : Nat → Nat} {k : Nat} {x : Int64} (hP : PGr hactions hwhat hwhere hnumber na co) (hPN : PN na co) (hk : k < 4) (hkn : hknown k = 0 ∨ (hknown k = 1 ∧ RK na co k htooMany hstates hstuck houtcomes hfrom hstep hdepth hends hendOutcome hcuts hsoonest))
    (h1 : ∀ d r m sz p v hknown' htooMany' hstates' hstuck' houtcomes' hfront' hbehind' hfrom' hstep' hdepth' hends' hendOutcome' hcuts' hsoonest' hchain' hnext', RN na co k hknown htooMany hstates hstuck houtcomes hfrom hstep hdepth hends hendOutcome hcuts hsoonest hknown' htooMany' hstates' hstuck' houtcomes' hfrom' hstep' hdepth' hends' hendOutcome' hcuts' hsoonest' → xc (xF na co k) = false → (∃ j, j < eN na co k ∧ lN (WO na co k j) = x) → Post 1 0 hactions hwhat hwhere hnumber d r m sz p v hknown' htooMany' hstates' hstuck' houtcomes' hfront' hbehind' hfrom' hstep' hdepth' hends' hendOutcome' hcuts' hsoonest' hchain' hnext') (h0 : ∀ d r m sz p v hknown' htooMany' hstates' hstuck' houtcomes' hfront' hbehind' hfrom' hstep' hdepth' hends' hendOutcome' hcuts' hsoonest' hchain' hnext', RN na co k hknown htooMany hstates hstuck houtcomes hfrom hstep hdepth hends hendOutcome hcuts hsoonest hknown' htooMany' hstates' hstuck' houtcomes' hfrom' hstep' hdepth' hends' hendOutcome' hcuts' hsoonest' → xc (xF na co k) = false → ¬ (∃ j, j < eN na co k ∧ lN (WO na co k j) = x) → Post 0 0 hactions hwhat hwhere hnumber d r m sz p v hknown' htooMany' hstates' hstuck' houtcomes' hfront' hbehind' hfrom' hstep' hdepth' hends' hendOutcome' hcuts' hsoonest' hchain' hnext') (h2 : ∀ d r m sz p v hknown' htooMany' hstates' hstuck' houtcomes' hfront' hbehind' hfrom' hstep' hdepth' hends' hendOutcome' hcuts' hsoonest' hchain' hnext', RN na co k hknown htooMany hstates hstuck houtcomes hfrom hstep hdepth hends hendOutcome hcuts hsoonest hknown' htooMany' hstates' hstuck' houtcomes' hfrom' hstep' hdepth' hends' hendOutcome' hcuts' hsoonest' → xc (xF na co k) = true → Post 0 2 hactions hwhat hwhere hnumber d r m sz p v hknown' htooMany' hstates' hstuck' houtcomes' hfront' hbehind' hfrom' hstep' hdepth' hends' hendOutcome' hcuts' hsoonest' hchain' hnext') :
    wp_MO_allows Post th hactions hwhat hwhere hnumber d r m sz p v hknown htooMany hstates hstuck houtcomes hfront hbehind hfrom hstep hdepth hends hendOutcome hcuts hsoonest hchain hnext (nI k) x := by
  have h12 := eN_le na co k
  rw [wp_MO_allows]
  refine s_isThere hP hPN hk hkn (fun d r m sz p v hknown' htooMany' hstates' hstuck' houtcomes' hfront' hbehind' hfrom' hstep' hdepth' hends' hendOutcome' hcuts' hsoonest' hchain' hnext' hN hc => ⟨fun c => absurd c (by decide), fun _ => ?_⟩) (fun d r m sz p v hknown' htooMany' hstates' hstuck' houtcomes' hfront' hbehind' hfrom' hstep' hdepth' hends' hendOutcome' hcuts' hsoonest' hchain' hnext' hN hc => ⟨fun _ => h2 _ _ _ _ _ _ _ _ _ _ _ _ _ _ _ _ _ _ _ _ _ _ hN hc, fun c => absurd rfl c⟩)
  have hE := RK_E hN.1
  refine s_has hk h12 hE.1 (fun j hj => (hE.2 j hj).1) (fun a => ⟨fun c => absurd c (by decide), fun _ => h1 _ _ _ _ _ _ _ _ _ _ _ _ _ _ _ _ _ _ _ _ _ _ hN hc a⟩) (fun a => ⟨fun _ => h0 _ _ _ _ _ _ _ _ _ _ _ _ _ _ _ _ _ _ _ _ _ _ hN hc a, fun c => absurd rfl c⟩)
def fI (o : Option Nat) : Int64 := match o with | none => -1 | some x => lN x
theorem s_firstAlone {Post : Int64 → Int32 → (Nat → Int32) → (Nat → Int64) → Prop} {th : Int32} {houtcomes : Nat → Int32} {hendOutcome : Nat → Int64} {ka kb n m : Nat} {Wa Wb : Nat → Nat} (hka : ka < 4) (hkb : kb < 4) (hn : n ≤ 12000) (hm : m ≤ 12000) (hOa : houtcomes ka = nI n) (hEa : ∀ j, j < n → hendOutcome (12001 * ka + j) = lN (Wa j)) (hOb : houtcomes kb = nI m) (hEb : ∀ j, j < m → hendOutcome (12001 * kb + j) = lN (Wb j))
    (hla : ∀ j, j < n → Wa j < 2 ^ 62) (hlb : ∀ j, j < m → Wb j < 2 ^ 62) (h : ∀ o, FA Wa n Wb m o → Post (fI o) th houtcomes hendOutcome) : wp_MO_firstAlone Post th houtcomes hendOutcome (nI ka) (nI kb) := by
  have key : ∀ u j, u + j = n → (∀ i, i < j → ∃ b, b < m ∧ Wb b = Wa i) → wp_MO_firstAlone_2 Post (u + 1) th houtcomes hendOutcome (nI ka) (nI kb) (nI j) := by
    intro u
    induction u with
    | zero =>
      intro j hj hp
      rw [wp_MO_firstAlone_2, nI_clamp (by omega), hOa]
      refine ⟨vp_in_nI hka (by decide), pk_le n j (fun _ => ?_) (fun c => by omega)⟩
      exact h none (Or.inl ⟨rfl, fun i hi => hp i (by omega)⟩)
    | succ u ih =>
      intro j hj hp
      have hlj := hla j (by omega)
      rw [wp_MO_firstAlone_2, nI_clamp (by omega), hOa, show (12001 : Int32) = nI 12001 from rfl, pk_mul, nI_add, nI_clamp (by omega), hEa j (by omega)]
      refine ⟨vp_in_nI hka (by decide), pk_le n j (fun c => by omega) (fun _ => ⟨vp_in_nI (by omega) (by decide), ?_⟩)⟩
      refine s_has hkb hm hOb hEb (fun a => ⟨fun _ x5 e5 => ?_, fun c => absurd c (by decide)⟩) (fun a => ⟨fun c => absurd rfl c, fun _ => ⟨vp_in_nI (by omega) (by decide), ?_⟩⟩)
      · rw [nI_1] at e5
        rw [e5]
        refine ih (j + 1) (by omega) (fun i hi => ?_)
        by_cases e : i = j
        · obtain ⟨b, hb, e2⟩ := a
          have := hlb b hb
          rw [pk_lEQ (by omega) (by omega)] at e2
          rw [e]
          exact ⟨b, hb, e2⟩
        · exact hp i (by omega)
      · rw [hEa j (by omega)]
        exact h (some (Wa j)) (Or.inr ⟨j, by omega, rfl, fun i hi e => a ⟨i, hi, by rw [e]⟩, hp⟩)
  exact ⟨n + 1, key n 0 (by omega) (fun i hi => by omega)⟩
theorem FA_lt {Wa Wb : Nat → Nat} {n m y : Nat} (hla : ∀ j, j < n → Wa j < 2 ^ 62) (h : FA Wa n Wb m (some y)) : y < 2 ^ 62 := by
  rcases h with ⟨a, _⟩ | ⟨j, a, b, _⟩
  · cases a
  · cases b
    exact hla j a
theorem s_r_differs {Post : Int64 → Int32 → (Nat → Int32) → (Nat → Int32) → (Nat → Int32) → (Nat → Int32) → (Nat → Int32) → (Nat → Int32) → (Nat → Int32) → (Nat → Int32) → (Nat → Int32) → (Nat → Int32) → (Nat → Int32) → (Nat → Int32) → (Nat → Int32) → (Nat → Int32) → (Nat → Int32) → (Nat → Int64) → (Nat → Int64) → (Nat → Int32) → (Nat → Int32) → (Nat → Int32) → (Nat → Int32) → (Nat → Int64) → (Nat → Int32) → (Nat → Int32) → (Nat → Int32) → (Nat → Int32) → Prop} {th : Int32} {hactions hwhat hwhere hnumber d r m sz p v hknown htooMany hstates hstuck houtcomes hfrom hstep hdepth hends hcuts hsoonest hchain hnext : Nat → Int32} {hfront hbehind hendOutcome : Nat → Int64} {na co : Nat → Nat} {ka kb : Nat} (hP : PGr hactions hwhat hwhere hnumber na co) (hPN : PN na co) (hka : ka < 4) (hkb : kb < 4) (hJ : RJ na co hknown htooMany hstates hstuck houtcomes hfrom hstep hdepth hends hendOutcome hcuts hsoonest)
    (h1 : ∀ d r m sz p v hknown' htooMany' hstates' hstuck' houtcomes' hfront' hbehind' hfrom' hstep' hdepth' hends' hendOutcome' hcuts' hsoonest' hchain' hnext', RJ na co hknown' htooMany' hstates' hstuck' houtcomes' hfrom' hstep' hdepth' hends' hendOutcome' hcuts' hsoonest' → hknown' ka = 1 → hknown' kb = 1 → (∀ x, x ≠ ka → x ≠ kb → hknown' x = hknown x) → xc (xF na co ka) = false → xc (xF na co kb) = false → ∀ o1 o2, FA (WO na co ka) (eN na co ka) (WO na co kb) (eN na co kb) o1 → FA (WO na co kb) (eN na co kb) (WO na co ka) (eN na co ka) o2 → Post (cm o1 o2) 0 hactions hwhat hwhere hnumber d r m sz p v hknown' htooMany' hstates' hstuck' houtcomes' hfront' hbehind' hfrom' hstep' hdepth' hends' hendOutcome' hcuts' hsoonest' hchain' hnext')
    (h2 : ∀ d r m sz p v hknown' htooMany' hstates' hstuck' houtcomes' hfront' hbehind' hfrom' hstep' hdepth' hends' hendOutcome' hcuts' hsoonest' hchain' hnext', RJ na co hknown' htooMany' hstates' hstuck' houtcomes' hfrom' hstep' hdepth' hends' hendOutcome' hcuts' hsoonest' → hknown' ka = 1 → (∀ x, x ≠ ka → hknown' x = hknown x) → xc (xF na co ka) = true → Post 0 2 hactions hwhat hwhere hnumber d r m sz p v hknown' htooMany' hstates' hstuck' houtcomes' hfront' hbehind' hfrom' hstep' hdepth' hends' hendOutcome' hcuts' hsoonest' hchain' hnext')
    (h4 : ∀ d r m sz p v hknown' htooMany' hstates' hstuck' houtcomes' hfront' hbehind' hfrom' hstep' hdepth' hends' hendOutcome' hcuts' hsoonest' hchain' hnext', RJ na co hknown' htooMany' hstates' hstuck' houtcomes' hfrom' hstep' hdepth' hends' hendOutcome' hcuts' hsoonest' → hknown' ka = 1 → hknown' kb = 1 → (∀ x, x ≠ ka → x ≠ kb → hknown' x = hknown x) → xc (xF na co ka) = false → xc (xF na co kb) = true → Post 0 2 hactions hwhat hwhere hnumber d r m sz p v hknown' htooMany' hstates' hstuck' houtcomes' hfront' hbehind' hfrom' hstep' hdepth' hends' hendOutcome' hcuts' hsoonest' hchain' hnext') :
    wp_MO_differs Post th hactions hwhat hwhere hnumber d r m sz p v hknown htooMany hstates hstuck houtcomes hfront hbehind hfrom hstep hdepth hends hendOutcome hcuts hsoonest hchain hnext (nI ka) (nI kb) := by
  rw [wp_MO_differs]
  refine within_of (n := 4) (by decide) w3 (fun j hj e => ⟨fun c => absurd c (by decide), fun _ => ?_⟩) (fun hn => absurd rfl (hn ka hka))
  refine within_of (n := 4) (by decide) w3 (fun j hj e => ⟨fun _ => ?_, fun c => absurd c (by decide)⟩) (fun hn => absurd rfl (hn kb hkb))
  refine s_isThere hP hPN hka (hJ ka hka) (fun d r m sz p v hknown' htooMany' hstates' hstuck' houtcomes' hfront' hbehind' hfrom' hstep' hdepth' hends' hendOutcome' hcuts' hsoonest' hchain' hnext' hN hc => ⟨fun c => absurd c (by decide), fun _ => ?_⟩) (fun d r m sz p v hknown' htooMany' hstates' hstuck' houtcomes' hfront' hbehind' hfrom' hstep' hdepth' hends' hendOutcome' hcuts' hsoonest' hchain' hnext' hN hc => ⟨fun _ => h2 _ _ _ _ _ _ _ _ _ _ _ _ _ _ _ _ _ _ _ _ _ _ (RJ_RN hPN hJ hN) hN.2.2.1 hN.2.2.2 hc, fun c => absurd rfl c⟩)
  have hJ1 := RJ_RN hPN hJ hN
  have kn1 := hN.2.2
  have kno : ∀ (a b c : Nat → Int32), KN ka a b → KN kb b c → c ka = 1 ∧ c kb = 1 ∧ ∀ x, x ≠ ka → x ≠ kb → c x = a x := by
    intro a b c q1 q2
    refine ⟨?_, q2.1, fun x x1 x2 => by rw [q2.2 x x2, q1.2 x x1]⟩
    by_cases e : ka = kb
    · rw [e]
      exact q2.1
    · rw [q2.2 ka e]
      exact q1.1
  clear hN
  refine s_isThere hP hPN hkb (hJ1 kb hkb) (fun d r m sz p v hknown2 htooMany2 hstates2 hstuck2 houtcomes2 hfront2 hbehind2 hfrom2 hstep2 hdepth2 hends2 hendOutcome2 hcuts2 hsoonest2 hchain2 hnext2 hN hcb => ⟨fun _ => ?_, fun c => absurd c (by decide)⟩) (fun d r m sz p v hknown2 htooMany2 hstates2 hstuck2 houtcomes2 hfront2 hbehind2 hfrom2 hstep2 hdepth2 hends2 hendOutcome2 hcuts2 hsoonest2 hchain2 hnext2 hN hcb => ⟨fun c => absurd rfl c, fun _ => ?_⟩)
  · have hJ2 := RJ_RN hPN hJ1 hN
    obtain ⟨k1, k2, k3⟩ := kno _ _ _ kn1 hN.2.2
    have ra : RK na co ka htooMany2 hstates2 hstuck2 houtcomes2 hfrom2 hstep2 hdepth2 hends2 hendOutcome2 hcuts2 hsoonest2 := by
      rcases hJ2 ka hka with a | a
      · rw [k1] at a
        exact absurd a (by decide)
      · exact a.2
    have rb : RK na co kb htooMany2 hstates2 hstuck2 houtcomes2 hfrom2 hstep2 hdepth2 hends2 hendOutcome2 hcuts2 hsoonest2 := hN.1
    have ea := RK_E ra
    have eb := RK_E rb
    have la := eN_le na co ka
    have lb := eN_le na co kb
    have ua : ∀ j, j < eN na co ka → WO na co ka j < 2 ^ 62 := fun j hj => WO_lt hj
    have ub : ∀ j, j < eN na co kb → WO na co kb j < 2 ^ 62 := fun j hj => WO_lt hj
    refine s_firstAlone hka hkb la lb ea.1 (fun j hj => (ea.2 j hj).1) eb.1 (fun j hj => (eb.2 j hj).1) ua ub (fun o1 f1 => ?_)
    refine s_firstAlone hkb hka lb la eb.1 (fun j hj => (eb.2 j hj).1) ea.1 (fun j hj => (ea.2 j hj).1) ub ua (fun o2 f2 => ?_)
    have hp := h1 d r m sz p v hknown2 htooMany2 hstates2 hstuck2 houtcomes2 hfront2 hbehind2 hfrom2 hstep2 hdepth2 hends2 hendOutcome2 hcuts2 hsoonest2 hchain2 hnext2 hJ2 k1 k2 k3 hc hcb o1 o2 f1 f2
    rcases o1 with _ | x
    · refine ⟨fun c => absurd c (by decide), fun _ => ?_⟩
      rcases o2 with _ | y
      · exact hp
      · exact hp
    · have hx := FA_lt ua f1
      refine ⟨fun _ => ?_, fun c => absurd (by rw [lg_cmp_ge, show (0 : Int64) = lN 0 from rfl]; exact (pk_lLE (by decide) (by omega)).mpr (Nat.zero_le _)) c⟩
      rcases o2 with _ | y
      · exact ⟨fun _ => hp, fun c => absurd (by decide) c⟩
      · have hy := FA_lt ub f2
        refine ⟨fun c => ?_, fun _ => ?_⟩
        · rw [lg_cmp_lt, show fI (some y) = lN y from rfl, show (0 : Int64) = lN 0 from rfl, pk_lLT (by omega) (by decide)] at c
          omega
        · have hp2 : Post (lN (min x y)) 0 hactions hwhat hwhere hnumber d r m sz p v hknown2 htooMany2 hstates2 hstuck2 houtcomes2 hfront2 hbehind2 hfrom2 hstep2 hdepth2 hends2 hendOutcome2 hcuts2 hsoonest2 hchain2 hnext2 := hp
          rw [show fI (some x) = lN x from rfl, show fI (some y) = lN y from rfl, lg_cmp_ge, pk_lLE (by omega) (by omega)]
          refine ⟨fun c => ?_, fun c => ?_⟩
          · rw [Nat.min_eq_right c] at hp2
            exact hp2
          · rw [Nat.min_eq_left (by omega)] at hp2
            exact hp2
  · have hJ2 := RJ_RN hPN hJ1 hN
    obtain ⟨k1, k2, k3⟩ := kno _ _ _ kn1 hN.2.2
    exact h4 _ _ _ _ _ _ _ _ _ _ _ _ _ _ _ _ _ _ _ _ _ _ hJ2 k1 k2 k3 hc hcb
theorem s_r_differsX {Post : Int64 → Int32 → (Nat → Int32) → (Nat → Int32) → (Nat → Int32) → (Nat → Int32) → (Nat → Int32) → (Nat → Int32) → (Nat → Int32) → (Nat → Int32) → (Nat → Int32) → (Nat → Int32) → (Nat → Int32) → (Nat → Int32) → (Nat → Int32) → (Nat → Int32) → (Nat → Int32) → (Nat → Int64) → (Nat → Int64) → (Nat → Int32) → (Nat → Int32) → (Nat → Int32) → (Nat → Int32) → (Nat → Int64) → (Nat → Int32) → (Nat → Int32) → (Nat → Int32) → (Nat → Int32) → Prop} {th : Int32} {hactions hwhat hwhere hnumber d r m sz p v hknown htooMany hstates hstuck houtcomes hfrom hstep hdepth hends hcuts hsoonest hchain hnext : Nat → Int32} {hfront hbehind hendOutcome : Nat → Int64} {na co : Nat → Nat} {ka kb : Int32} (hbad : (∀ j, j < 4 → ka ≠ nI j) ∨ (∀ j, j < 4 → kb ≠ nI j)) (h : Post 0 1 hactions hwhat hwhere hnumber d r m sz p v hknown htooMany hstates hstuck houtcomes hfront hbehind hfrom hstep hdepth hends hendOutcome hcuts hsoonest hchain hnext) : wp_MO_differs Post th hactions hwhat hwhere hnumber d r m sz p v hknown htooMany hstates hstuck houtcomes hfront hbehind hfrom hstep hdepth hends hendOutcome hcuts hsoonest hchain hnext ka kb := by
  rw [wp_MO_differs]
  refine within_of (n := 4) (by decide) w3 (fun j hj e => ⟨fun c => absurd c (by decide), fun _ => ?_⟩) (fun hn => ⟨fun _ => h, fun c => absurd rfl c⟩)
  refine within_of (n := 4) (by decide) w3 (fun j2 hj2 e2 => ⟨fun _ => ?_, fun c => absurd c (by decide)⟩) (fun hn => ⟨fun c => absurd rfl c, fun _ => h⟩)
  rcases hbad with b | b
  · exact absurd e (b j hj)
  · exact absurd e2 (b j2 hj2)
