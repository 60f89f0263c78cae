/-! the reference's explore: what it leaves -/
def RK (na co : Nat → Nat) (k : Nat) (htooMany hstates hstuck houtcomes hfrom hstep hdepth hends : Nat → Int32) (hendOutcome : Nat → Int64) (hcuts hsoonest : Nat → Int32) : Prop :=
  htooMany k = bI (xc (xF na co k)) ∧ hstates k = nI (xn (xF na co k)) ∧
  (∀ j, j < xn (xF na co k) → hdepth (12001 * k + j) = nI (xtr (xF na co k) j).2.2 ∧ (1 ≤ j → hfrom (12001 * k + j) = nI (xtr (xF na co k) j).1 ∧ hstep (12001 * k + j) = nI (xtr (xF na co k) j).2.1)) ∧
  (∀ c, c < 256 → hcuts (256 * k + c) = cI (xq (xF na co k)) c (xn (xF na co k))) ∧ (∀ p, p < 4 → ∀ v, v < 4 → hsoonest (16 * k + 4 * p + v) = oI (soN (xq (xF na co k)) (xtr (xF na co k)) p v (xn (xF na co k)))) ∧
  hstuck k = nI (skX na co k (xF na co k) (iE na co k)) ∧
  ∃ w, RE k (eL na (xF na co k) (iE na co k)).length w houtcomes hends hendOutcome ∧ ST (eL na (xF na co k) (iE na co k)).length w ∧ SO (eL na (xF na co k) (iE na co k)).length w (fun j => (eL na (xF na co k) (iE na co k)).getD j 0) ∧ ∀ j, j < (eL na (xF na co k) (iE na co k)).length → w j % 2 ^ 14 < iE na co k ∧ w j < 2 ^ 54
theorem RG_RK {na co : Nat → Nat} {k : Nat} {htooMany hstates hstuck houtcomes hfrom hstep hdepth hends hcuts hsoonest hchain hnext : Nat → Int32} {hfront hbehind hendOutcome : Nat → Int64}
    (hG : RG na co k (iE na co k) 0 htooMany hstates hstuck houtcomes hfront hbehind hfrom hstep hdepth hends hendOutcome hcuts hsoonest hchain hnext) : RK na co k htooMany hstates hstuck houtcomes hfrom hstep hdepth hends hendOutcome hcuts hsoonest := by
  obtain ⟨hx, ht, hsk, w, h1, h2, h3, h4⟩ := hG
  rw [Nat.add_zero, iE_x] at hx ht
  exact ⟨ht, hx.1, hx.2.2.1, hx.2.2.2.1, hx.2.2.2.2.1, hsk, w, h1, h2, h3, h4⟩
theorem RK_frame {na co : Nat → Nat} {k k' : Nat} {o1 o2 o3 o4 o5 o6 o7 o8 o10 o11 htooMany hstates hstuck houtcomes hfrom hstep hdepth hends hcuts hsoonest : Nat → Int32} {o9 hendOutcome : Nat → Int64} (hPN : PN na co) (hk : k' ≠ k)
    (hO : FG k o1 o2 o3 o4 o5 o6 o7 o8 o9 o10 o11 htooMany hstates hstuck houtcomes hfrom hstep hdepth hends hendOutcome hcuts hsoonest) (h : RK na co k' o1 o2 o3 o4 o5 o6 o7 o8 o9 o10 o11) : RK na co k' htooMany hstates hstuck houtcomes hfrom hstep hdepth hends hendOutcome hcuts hsoonest := by
  obtain ⟨⟨a1, a2, a3, a4⟩, ⟨a5, a6⟩, a7⟩ := hO
  obtain ⟨b1, b2, b3, b4, b5, b6, w, b7, b8, b9, b10⟩ := h
  have hn := (XI_F (k := k') hPN).2.1
  have hl := eL_le na (xF na co k') (iE na co k')
  have hl2 := iE_le na co k'
  refine ⟨by rw [(a7 k' hk).1]; exact b1, by rw [a1 k' hk]; exact b2, fun j hj => ?_, fun c hc => ?_, fun p hp v hv => ?_, by rw [(a7 k' hk).2]; exact b6, w, ⟨by rw [a5 k' hk]; exact b7.1, fun j hj => ?_⟩, b8, b9, b10⟩
  · obtain ⟨c1, c2, c3⟩ := a2 (12001 * k' + j) (by omega)
    rw [c1, c2, c3]
    exact b3 j hj
  · rw [a3 _ (by omega)]
    exact b4 c hc
  · rw [a4 _ (by omega)]
    exact b5 p hp v hv
  · obtain ⟨c1, c2⟩ := a6 (12001 * k' + j) (by omega)
    rw [c1, c2]
    exact b7.2 j hj
theorem V5_0 : V5 0 := ⟨by decide, fun c => absurd rfl c, fun c => absurd rfl c, fun c => absurd rfl c⟩
theorem VX_0 : VX 0 0 := ⟨by decide, by decide, fun b hb => by
  rw [show FD 0 (15 * b) 15 = 0 by simp [FD]]
  exact V5_0⟩
theorem s_rexpl133 {Post : Int32 → (Nat → Int32) → (Nat → Int32) → (Nat → Int32) → (Nat → Int32) → (Nat → Int32) → (Nat → Int32) → (Nat → Int32) → (Nat → Int32) → (Nat → Int32) → (Nat → Int32) → (Nat → Int32) → (Nat → Int32) → (Nat → Int32) → (Nat → Int32) → (Nat → Int32) → (Nat → Int64) → (Nat → Int64) → (Nat → Int32) → (Nat → Int32) → (Nat → Int32) → (Nat → Int32) → (Nat → Int64) → (Nat → Int32) → (Nat → Int32) → (Nat → Int32) → (Nat → Int32) → Prop}
    {th : Int32} {hactions hwhat hwhere hnumber hknown o1 o2 o3 o4 o5 o6 o7 o8 o10 o11 : Nat → Int32} {o9 : Nat → Int64} {na co : Nat → Nat} {k : Nat}
    (hP : PGr hactions hwhat hwhere hnumber na co) (hPN : PN na co) (hk : k < 4)
    (h : ∀ d r m sz p v htooMany hstates hstuck houtcomes hfront hbehind hfrom hstep hdepth hends hendOutcome hcuts hsoonest hchain hnext, RG na co k (iE na co k) 0 htooMany hstates hstuck houtcomes hfront hbehind hfrom hstep hdepth hends hendOutcome hcuts hsoonest hchain hnext → FG k o1 o2 o3 o4 o5 o6 o7 o8 o9 o10 o11 htooMany hstates hstuck houtcomes hfrom hstep hdepth hends hendOutcome hcuts hsoonest → Post th hactions hwhat hwhere hnumber d r m sz p v hknown htooMany hstates hstuck houtcomes hfront hbehind hfrom hstep hdepth hends hendOutcome hcuts hsoonest hchain hnext) :
    ∀ u i d r m sz p v htooMany hstates hstuck houtcomes hfront hbehind hfrom hstep hdepth hends hendOutcome hcuts hsoonest hchain hnext, u + i = iE na co k → RG na co k i 0 htooMany hstates hstuck houtcomes hfront hbehind hfrom hstep hdepth hends hendOutcome hcuts hsoonest hchain hnext → FG k o1 o2 o3 o4 o5 o6 o7 o8 o9 o10 o11 htooMany hstates hstuck houtcomes hfrom hstep hdepth hends hendOutcome hcuts hsoonest →
      wp_MO_explore_133 Post (u + 1) th hactions hwhat hwhere hnumber d r m sz p v hknown htooMany hstates hstuck houtcomes hfront hbehind hfrom hstep hdepth hends hendOutcome hcuts hsoonest hchain hnext (nI k) (nI i) := by
  intro u
  induction u with
  | zero =>
    intro i d r m sz p v htooMany hstates hstuck houtcomes hfront hbehind hfrom hstep hdepth hends hendOutcome hcuts hsoonest hchain hnext hi hG hO
    have hi' : i = iE na co k := by omega
    subst hi'
    have hn := (XI_F (k := k) hPN).2.1
    have hl2 := iE_le na co k
    have hx1 := hG.1.1
    have hx2 := hG.2.1
    rw [Nat.add_zero, iE_x] at hx1 hx2
    rw [wp_MO_explore_133, nI_clamp (by omega), hx1, hx2, bI_0]
    refine ⟨vp_in_nI hk (by decide), pk_le (xn (xF na co k)) (iE na co k) (fun _ => h _ _ _ _ _ _ _ _ _ _ _ _ _ _ _ _ _ _ _ _ _ hG hO) (fun c => ⟨vp_in_nI hk (by decide), fun _ => h _ _ _ _ _ _ _ _ _ _ _ _ _ _ _ _ _ _ _ _ _ hG hO, fun c2 => ?_⟩)⟩
    exfalso
    rcases (iE_p na co k).1 with e | e | e
    · omega
    · rw [iE_x, c2] at e
      cases e
    · rw [iE_x] at e
      omega
  | succ u ih =>
    intro i d r m sz p v htooMany hstates hstuck houtcomes hfront hbehind hfrom hstep hdepth hends hendOutcome hcuts hsoonest hchain hnext hi hG hO
    have hstop := (iE_p na co k).2 i (by omega)
    have hl2 := iE_le na co k
    have hn := (XI_at (k := k) hPN i 0 (by omega)).2.1
    have hx1 := hG.1.1
    have hx2 := hG.2.1
    rw [Nat.add_zero] at hx1 hx2 hn
    rw [wp_MO_explore_133, nI_clamp (by omega), hx1, hx2, bI_0]
    refine ⟨vp_in_nI hk (by decide), pk_le (xn (xt na co k (24 * i))) i (fun c => absurd (Or.inr (Or.inr c)) hstop) (fun c => ⟨vp_in_nI hk (by decide), fun c2 => ?_, fun c2 => ?_⟩)⟩
    · exfalso
      rcases hb : xc (xt na co k (24 * i)) with _ | _
      · exact c2 hb
      · exact hstop (Or.inr (Or.inl hb))
    · refine s_goThrough hP hPN hk (by omega) hG hO (fun d r m sz p v htooMany hstates hstuck houtcomes hfront hbehind hfrom hstep hdepth hends hendOutcome hcuts hsoonest hchain hnext hG2 hO2 => ?_)
      intro x67 e67
      rw [nI_1] at e67
      rw [e67]
      exact ih (i + 1) _ _ _ _ _ _ _ _ _ _ _ _ _ _ _ _ _ _ _ _ _ (by omega) hG2 hO2
set_option maxHeartbeats 4000000 in
theorem s_rexplore {Post : Int32 → (Nat → Int32) → (Nat → Int32) → (Nat → Int32) → (Nat → Int32) → (Nat → Int32) → (Nat → Int32) → (Nat → Int32) → (Nat → Int32) → (Nat → Int32) → (Nat → Int32) → (Nat → Int32) → (Nat → Int32) → (Nat → Int32) → (Nat → Int32) → (Nat → Int32) → (Nat → Int64) → (Nat → Int64) → (Nat → Int32) → (Nat → Int32) → (Nat → Int32) → (Nat → Int32) → (Nat → Int64) → (Nat → Int32) → (Nat → Int32) → (Nat → Int32) → (Nat → Int32) → Prop}
    {th : Int32} {hactions hwhat hwhere hnumber d r m sz p v hknown htooMany hstates hstuck houtcomes hfrom hstep hdepth hends hcuts hsoonest hchain hnext : Nat → Int32} {hfront hbehind hendOutcome : Nat → Int64} {na co : Nat → Nat} {k : Nat}
    (hP : PGr hactions hwhat hwhere hnumber na co) (hPN : PN na co) (hk : k < 4)
    (h : ∀ d r m sz p v htooMany' hstates' hstuck' houtcomes' hfront' hbehind' hfrom' hstep' hdepth' hends' hendOutcome' hcuts' hsoonest' hchain' hnext', RK na co k htooMany' hstates' hstuck' houtcomes' hfrom' hstep' hdepth' hends' hendOutcome' hcuts' hsoonest' → FG k htooMany hstates hstuck houtcomes hfrom hstep hdepth hends hendOutcome hcuts hsoonest htooMany' hstates' hstuck' houtcomes' hfrom' hstep' hdepth' hends' hendOutcome' hcuts' hsoonest' → Post th hactions hwhat hwhere hnumber d r m sz p v (upd hknown k 1) htooMany' hstates' hstuck' houtcomes' hfront' hbehind' hfrom' hstep' hdepth' hends' hendOutcome' hcuts' hsoonest' hchain' hnext') :
    wp_MO_explore Post th hactions hwhat hwhere hnumber d r m sz p v hknown htooMany hstates hstuck houtcomes hfront hbehind hfrom hstep hdepth hends hendOutcome hcuts hsoonest hchain hnext (nI k) := by
  rw [wp_MO_explore, nI_clamp (by omega), vb1, vb0]
  refine ⟨vp_in_nI hk (by decide), fun f1 e1 => ⟨vp_in_nI hk (by decide), fun f2 e2 => ⟨vp_in_nI hk (by decide), fun f3 e3 => ⟨vp_in_nI hk (by decide), fun f4 e4 => ⟨vp_in_nI hk (by decide), fun f5 e5 => ?_⟩⟩⟩⟩⟩
  rw [← e1] at h
  have k94 : ∀ u a hc hso hch, u + a = 16 → (∀ c, c < 256 → hc (256 * k + c) = 0) → (∀ x, (x < 256 * k ∨ 256 * k + 256 ≤ x) → hc x = hcuts x) → (∀ j, j < 4099 → hch j = -1) → (∀ j, j < a → hso (16 * k + j) = -1) → (∀ x, (x < 16 * k ∨ 16 * k + 16 ≤ x) → hso x = hsoonest x) →
      wp_MO_explore_94 Post (u + 1) th hactions hwhat hwhere hnumber d r m sz p v f1 f2 f3 f4 f5 hfront hbehind hfrom hstep hdepth hends hendOutcome hc hso hch hnext (nI k) (nI (16 * k + a)) := by
    intro u
    induction u with
    | zero =>
      intro a hc hso hch ha z1 z2 z3 z4 z5
      rw [wp_MO_explore_94, show (16 : Int32) = nI 16 from rfl, pk_mul, nI_add]
      refine pk_le (16 * k + 16) (16 * k + a) (fun _ => ?_) (fun c => by omega)
      rw [show (0 : Int64) = lN (pF 0) from by rw [show pF 0 = 0 by decide]; rfl]
      rw [show wp_MO_unpack _ _ _ _ _ _ _ _ (lN (pF 0)) (lN (pF 0)) = wp_MO_unpack _ _ _ _ _ _ _ _ (lN (pF 0)) (lN (pB 0)) from by rw [show pF 0 = 0 by decide, show pB 0 = 0 by decide]]
      refine s_unpack VX_0.2.2 (fun d' r' m' sz' p' v' hra => ?_)
      refine s_radd (k := k) (n := 0) (q := fun _ => (0, 0)) (tr := fun _ => (0, 0, 0)) (y := (0, 0, 0)) (o1 := hstates) (o2 := hfrom) (o3 := hstep) (o4 := hdepth) (o5 := hcuts) (o6 := hsoonest) hra VX_0 ⟨by rw [e3, pk_us]; rfl, fun j hj => by omega, fun j hj => by omega, fun c hc' => z1 c hc', fun p hp v hv => ?_, fun c hc' => z3 c hc', fun j hj => by omega⟩ ⟨fun x hx => by rw [e3, pk_un hx], fun x hx => ⟨rfl, rfl, rfl⟩, z2, z5⟩ hk (by decide) (fun j hj => by omega) (by decide) (Or.inl ⟨rfl, rfl, rfl⟩) (fun hstates' hfront' hbehind' hfrom' hstep' hdepth' hcuts' hsoonest' hchain' hnext' g1 g2 => ?_)
      · rw [Nat.add_assoc, z4 (4 * p + v) (by omega)]
        rfl
      · refine ⟨iE na co k + 1, s_rexpl133 hP hPN hk (fun d r m sz p v htooMany hstates hstuck houtcomes hfront hbehind hfrom hstep hdepth hends hendOutcome hcuts hsoonest hchain hnext hG hO => h _ _ _ _ _ _ _ _ _ _ _ _ _ _ _ _ _ _ _ _ _ (RG_RK hG) hO) (iE na co k) 0 _ _ _ _ _ _ _ _ _ _ _ _ _ _ _ _ _ _ _ _ _ (by omega) ?_ ?_⟩
        · have q0 : upQ (fun _ => ((0 : Nat), (0 : Nat))) 0 (0, 0) = fun _ => (0, 0) := funext (fun j => by simp only [upQ, ite_self])
          have t0 : (fun j => if j = 0 then ((0 : Nat), (0 : Nat), (0 : Nat)) else (0, 0, 0)) = fun _ => (0, 0, 0) := funext (fun j => ite_self _)
          rw [q0, t0] at g1
          have hx0 : xt na co k (24 * 0 + 0) = (1, (fun _ => (0, 0)), (fun _ => (0, 0, 0)), false) := rfl
          refine ⟨?_, ?_, by rw [e4, pk_us]; rfl, fun _ => 0, ⟨by rw [e5, pk_us]; rfl, fun j hj => absurd hj (Nat.not_lt_zero _)⟩, fun a b _ hb => absurd hb (Nat.not_lt_zero _), fun x => rfl, fun j hj => absurd hj (Nat.not_lt_zero _)⟩
          · rw [hx0]
            exact g1
          · rw [hx0, e2, pk_us]
            rfl
        · exact ⟨g2, ⟨fun x hx => by rw [e5, pk_un hx], fun x hx => ⟨rfl, rfl⟩⟩, fun x hx => ⟨by rw [e2, pk_un hx], by rw [e4, pk_un hx]⟩⟩
    | succ u ih =>
      intro a hc hso hch ha z1 z2 z3 z4 z5
      rw [wp_MO_explore_94, show (16 : Int32) = nI 16 from rfl, pk_mul, nI_add, nI_clamp (by omega)]
      refine pk_le (16 * k + 16) (16 * k + a) (fun c => by omega) (fun _ => ⟨vp_in_nI (by omega) (by decide), fun f38 e38 x39 e39 => ?_⟩)
      rw [nI_1] at e39
      rw [e39, Nat.add_assoc]
      refine ih (a + 1) hc f38 hch (by omega) z1 z2 z3 (fun j hj => ?_) (fun x hx => ?_)
      · rw [e38]
        by_cases e : j = a
        · rw [e, pk_us]
        · rw [pk_un (by omega)]
          exact z4 j (by omega)
      · rw [e38, pk_un (by omega)]
        exact z5 x hx
  have k63 : ∀ u a hc hch, u + a = 256 → (∀ c, c < a → hc (256 * k + c) = 0) → (∀ x, (x < 256 * k ∨ 256 * k + 256 ≤ x) → hc x = hcuts x) → (∀ j, j < 4099 → hch j = -1) →
      wp_MO_explore_63 Post (u + 1) th hactions hwhat hwhere hnumber d r m sz p v f1 f2 f3 f4 f5 hfront hbehind hfrom hstep hdepth hends hendOutcome hc hsoonest hch hnext (nI k) (nI (256 * k + a)) := by
    intro u
    induction u with
    | zero =>
      intro a hc hch ha z1 z2 z3
      rw [wp_MO_explore_63, show (256 : Int32) = nI 256 from rfl, pk_mul, nI_add]
      refine pk_le (256 * k + 256) (256 * k + a) (fun _ x9 e9 => ⟨17, ?_⟩) (fun c => by omega)
      rw [show (16 : Int32) = nI 16 from rfl, pk_mul] at e9
      rw [e9]
      exact k94 16 0 hc hsoonest hch (by omega) (fun c hc' => z1 c (by omega)) z2 z3 (fun j hj => by omega) (fun x hx => rfl)
    | succ u ih =>
      intro a hc hch ha z1 z2 z3
      rw [wp_MO_explore_63, show (256 : Int32) = nI 256 from rfl, pk_mul, nI_add, nI_clamp (by omega), vb0]
      refine pk_le (256 * k + 256) (256 * k + a) (fun c => by omega) (fun _ => ⟨vp_in_nI (by omega) (by decide), fun f10 e10 x11 e11 => ?_⟩)
      rw [nI_1] at e11
      rw [e11, Nat.add_assoc]
      refine ih (a + 1) f10 hch (by omega) (fun j hj => ?_) (fun x hx => ?_) z3
      · rw [e10]
        by_cases e : j = a
        · rw [e, pk_us]
        · rw [pk_un (by omega)]
          exact z1 j (by omega)
      · rw [e10, pk_un (by omega)]
        exact z2 x hx
  have k37 : ∀ u a hch, u + a = 4099 → (∀ j, j < a → hch j = -1) →
      wp_MO_explore_37 Post (u + 1) th hactions hwhat hwhere hnumber d r m sz p v f1 f2 f3 f4 f5 hfront hbehind hfrom hstep hdepth hends hendOutcome hcuts hsoonest hch hnext (nI k) (nI a) := by
    intro u
    induction u with
    | zero =>
      intro a hch ha z1
      rw [wp_MO_explore_37]
      refine pk_le 4099 a (fun _ x6 e6 => ⟨257, ?_⟩) (fun c => by omega)
      rw [show (256 : Int32) = nI 256 from rfl, pk_mul] at e6
      rw [e6]
      exact k63 256 0 hcuts hch (by omega) (fun c hc' => by omega) (fun x hx => rfl) (fun j hj => z1 j (by omega))
    | succ u ih =>
      intro a hch ha z1
      rw [wp_MO_explore_37, nI_clamp (by omega)]
      refine pk_le 4099 a (fun c => by omega) (fun _ => ⟨vp_in_nI (by omega) (by decide), fun f7 e7 x8 e8 => ?_⟩)
      rw [nI_1] at e8
      rw [e8]
      refine ih (a + 1) f7 (by omega) (fun j hj => ?_)
      rw [e7]
      by_cases e : j = a
      · rw [e, pk_us]
      · rw [pk_un e]
        exact z1 j (by omega)
  exact ⟨4100, k37 4099 0 hchain (by omega) (fun j hj => by omega)⟩
