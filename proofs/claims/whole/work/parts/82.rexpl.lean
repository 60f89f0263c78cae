/-! the reference's goThrough and explore -/
set_option maxHeartbeats 4000000 in
theorem s_goThrough {Post : Int32 → (Nat → Int32) → (Nat → Int32) → (Nat → Int32) → (Nat → Int32) → (Nat → Int32) → (Nat → Int32) → (Nat → Int32) → (Nat → Int32) → (Nat → Int32) → (Nat → Int32) → (Nat → Int32) → (Nat → Int32) → (Nat → Int32) → (Nat → Int32) → (Nat → Int64) → (Nat → Int64) → (Nat → Int32) → (Nat → Int32) → (Nat → Int32) → (Nat → Int32) → (Nat → Int64) → (Nat → Int32) → (Nat → Int32) → (Nat → Int32) → (Nat → Int32) → Prop}
    {th : Int32} {hactions hwhat hwhere hnumber d r m sz p v htooMany hstates hstuck houtcomes hfrom hstep hdepth hends hcuts hsoonest hchain hnext o1 o2 o3 o4 o5 o6 o7 o8 o10 o11 : Nat → Int32} {hfront hbehind hendOutcome o9 : Nat → Int64} {na co : Nat → Nat} {k i : Nat}
    (hP : PGr hactions hwhat hwhere hnumber na co) (hPN : PN na co) (hk : k < 4) (hi : i < iE na co k)
    (hG : RG na co k i 0 htooMany hstates hstuck houtcomes hfront hbehind hfrom hstep hdepth hends hendOutcome hcuts hsoonest hchain hnext)
    (hO : FG k o1 o2 o3 o4 o5 o6 o7 o8 o9 o10 o11 htooMany hstates hstuck houtcomes hfrom hstep hdepth hends hendOutcome hcuts hsoonest)
    (h : ∀ d r m sz p v htooMany hstates hstuck houtcomes hfront hbehind hfrom hstep hdepth hends hendOutcome hcuts hsoonest hchain hnext, RG na co k (i + 1) 0 htooMany hstates hstuck houtcomes hfront hbehind hfrom hstep hdepth hends hendOutcome hcuts hsoonest hchain hnext → FG k o1 o2 o3 o4 o5 o6 o7 o8 o9 o10 o11 htooMany hstates hstuck houtcomes hfrom hstep hdepth hends hendOutcome hcuts hsoonest → Post th hactions hwhat hwhere hnumber d r m sz p v htooMany hstates hstuck houtcomes hfront hbehind hfrom hstep hdepth hends hendOutcome hcuts hsoonest hchain hnext) :
    wp_MO_goThrough Post th hactions hwhat hwhere hnumber d r m sz p v htooMany hstates hstuck houtcomes hfront hbehind hfrom hstep hdepth hends hendOutcome hcuts hsoonest hchain hnext (nI k) (nI i) := by
  have hstop := (iE_p na co k).2 i hi
  have hi12 : i < 12000 := by
    by_cases c : i < 12000
    · exact c
    · exact absurd (Or.inl (by omega)) hstop
  have hin0 : i < xn (xt na co k (24 * i)) := by
    by_cases c : i < xn (xt na co k (24 * i))
    · exact c
    · exact absurd (Or.inr (Or.inr (by omega))) hstop
  have hc0 : xc (xt na co k (24 * i)) = false := by
    rcases hb : xc (xt na co k (24 * i)) with _ | _
    · rfl
    · exact absurd (Or.inr (Or.inl hb)) hstop
  have key : ∀ u s c d r m sz p v htooMany hstates hfront hbehind hfrom hstep hdepth hcuts hsoonest hchain hnext, u + s = 24 → c ≤ s → (c = 0 → (∀ t, t < s → stp na co k t (xq (xF na co k) i) = none) ∧ xc (xt na co k (24 * i + s)) = false) → (0 < c → ∃ t, t < 24 ∧ stp na co k t (xq (xF na co k) i) ≠ none) →
      RG na co k i s htooMany hstates hstuck houtcomes hfront hbehind hfrom hstep hdepth hends hendOutcome hcuts hsoonest hchain hnext → FG k o1 o2 o3 o4 o5 o6 o7 o8 o9 o10 o11 htooMany hstates hstuck houtcomes hfrom hstep hdepth hends hendOutcome hcuts hsoonest →
      wp_MO_goThrough_5 Post (u + 1) th hactions hwhat hwhere hnumber d r m sz p v htooMany hstates hstuck houtcomes hfront hbehind hfrom hstep hdepth hends hendOutcome hcuts hsoonest hchain hnext (nI k) (nI i) (nI c) (nI s) := by
    intro u
    induction u with
    | zero =>
      intro s c d r m sz p v htooMany hstates hfront hbehind hfrom hstep hdepth hcuts hsoonest hchain hnext hs hcs z0 z1 hG hO
      rw [wp_MO_goThrough_5]
      refine pk_le 24 s (fun _ => ?_) (fun c => by omega)
      refine s_go114 hP hPN hk hi (by omega) (by rw [show s = 24 by omega]) (fun c0 t ht => (z0 c0).1 t (by omega)) z1 (by omega) hG hO h
    | succ u ih =>
      intro s c d r m sz p v htooMany hstates hfront hbehind hfrom hstep hdepth hcuts hsoonest hchain hnext hs hcs z0 z1 hG hO
      rw [wp_MO_goThrough_5, nI_clamp (n := k) (by omega), hG.2.1, bI_0]
      refine pk_le 24 s (fun c => by omega) (fun hs24 => ⟨vp_in_nI hk (by decide), fun cc => ?_, fun cc => ?_⟩)
      · have ct : xc (xt na co k (24 * i + s)) = true := by
          rcases hb : xc (xt na co k (24 * i + s)) with _ | _
          · exact absurd hb cc
          · rfl
        have hcp : 0 < c := by
          by_cases c0 : c = 0
          · exact absurd (z0 c0).2 cc
          · omega
        exact s_go114 hP hPN hk hi (by omega) (xt_stop (Or.inl ct) (24 * i + 24) (by omega)).symm (fun c0 => by omega) z1 (by omega) hG hO h
      · have hle1 := xle_t na co k (show 24 * i ≤ 24 * i + s by omega)
        have hle2 := xle_t na co k (show 24 * i + s ≤ 24 * iE na co k by omega)
        rw [iE_x] at hle2
        have hin : i < xn (xt na co k (24 * i + s)) := Nat.lt_of_lt_of_le hin0 hle1.1
        have hq : xq (xt na co k (24 * i + s)) i = xq (xF na co k) i := (hle2.2.1 i hin).1.symm
        have hXI := XI_at (k := k) hPN i s (by omega)
        have hVS : VS na k (xq (xF na co k) i) := (XI_F (k := k) hPN).2.2.2.1 i (Nat.lt_of_lt_of_le hin hle2.1)
        have hxs := xt_succ na co k i hs24
        have hG2 := hG
        have ih1 := ih (s + 1)
        unfold RG at ih1
        rw [hxs] at ih1
        clear ih
        obtain ⟨hx, ht, hsk, hends'⟩ := hG
        have hO2 := hO
        obtain ⟨hfr, hfe, hft⟩ := hO
        have hfrx := (hx.2.1 i hin)
        rw [hq] at hfrx
        have hone : xone na co k (xt na co k (24 * i + s)) i s = match stp na co k s (xq (xF na co k) i) with | none => xt na co k (24 * i + s) | some y => xadd (xt na co k (24 * i + s)) y i s := by
          simp only [xone]
          rw [if_neg (by rw [cc]; simp; omega), hq]
          cases stp na co k s (xq (xF na co k) i) <;> rfl
        have hdl : ∀ j, j < xn (xt na co k (24 * i + s)) → (xtr (xt na co k (24 * i + s)) j).2.2 ≤ 40 := fun j hj => xd_le hPN.1 hXI hj
        rw [show (12001 : Int32) = nI 12001 from rfl, pk_mul, nI_add, nI_clamp (n := 12001 * k + i) (by omega), hfrx.1, hfrx.2]
        refine ⟨vp_in_nI (by omega) (by decide), vp_in_nI (by omega) (by decide), s_unpack hVS.1.2.2 (fun d' r' m' sz' p' v' hra => ?_)⟩
        have hxne : xq (xF na co k) i = ((xq (xF na co k) i).1, (xq (xF na co k) i).2) := rfl
        have hnow := hx
        generalize hXe : xt na co k (24 * i + s) = X at *
        refine s_make hP hPN hk hs24 (M := (xq (xF na co k) i).1) (B := (xq (xF na co k) i).2) hVS hra (fun M' B' d2 r2 m2 sz2 p2 v2 hst hra2 => ⟨fun e => absurd e (by decide), fun _ x21 e21 => ?_⟩) (fun hst d2 r2 m2 sz2 p2 v2 => ⟨fun _ => ?_, fun e => absurd rfl e⟩)
        · rw [← hxne] at hst
          rw [hst] at hone
          simp only at hone
          rw [nI_1] at e21
          have hVS2 : VS na k (M', B') := stp_ok hPN hs24 hVS hst
          have z1' : 0 < c + 1 → ∃ t, t < 24 ∧ stp na co k t (xq (xF na co k) i) ≠ none := fun _ => ⟨s, hs24, by rw [hst]; simp⟩
          refine s_packFront hra2.1 hra2.2.1 hra2.2.2.1 ?_
          refine s_packBehind hVS2.1.2.2 hra2.2.2.2.1 hra2.2.2.2.2 ?_
          refine s_find (x := (M', B')) hk hXI.2.1 hx.2.1 hx.2.2.2.2.2 (fun j hj => (hXI.2.2.2.1 j hj).1) hVS2.1 (fun j hj hjq => ⟨fun _ => ?_, fun c0 => absurd (nI_pos' (by have := hXI.2.1; omega)) c0⟩) (fun hno => ⟨fun c0 => absurd c0 (by decide), fun _ => ⟨vp_in_nI hk (by decide), ?_⟩⟩)
          · rw [wp_MO_goThrough_108]
            intro x78 e78
            rw [nI_1] at e78
            rw [e78, e21]
            refine ih1 (c + 1) _ _ _ _ _ _ _ _ _ _ _ _ _ _ _ _ _ (by omega) (by omega) (fun c0 => by omega) z1' ?_ hO2
            rw [hone, xadd_old ⟨j, hj, hjq⟩]
            exact ⟨hx, ht, hsk, hends'⟩
          · have hni : ¬ isin X (M', B') := fun ⟨j, hj, e⟩ => hno j hj e
            have hn12 := hXI.2.1
            rw [hx.1, show (12000 : Int32) = nI 12000 from rfl, nI_eq (by omega) (by decide)]
            refine ⟨fun cn => ?_, fun cn => ⟨vp_in_nI hk (by decide), fun f56 e56 => ?_⟩⟩
            · refine s_radd (y := (i, s, xd X i + 1)) hra2 hVS2.1 hx hfr hk (by omega) (fun j hj => by have := hdl j hj; omega) (by show xd X i + 1 < 2 ^ 30; have := hdl i hin; simp only [xd]; omega) (Or.inr ⟨hin, rfl, rfl, rfl⟩) (fun hstates' hfront' hbehind' hfrom' hstep' hdepth' hcuts' hsoonest' hchain' hnext' g1 g2 => ?_)
              rw [wp_MO_goThrough_108]
              intro x78 e78
              rw [nI_1] at e78
              rw [e78, e21]
              refine ih1 (c + 1) _ _ _ _ _ _ _ _ _ _ _ _ _ _ _ _ _ (by omega) (by omega) (fun c0 => by omega) z1' ?_ ⟨g2, hfe, hft⟩
              rw [hone, xadd_new hni cn]
              exact ⟨g1, ht, hsk, hends'⟩
            · rw [wp_MO_goThrough_108]
              intro x78 e78
              rw [nI_1] at e78
              rw [e78, e21]
              rw [vb1] at e56
              refine ih1 (c + 1) _ _ _ _ _ _ _ _ _ _ _ _ _ _ _ _ _ (by omega) (by omega) (fun c0 => by omega) z1' ?_ ⟨hfr, hfe, fun x hxk => ⟨by rw [e56, pk_un hxk]; exact (hft x hxk).1, (hft x hxk).2⟩⟩
              rw [hone, xadd_full hni cn]
              exact ⟨hx, by rw [e56, pk_us]; rfl, hsk, hends'⟩
        · rw [← hxne] at hst
          rw [hst] at hone
          simp only at hone
          rw [wp_MO_goThrough_108]
          intro x78 e78
          rw [nI_1] at e78
          rw [e78]
          refine ih1 c _ _ _ _ _ _ _ _ _ _ _ _ _ _ _ _ _ (by omega) (by omega) (fun c0 => ⟨fun t ht2 => ?_, by rw [hone]; exact cc⟩) z1 ?_ hO2
          · by_cases e : t = s
            · rw [e]
              exact hst
            · exact (z0 c0).1 t (by omega)
          · rw [hone]
            exact ⟨hx, ht, hsk, hends'⟩
  exact ⟨25, key 24 0 0 d r m sz p v htooMany hstates hfront hbehind hfrom hstep hdepth hcuts hsoonest hchain hnext (by omega) (by omega) (fun _ => ⟨fun t ht => by omega, hc0⟩) (fun c => by omega) hG hO⟩
