/-! the reference goes through a state -/
def RG (na co : Nat → Nat) (k i s : Nat) (htooMany hstates hstuck houtcomes : Nat → Int32) (hfront hbehind : Nat → Int64) (hfrom hstep hdepth hends : Nat → Int32) (hendOutcome : Nat → Int64) (hcuts hsoonest hchain hnext : Nat → Int32) : Prop :=
  RX k (xn (xt na co k (24 * i + s))) (xq (xt na co k (24 * i + s))) (xtr (xt na co k (24 * i + s))) hstates hfront hbehind hfrom hstep hdepth hcuts hsoonest hchain hnext ∧ htooMany k = bI (xc (xt na co k (24 * i + s))) ∧ hstuck k = nI (skX na co k (xF na co k) i) ∧
  ∃ w, RE k (eL na (xF na co k) i).length w houtcomes hends hendOutcome ∧ ST (eL na (xF na co k) i).length w ∧ SO (eL na (xF na co k) i).length w (fun j => (eL na (xF na co k) i).getD j 0) ∧ ∀ j, j < (eL na (xF na co k) i).length → w j % 2 ^ 14 < i ∧ w j < 2 ^ 54
def FG (k : Nat) (o1 o2 o3 o4 o5 o6 o7 o8 : Nat → Int32) (o9 : Nat → Int64) (o10 o11 : Nat → Int32) (htooMany hstates hstuck houtcomes hfrom hstep hdepth hends : Nat → Int32) (hendOutcome : Nat → Int64) (hcuts hsoonest : Nat → Int32) : Prop :=
  FR k o2 o5 o6 o7 o10 o11 hstates hfrom hstep hdepth hcuts hsoonest ∧ FE k o4 o8 o9 houtcomes hends hendOutcome ∧ ∀ x, x ≠ k → htooMany x = o1 x ∧ hstuck x = o3 x
theorem bI_0 {b : Bool} : bI b = 0 ↔ b = false := by
  rcases b with _ | _
  · exact ⟨fun _ => rfl, fun _ => rfl⟩
  · exact ⟨fun c => absurd c (by decide), fun c => absurd c (by decide)⟩
theorem cnt_app {L : List Nat} {y x : Nat} : cnt (fun j => (L ++ [y]).getD j 0) x (L.length + 1) = cnt (fun j => L.getD j 0) x L.length + if y = x then 1 else 0 := by
  have h1 : cnt (fun j => (L ++ [y]).getD j 0) x L.length = cnt (fun j => L.getD j 0) x L.length := cnt_ext (fun j hj => by
    simp only [List.getD_eq_getElem?_getD]
    rw [List.getElem?_append_left hj])
  rw [show cnt (fun j => (L ++ [y]).getD j 0) x (L.length + 1) = cnt (fun j => (L ++ [y]).getD j 0) x L.length + (if (L ++ [y]).getD L.length 0 = x then 1 else 0) from rfl, h1]
  have h2 : (L ++ [y]).getD L.length 0 = y := by
    simp [List.getD_eq_getElem?_getD]
  rw [h2]
theorem s_go114 {Post : Int32 → (Nat → Int32) → (Nat → Int32) → (Nat → Int32) → (Nat → Int32) → (Nat → Int32) → (Nat → Int32) → (Nat → Int32) → (Nat → Int32) → (Nat → Int32) → (Nat → Int32) → (Nat → Int32) → (Nat → Int32) → (Nat → Int32) → (Nat → Int32) → (Nat → Int64) → (Nat → Int64) → (Nat → Int32) → (Nat → Int32) → (Nat → Int32) → (Nat → Int32) → (Nat → Int64) → (Nat → Int32) → (Nat → Int32) → (Nat → Int32) → (Nat → Int32) → Prop}
    {th : Int32} {hactions hwhat hwhere hnumber d r m sz p v htooMany hstates hstuck houtcomes hfrom hstep hdepth hends hcuts hsoonest hchain hnext o1 o2 o3 o4 o5 o6 o7 o8 o10 o11 : Nat → Int32} {hfront hbehind hendOutcome o9 : Nat → Int64} {na co : Nat → Nat} {k i s c : Nat}
    (hP : PGr hactions hwhat hwhere hnumber na co) (hPN : PN na co) (hk : k < 4) (hi : i < iE na co k) (hs : s ≤ 24) (hend : xt na co k (24 * i + s) = xt na co k (24 * i + 24))
    (hc0 : c = 0 → ∀ t, t < 24 → stp na co k t (xq (xF na co k) i) = none) (hc1 : 0 < c → ∃ t, t < 24 ∧ stp na co k t (xq (xF na co k) i) ≠ none) (hc24 : c ≤ 24)
    (hG : RG na co k i s htooMany hstates hstuck houtcomes hfront hbehind hfrom hstep hdepth hends hendOutcome hcuts hsoonest hchain hnext)
    (hO : FG k o1 o2 o3 o4 o5 o6 o7 o8 o9 o10 o11 htooMany hstates hstuck houtcomes hfrom hstep hdepth hends hendOutcome hcuts hsoonest)
    (h : ∀ d r m sz p v htooMany hstates hstuck houtcomes hfront hbehind hfrom hstep hdepth hends hendOutcome hcuts hsoonest hchain hnext, RG na co k (i + 1) 0 htooMany hstates hstuck houtcomes hfront hbehind hfrom hstep hdepth hends hendOutcome hcuts hsoonest hchain hnext → FG k o1 o2 o3 o4 o5 o6 o7 o8 o9 o10 o11 htooMany hstates hstuck houtcomes hfrom hstep hdepth hends hendOutcome hcuts hsoonest → Post th hactions hwhat hwhere hnumber d r m sz p v htooMany hstates hstuck houtcomes hfront hbehind hfrom hstep hdepth hends hendOutcome hcuts hsoonest hchain hnext) :
    wp_MO_goThrough_114 Post th hactions hwhat hwhere hnumber d r m sz p v htooMany hstates hstuck houtcomes hfront hbehind hfrom hstep hdepth hends hendOutcome hcuts hsoonest hchain hnext (nI k) (nI i) (nI c) := by
  obtain ⟨hx, ht, hsk, w, hre, hst, hso, hb⟩ := hG
  obtain ⟨hfr, hfe, hft⟩ := hO
  have hstop := (iE_p na co k).2 i hi
  have hi12 : i < 12000 := by
    by_cases c : i < 12000
    · exact c
    · exact absurd (Or.inl (by omega)) hstop
  have hin0 : i < xn (xt na co k (24 * i)) := by
    by_cases c : i < xn (xt na co k (24 * i))
    · exact c
    · exact absurd (Or.inr (Or.inr (by omega))) hstop
  have hle1 := xle_t na co k (show 24 * i ≤ 24 * i + s by omega)
  have hle2 := xle_t na co k (show 24 * i + s ≤ 24 * iE na co k by omega)
  rw [iE_x] at hle2
  have hin : i < xn (xt na co k (24 * i + s)) := Nat.lt_of_lt_of_le hin0 hle1.1
  have hq : xq (xt na co k (24 * i + s)) i = xq (xF na co k) i := (hle2.2.1 i hin).1.symm
  have hVS : VS na k (xq (xF na co k) i) := (XI_F (k := k) hPN).2.2.2.1 i (Nat.lt_of_lt_of_le hin hle2.1)
  have hRX : RX k (xn (xt na co k (24 * (i + 1) + 0))) (xq (xt na co k (24 * (i + 1) + 0))) (xtr (xt na co k (24 * (i + 1) + 0))) hstates hfront hbehind hfrom hstep hdepth hcuts hsoonest hchain hnext ∧ htooMany k = bI (xc (xt na co k (24 * (i + 1) + 0))) := by
    rw [show 24 * (i + 1) + 0 = 24 * i + 24 by omega, ← hend]
    exact ⟨hx, ht⟩
  have hbase : ∀ j, j < (eL na (xF na co k) i).length → w j % 2 ^ 14 < i + 1 ∧ w j < 2 ^ 54 := fun j hj => by
    have := hb j hj
    omega
  have hlen := eL_le na (xF na co k) i
  have hskle := skX_le na co k (xF na co k) i
  have hfrx := (hx.2.1 i hin)
  rw [hq] at hfrx
  have hpe : (xq (xF na co k) i) = ((xq (xF na co k) i).1, (xq (xF na co k) i).2) := rfl
  rw [wp_MO_goThrough_114, show (12001 : Int32) = nI 12001 from rfl, pk_mul, nI_add, nI_clamp (n := 12001 * k + i) (by omega), hfrx.1, hfrx.2]
  refine ⟨vp_in_nI (by omega) (by decide), vp_in_nI (by omega) (by decide), s_unpack hVS.1.2.2 (fun d' r' m' sz' p' v' hra => ?_)⟩
  refine s_isEnd (na := na) (k := k) (M := (xq (xF na co k) i).1) (B := (xq (xF na co k) i).2) (fun t ht => ⟨hP.1 t ht, hPN.1 t ht⟩) hVS hra (fun he => ⟨fun e => absurd e (by decide), fun _ => ?_⟩) (fun he => ⟨fun _ => ?_, fun e => absurd rfl e⟩)
  · have hE1 : eL na (xF na co k) (i + 1) = eL na (xF na co k) i ++ [(xq (xF na co k) i).1 % 2 ^ 40 * 2 ^ 14 + i] := eadd_y he
    have hS1 : skX na co k (xF na co k) (i + 1) = skX na co k (xF na co k) i := sadd_n (fun a => a.1 he)
    refine s_raddEnd hra hk (by omega) hi12 hre hfe hst hb (fun hN' hE' hG' w' g1 g2 g3 g4 g5 => ?_)
    refine h _ _ _ _ _ _ _ _ _ _ _ _ _ _ _ _ _ _ _ _ _ ⟨hRX.1, hRX.2, by rw [hS1]; exact hsk, w', ?_⟩ ⟨hfr, g2, hft⟩
    rw [hE1, List.length_append, List.length_singleton]
    refine ⟨g1, g3, fun x => ?_, g5⟩
    rw [g4 x, hso x, cnt_app]
  · have hE1 : eL na (xF na co k) (i + 1) = eL na (xF na co k) i := eadd_n he
    rw [nI_z0 (by omega)]
    refine ⟨fun c0 => ?_, fun c0 => ?_⟩
    · have hS1 : skX na co k (xF na co k) (i + 1) = skX na co k (xF na co k) i := sadd_n (fun a => by
        obtain ⟨t, ht, hn⟩ := hc1 (by omega)
        exact hn (a.2 t ht))
      refine h _ _ _ _ _ _ _ _ _ _ _ _ _ _ _ _ _ _ _ _ _ ⟨hRX.1, hRX.2, by rw [hS1]; exact hsk, w, ?_⟩ ⟨hfr, hfe, hft⟩
      rw [hE1]
      exact ⟨hre, hst, hso, hbase⟩
    · have hS1 : skX na co k (xF na co k) (i + 1) = skX na co k (xF na co k) i + 1 := sadd_y ⟨he, hc0 c0⟩
      rw [nI_clamp (by omega), hsk, nI_1]
      refine ⟨vp_in_nI hk (by decide), vp_in_nI hk (by decide), fun f70 e70 => ?_⟩
      refine h _ _ _ _ _ _ _ _ _ _ _ _ _ _ _ _ _ _ _ _ _ ⟨hRX.1, hRX.2, by rw [hS1, e70, pk_us], w, ?_⟩ ⟨hfr, hfe, fun x hx => ⟨(hft x hx).1, ?_⟩⟩
      · rw [hE1]
        exact ⟨hre, hst, hso, hbase⟩
      · rw [e70, pk_un hx]
        exact (hft x hx).2
