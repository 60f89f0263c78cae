/-! the reference adds a state -/
theorem top_hit {h : Nat → Nat} {c n : Nat} (e : h n = c) : top h c (n + 1) = some n := if_pos e
theorem top_miss {h : Nat → Nat} {c n : Nat} (e : ¬ h n = c) : top h c (n + 1) = top h c n := if_neg e
theorem RX_cuts {k n c : Nat} {q : Nat → Nat × Nat} {x : Nat × Nat} {hcuts f : Nat → Int32} (h : ∀ c, c < 256 → hcuts (256 * k + c) = cI q c n) (hc : c = x.1 % 256) (hf : f = upd hcuts (256 * k + c) 1) : ∀ c, c < 256 → f (256 * k + c) = cI (upQ q n x) c (n + 1) := by
  intro c' hc'
  simp only [cI]
  rw [upQ_s, hf, cI_ext (q' := q) (fun j hj => upQ_n (by omega))]
  by_cases e : c' = c
  · rw [e, pk_us, if_pos hc.symm]
  · rw [pk_un (by omega), if_neg (by omega)]
    exact h c' hc'
theorem s_add143 {Post : Int32 → (Nat → Int32) → (Nat → Int32) → (Nat → Int32) → (Nat → Int32) → (Nat → Int32) → (Nat → Int32) → (Nat → Int32) → (Nat → Int64) → (Nat → Int64) → (Nat → Int32) → (Nat → Int32) → (Nat → Int32) → (Nat → Int32) → (Nat → Int32) → (Nat → Int32) → (Nat → Int32) → Prop}
    {th : Int32} {d r m s p v hstates hfrom hstep hdepth hcuts hsoonest hchain hnext : Nat → Int32} {hfront hbehind : Nat → Int64} {k n : Nat} {q : Nat → Nat × Nat} {tr : Nat → Nat × Nat × Nat} {x : Nat × Nat} {y : Nat × Nat × Nat}
    (hm : ∀ p, p < 4 → m p = nI (mmF x.1 p)) (hk : k < 4) (hn : n ≤ 12000) (hd : ∀ j, j < n → (tr j).2.2 < 2 ^ 30) (hy : y.2.2 < 2 ^ 30) (hdn : hdepth (12001 * k + n) = nI y.2.2)
    (hcut : ∀ c, c < 256 → hcuts (256 * k + c) = cI q c n) (hso : ∀ p, p < 4 → ∀ v, v < 4 → hsoonest (16 * k + 4 * p + v) = oI (soN q tr p v n))
    (h : ∀ hcuts' hsoonest', (∀ c, c < 256 → hcuts' (256 * k + c) = cI (upQ q n x) c (n + 1)) → (∀ p, p < 4 → ∀ v, v < 4 → hsoonest' (16 * k + 4 * p + v) = oI (soN (upQ q n x) (fun j => if j = n then y else tr j) p v (n + 1))) → (∀ a, (a < 256 * k ∨ 256 * k + 256 ≤ a) → hcuts' a = hcuts a) → (∀ a, (a < 16 * k ∨ 16 * k + 16 ≤ a) → hsoonest' a = hsoonest a) → Post th d r m s p v hstates hfront hbehind hfrom hstep hdepth hcuts' hsoonest' hchain hnext) :
    ∃ n_143 : Nat, wp_MO_add_143 Post n_143 th d r m s p v hstates hfront hbehind hfrom hstep hdepth hcuts hsoonest hchain hnext (nI k) (nI (12001 * k + n)) 0 0 := by
  have hmm : ∀ j, mmF x.1 j < 4 := fun j => mm_lt x.1 j
  have hnew : ∀ p v, soN (upQ q n x) (fun j => if j = n then y else tr j) p v (n + 1) = match soN q tr p v n with | some d => some d | none => if mmF x.1 p = v then some y.2.2 else none := by
    intro p v
    simp only [soN]
    rw [upQ_s, if_pos trivial, soN_ext (q' := q) (tr' := tr) (fun j hj => ⟨upQ_n (by omega), if_neg (by omega)⟩)]
    rcases soN q tr p v n with _ | dd <;> rfl
  have key : ∀ u P hs, u + P = 4 → (∀ p, p < 4 → ∀ v, v < 4 → hs (16 * k + 4 * p + v) = if p < P then oI (soN (upQ q n x) (fun j => if j = n then y else tr j) p v (n + 1)) else oI (soN q tr p v n)) → (∀ a, (a < 16 * k ∨ 16 * k + 16 ≤ a) → hs a = hsoonest a) →
      wp_MO_add_143 Post (u + 1) th d r m s p v hstates hfront hbehind hfrom hstep hdepth hcuts hs hchain hnext (nI k) (nI (12001 * k + n)) (nI (fa 2 (mmF x.1) 0 P)) (nI P) := by
    intro u
    induction u with
    | zero =>
      intro P hs hP h1 h2
      rw [wp_MO_add_143]
      refine pk_le 4 P (fun _ => ?_) (fun c => by omega)
      rw [show P = 4 by omega, mm_cut, show (256 : Int32) = nI 256 from rfl, pk_mul, nI_add, nI_clamp (by omega)]
      refine ⟨vp_in_nI (by omega) (by decide), fun f22 e22 => ?_⟩
      rw [vb1] at e22
      refine h f22 hs (RX_cuts hcut rfl e22) (fun p hp v hv => ?_) (fun a ha => ?_) h2
      · rw [h1 p hp v hv, if_pos (by omega)]
      · rw [e22, pk_un (by omega)]
    | succ u ih =>
      intro P hs hP h1 h2
      rw [wp_MO_add_143]
      refine pk_le 4 P (fun c => by omega) (fun _ => ?_)
      have hf := fa_ext (w := 2) (v := 0) (m := P) (g := mmF x.1) (fun j _ => hmm j) rfl rfl
      have hf2 : (4 : Nat) ^ P ≤ 4 ^ 3 := Nat.pow_le_pow_right (by decide) (by omega)
      have hv4 := hmm P
      rw [nI_clamp (by omega), hm P (by omega)]
      refine ⟨vp_in_nI (by omega) (by decide), fun x23 e23 => ⟨vp_in_nI (by omega) (by decide), fun x24 e24 => ?_⟩⟩
      rw [show (4 : Int32) = nI 4 from rfl, pk_mul, nI_add, Nat.mul_comm 4, show fa 2 (mmF x.1) 0 P * 4 + mmF x.1 P = fa 2 (mmF x.1) 0 (P + 1) from rfl] at e23
      rw [show (16 : Int32) = nI 16 from rfl, show (4 : Int32) = nI 4 from rfl, pk_mul, pk_mul, nI_add, nI_add] at e24
      subst e23 e24
      have hold : hs (16 * k + 4 * P + mmF x.1 P) = oI (soN q tr P (mmF x.1 P) n) := by rw [h1 P (by omega) _ hv4, if_neg (by omega)]
      rw [nI_clamp (by omega), hold, oI_pos (fun d e => by
        obtain ⟨j, hj, e2, _⟩ := soN_some e
        have := hd j hj
        omega)]
      have nx : ∀ hs', (∀ p, p < 4 → ∀ v, v < 4 → hs' (16 * k + 4 * p + v) = if p < P + 1 then oI (soN (upQ q n x) (fun j => if j = n then y else tr j) p v (n + 1)) else oI (soN q tr p v n)) → (∀ a, (a < 16 * k ∨ 16 * k + 16 ≤ a) → hs' a = hsoonest a) →
          wp_MO_add_206 Post (fun (th : Int32) (hdone : Nat → Int32) (hregister : Nat → Int32) (hmemory : Nat → Int32) (hsize : Nat → Int32) (hplace : Nat → Int32) (hvalue : Nat → Int32) (hstates : Nat → Int32) (hfront : Nat → Int64) (hbehind : Nat → Int64) (hfrom : Nat → Int32) (hstep : Nat → Int32) (hdepth : Nat → Int32) (hcuts : Nat → Int32) (hsoonest : Nat → Int32) (hchain : Nat → Int32) (hnext : Nat → Int32) (L1 : Int32) (L5 : Int32) (L7 : Int32) (L8 : Int32) => wp_MO_add_143 Post (u + 1) th hdone hregister hmemory hsize hplace hvalue hstates hfront hbehind hfrom hstep hdepth hcuts hsoonest hchain hnext L1 L5 L7 L8) th d r m s p v hstates hfront hbehind hfrom hstep hdepth hcuts hs' hchain hnext (nI k) (nI (12001 * k + n)) (nI (fa 2 (mmF x.1) 0 (P + 1))) (nI P) := by
        intro hs' a1 a2
        rw [wp_MO_add_206]
        intro x26 e26
        rw [nI_1] at e26
        rw [e26]
        exact ih (P + 1) hs' (by omega) a1 a2
      refine ⟨vp_in_nI (by omega) (by decide), fun c => nx hs (fun p hp v hv => ?_) h2, fun c => ⟨vp_in_nI (by omega) (by decide), vp_in_nI (by omega) (by decide), fun f25 e25 => nx f25 (fun p hp v hv => ?_) (fun a ha => ?_)⟩⟩
      · rw [h1 p hp v hv]
        by_cases c1 : p < P
        · rw [if_pos c1, if_pos (by omega)]
        · by_cases c2 : p = P
          · subst c2
            rw [if_neg c1, if_pos (by omega), hnew]
            rcases hS : soN q tr p v n with _ | dd
            · simp only
              by_cases c3 : mmF x.1 p = v
              · rw [c3] at c
                exact absurd hS c
              · rw [if_neg c3]
            · rfl
          · rw [if_neg c1, if_neg (by omega)]
      · rw [e25, nI_clamp (by omega), hdn]
        by_cases c1 : p = P
        · subst c1
          rw [if_pos (by omega), hnew]
          have hcn : soN q tr p (mmF x.1 p) n = none := by
            rcases hS : soN q tr p (mmF x.1 p) n with _ | dd
            · rfl
            · exact absurd (by rw [hS]; simp) c
          by_cases c3 : mmF x.1 p = v
          · subst c3
            rw [pk_us, hcn]
            simp only [if_true]
            rfl
          · rw [pk_un (by omega), h1 p hp v hv, if_neg (by omega)]
            rcases hS : soN q tr p v n with _ | dd
            · simp only
              rw [if_neg c3]
            · rfl
        · rw [pk_un (by omega), h1 p hp v hv]
          by_cases c2 : p < P
          · rw [if_pos c2, if_pos (by omega)]
          · rw [if_neg c2, if_neg (by omega)]
      · rw [e25, pk_un (by omega)]
        exact h2 a ha
  exact ⟨5, key 4 0 hsoonest (by omega) (fun p hp v hv => by rw [if_neg (by omega)]; exact hso p hp v hv) (fun a ha => rfl)⟩
theorem s_radd {Post : Int32 → (Nat → Int32) → (Nat → Int32) → (Nat → Int32) → (Nat → Int32) → (Nat → Int32) → (Nat → Int32) → (Nat → Int32) → (Nat → Int64) → (Nat → Int64) → (Nat → Int32) → (Nat → Int32) → (Nat → Int32) → (Nat → Int32) → (Nat → Int32) → (Nat → Int32) → (Nat → Int32) → Prop}
    {th A2 A3 : Int32} {d r m s p v hstates hfrom hstep hdepth hcuts hsoonest hchain hnext o1 o2 o3 o4 o5 o6 : Nat → Int32} {hfront hbehind : Nat → Int64} {k n M B : Nat} {q : Nat → Nat × Nat} {tr : Nat → Nat × Nat × Nat} {y : Nat × Nat × Nat}
    (hR : RA d r m s p v M B) (hV : VX M B) (hX : RX k n q tr hstates hfront hbehind hfrom hstep hdepth hcuts hsoonest hchain hnext) (hO : FR k o1 o2 o3 o4 o5 o6 hstates hfrom hstep hdepth hcuts hsoonest) (hk : k < 4) (hn : n < 12000) (hd : ∀ j, j < n → (tr j).2.2 < 2 ^ 30) (hy : y.2.2 < 2 ^ 30)
    (hA : (A2 = -1 ∧ n = 0 ∧ y.2.2 = 0) ∨ (y.1 < n ∧ A2 = nI y.1 ∧ A3 = nI y.2.1 ∧ y.2.2 = (tr y.1).2.2 + 1))
    (h : ∀ hstates' hfront' hbehind' hfrom' hstep' hdepth' hcuts' hsoonest' hchain' hnext', RX k (n + 1) (upQ q n (M, B)) (fun j => if j = n then y else tr j) hstates' hfront' hbehind' hfrom' hstep' hdepth' hcuts' hsoonest' hchain' hnext' → FR k o1 o2 o3 o4 o5 o6 hstates' hfrom' hstep' hdepth' hcuts' hsoonest' → Post th d r m s p v hstates' hfront' hbehind' hfrom' hstep' hdepth' hcuts' hsoonest' hchain' hnext') :
    wp_MO_add Post th d r m s p v hstates hfront hbehind hfrom hstep hdepth hcuts hsoonest hchain hnext (nI k) A2 A3 := by
  obtain ⟨x1, x2, x3, x4, x5, x6⟩ := hX
  obtain ⟨y1, y2, y3, y4⟩ := hO
  rw [wp_MO_add, nI_clamp (by omega)]
  refine ⟨vp_in_nI hk (by decide), fun z1 e1 z2 e2 => ?_⟩
  rw [x1] at e1
  subst e1
  rw [show (12001 : Int32) = nI 12001 from rfl, pk_mul, nI_add] at e2
  subst e2
  refine s_packFront hR.1 hR.2.1 hR.2.2.1 ⟨vp_in_nI (by omega) (by decide), fun f8 e8 => ?_⟩
  refine s_packBehind hV.2.2 hR.2.2.2.1 hR.2.2.2.2 ⟨vp_in_nI (by omega) (by decide), fun f14 e14 => ⟨vp_in_nI (by omega) (by decide), fun f15 e15 => ⟨vp_in_nI (by omega) (by decide), fun f16 e16 => ?_⟩⟩⟩
  rw [nI_clamp (by omega)] at e8 e14 e15 e16
  have main : wp_MO_add_84 Post th d r m s p v hstates f8 f14 f15 f16 hdepth hcuts hsoonest hchain hnext (nI k) (nI n) (nI (12001 * k + n)) (nI y.2.2) (nI (12001 * k + n)) := by
    rw [wp_MO_add_84, nI_clamp (by omega)]
    refine ⟨vp_in_nI (by omega) (by decide), fun f17 e17 => ⟨vp_in_nI (by omega) (by decide), vp_in_nI (by omega) (by decide), ?_⟩⟩
    rw [show f8 (12001 * k + n) = lN (pF (M, B).1) by rw [e8, pk_uLs], show f14 (12001 * k + n) = lN (pB (M, B).2) by rw [e14, pk_uLs]]
    refine s_chainOf ?_
    have hhx := hh_lt (M, B)
    rw [nI_clamp (by omega), nI_clamp (by omega), nI_clamp (by omega)]
    refine ⟨vp_in_nI hhx (by decide), vp_in_nI (by omega) (by decide), fun f19 e19 => ⟨vp_in_nI hhx (by decide), fun f20 e20 => ⟨vp_in_nI hk (by decide), vp_in_nI hk (by decide), fun f21 e21 => ?_⟩⟩⟩
    rw [x1, nI_1] at e21
    refine s_add143 (x := (M, B)) (y := y) hR.2.2.1 hk (by omega) hd hy (by rw [e17, pk_us]) x4 x5 (fun hcuts' hsoonest' g1 g2 g3 g4 => ?_)
    refine h _ _ _ _ _ _ _ _ _ _ ⟨?_, fun j hj => ?_, fun j hj => ?_, g1, g2, fun c hc => ?_, fun j hj => ?_⟩ ⟨fun a ha => ?_, fun a ha => ?_, fun a ha => ?_, fun a ha => ?_⟩
    · rw [e21, pk_us]
    · by_cases e : j = n
      · subst e
        rw [e8, e14, pk_uLs, pk_uLs, upQ_s]
        exact ⟨rfl, rfl⟩
      · rw [e8, e14, pk_uLn (by omega), pk_uLn (by omega), upQ_n e]
        exact x2 j (by omega)
    · by_cases e : j = n
      · subst e
        rw [e17, e15, e16, pk_us, pk_us, pk_us]
        dsimp only
        rw [if_pos rfl]
        refine ⟨rfl, fun c => ?_⟩
        rcases hA with a | a
        · omega
        · exact ⟨a.2.1, a.2.2.1⟩
      · rw [e17, e15, e16, pk_un (by omega), pk_un (by omega), pk_un (by omega)]
        dsimp only
        rw [if_neg e]
        exact x3 j (by omega)
    · rw [e20]
      by_cases e : c = hh (M, B)
      · rw [e, pk_us, top_hit (by rw [upQ_s])]
        rfl
      · rw [pk_un e, top_miss (by rw [upQ_s]; exact fun a => e a.symm), top_ext (g := fun j => hh (q j)) (fun j hj => by rw [upQ_n (by omega)])]
        exact x6.1 c hc
    · rw [e19, top_ext (g := fun j => hh (q j)) (fun i hi => by rw [upQ_n (by omega)])]
      by_cases e : j = n
      · subst e
        rw [pk_us, upQ_s]
        exact x6.1 _ hhx
      · rw [pk_un e, upQ_n e]
        exact x6.2 j (by omega)
    · rw [e21, pk_un ha]
      exact y1 a ha
    · rw [e15, e16, e17, pk_un (by omega), pk_un (by omega), pk_un (by omega)]
      exact y2 a ha
    · rw [g3 a ha]
      exact y3 a ha
    · rw [g4 a ha]
      exact y4 a ha
  rcases hA with a | a
  · rw [a.1]
    refine ⟨fun c => absurd c (by decide), fun _ => ?_⟩
    rw [a.2.2] at main
    exact main
  · rw [a.2.1, show (12001 : Int32) = nI 12001 from rfl, pk_mul, nI_add, nI_clamp (by omega), (x3 y.1 a.1).1, nI_1, ← a.2.2.2]
    exact ⟨fun _ => ⟨vp_in_nI (by omega) (by decide), main⟩, fun c => absurd (nI_pos' (by omega)) c⟩
