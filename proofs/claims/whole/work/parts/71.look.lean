/-! the class looks around at a state -/
theorem RS_mono {a b : Nat} (h : a ≤ b) (hb : b ≤ 2) : RS a ≤ RS b := by
  rcases N1_c hb with ⟨e, _, _, e3⟩ | ⟨e, _, _, e3⟩ | ⟨e, _, _, e3⟩ <;> rcases N1_c (show a ≤ 2 by omega) with ⟨e', _, _, e3'⟩ | ⟨e', _, _, e3'⟩ | ⟨e', _, _, e3'⟩ <;> omega
theorem TS_mono {a b : Nat} (h : a ≤ b) (hb : b ≤ 2) : TS a ≤ TS b := by
  rcases N1_c hb with ⟨e, _, e3, _⟩ | ⟨e, _, e3, _⟩ | ⟨e, _, e3, _⟩ <;> rcases N1_c (show a ≤ 2 by omega) with ⟨e', _, e3', _⟩ | ⟨e', _, e3', _⟩ | ⟨e', _, e3', _⟩ <;> omega
theorem ES_mono {a b : Nat} (h : a ≤ b) (hb : b ≤ 4) : ES a ≤ ES b := by
  have h1 := E1_c hb
  have h2 := E1_c (show a ≤ 4 by omega)
  omega
theorem tl_mono {a b : Nat} (h : a ≤ b) : tl a ≤ tl b := by
  have h1 := tl_c a
  have h2 := tl_c b
  omega
theorem el_mono {a b : Nat} (h : a ≤ b) : el a ≤ el b := by
  have h1 := el_c a
  have h2 := el_c b
  omega
theorem tl_le (n : Nat) : tl n ≤ 2 := by
  have h1 := tl_c n
  omega
theorem el_le (n : Nat) : el n ≤ 4 := by
  have h1 := el_c n
  omega
def bI (b : Bool) : Int32 := if b = true then 1 else 0
def RT (r a : Nat) (X : Nat × (Nat → Nat × Nat) × (Nat → Nat × Nat × Nat) × Bool) (rmask rsize rcr : Int32) (n1 : Nat) (fme : Nat → Int64) (n2 : Nat) (fbu : Nat → Int64) (n3 : Nat) (fsl : Nat → Int32) (m1 : Nat) (ftr : Nat → Int32) (sc : Int32) : Prop :=
  RI r (xn X) (xq X) rmask rsize n1 fme n2 fbu n3 fsl ∧ TI a (xn X) (xtr X) m1 ftr sc ∧ rcr = bI (xc X)
noncomputable def eadd (na : Nat → Nat) (L : List Nat) (x : Nat × Nat) (i : Nat) : List Nat :=
  haveI := Classical.propDecidable (aend na x)
  L ++ (if aend na x then [x.1 % 2 ^ 40 * 2 ^ 14 + i] else [])
theorem eadd_y {na : Nat → Nat} {L : List Nat} {x : Nat × Nat} {i : Nat} (h : aend na x) : eadd na L x i = L ++ [x.1 % 2 ^ 40 * 2 ^ 14 + i] := by
  simp only [eadd]
  rw [if_pos h]
theorem eadd_n {na : Nat → Nat} {L : List Nat} {x : Nat × Nat} {i : Nat} (h : ¬ aend na x) : eadd na L x i = L := by
  simp only [eadd]
  rw [if_neg h, List.append_nil]
noncomputable def sadd (na co : Nat → Nat) (k S : Nat) (x : Nat × Nat) : Nat :=
  haveI := Classical.propDecidable (¬ aend na x ∧ ∀ s, s < 24 → stp na co k s x = none)
  if ¬ aend na x ∧ ∀ s, s < 24 → stp na co k s x = none then S + 1 else S
theorem sadd_y {na co : Nat → Nat} {k S : Nat} {x : Nat × Nat} (h : ¬ aend na x ∧ ∀ s, s < 24 → stp na co k s x = none) : sadd na co k S x = S + 1 := by
  simp only [sadd]
  rw [if_pos h]
theorem sadd_n {na co : Nat → Nat} {k S : Nat} {x : Nat × Nat} (h : ¬ (¬ aend na x ∧ ∀ s, s < 24 → stp na co k s x = none)) : sadd na co k S x = S := by
  simp only [sadd]
  rw [if_neg h]
theorem s_look14 {Post : Int32 → Int64 → Int64 → Int64 → Int64 → (Nat → Int32) → (Nat → Int32) → Int32 → Int32 → Int32 → Nat → (Nat → Int64) → Nat → (Nat → Int64) → Nat → (Nat → Int32) → Int32 → Int32 → Int32 → Int32 → Int32 → Int32 → Nat → (Nat → Int32) → Nat → (Nat → Int64) → (Nat → Int32) → Prop}
    {mc ms : Nat} {pc pl : Nat → Int32} {na co : Nat → Nat} {k i M B e eE rE aE S : Nat} {L : List Nat} {fr cr cc ec : Int32} {m2 : Nat} {fen : Nat → Int64} {fcu : Nat → Int32}
    (hP : PGc pc pl na co) (hk : k < 4) (hi : i < 12000) (hin : i < xn (xt na co k (24 * i))) (hx : xq (xt na co k (24 * i)) i = (M, B)) (hE : EI e L m2 fen ec) (hL : L.length ≤ i) (hS : S ≤ i)
    (heE : max e (el (eadd na L (M, B) i).length) = eE)
    (hPost : ∀ mnm mnb rmask rsize rcr n1 fme n2 fbu n3 fsl sc ec' m1 ftr m2' fen', RT rE aE (xt na co k (24 * i + 24)) rmask rsize rcr n1 fme n2 fbu n3 fsl m1 ftr sc → EI eE (eadd na L (M, B) i) m2' fen' ec' →
      Post (nI k) (lN M) (lN B) mnm mnb pc pl rmask rsize rcr n1 fme n2 fbu n3 fsl fr cr sc (nI (sadd na co k S (M, B))) cc ec' m1 ftr m2' fen' fcu) :
    ∀ (u s r a w ca sa : Nat) (mnm mnb : Int64) (rmask rsize rcr : Int32) (n1 : Nat) (fme : Nat → Int64) (n2 : Nat) (fbu : Nat → Int64) (n3 : Nat) (fsl : Nat → Int32) (sc : Int32) (m1 : Nat) (ftr : Nat → Int32),
      u + s = se k (M, B) → RT r a (xt na co k (24 * i + s)) rmask rsize rcr n1 fme n2 fbu n3 fsl m1 ftr sc → w ≤ s → (w = 0 ↔ ∀ s', s' < s → stp na co k s' (M, B) = none) →
      max r (rl (xn (xt na co k (24 * i + 24)))) = rE → max a (tl (xn (xt na co k (24 * i + 24)))) = aE → ca + 3 * (rE - r) + (aE - a) + (eE - e) ≤ mc → sa + (RS rE - RS r) + (TS aE - TS a) + (ES eE - ES e) ≤ ms →
      wp_EX_lookAround_14 Post mc ms (u + 1) (nI k) (lN M) (lN B) mnm mnb pc pl rmask rsize rcr n1 fme n2 fbu n3 fsl fr cr sc (nI S) cc ec m1 ftr m2 fen fcu (nI i) (nI w) (nI (se k (M, B))) (nI s) ca sa := by
  have hPN := PGc_PN hP
  have hse := se_le k (M, B)
  intro u
  induction u with
  | zero =>
    intro s r a w ca sa mnm mnb rmask rsize rcr n1 fme n2 fbu n3 fsl sc m1 ftr hus hR hws hw hrE haE hmc hms
    have hXI := XI_at (k := k) hPN i s (by omega)
    have hle := xle_t na co k (show 24 * i ≤ 24 * i + s by omega)
    have hin2 : i < xn (xt na co k (24 * i + s)) := Nat.lt_of_lt_of_le hin hle.1
    have hx2 : xq (xt na co k (24 * i + s)) i = (M, B) := by rw [(hle.2.1 i hin).1, hx]
    have hVx := hXI.2.2.2.1 i hin2
    rw [hx2] at hVx
    have hXe := xt_se hk hin2 hx2 (by omega) 24 (by omega) (Nat.le_refl _)
    have hr : rl (xn (xt na co k (24 * i + s))) ≤ r := hR.1.2.1
    have ha : tl (xn (xt na co k (24 * i + s))) ≤ a := hR.2.1.2.1
    rw [hXe] at hrE haE hPost
    have er : rE = r := by omega
    have ea : aE = a := by omega
    subst er ea
    have hw0 : w = 0 ↔ ∀ s', s' < 24 → stp na co k s' (M, B) = none := by
      rw [hw]
      exact ⟨fun h s' hs' => by
        by_cases c : s' < s
        · exact h s' c
        · exact stp_none hk (by omega) hs', fun h s' hs' => h s' (by omega)⟩
    rw [wp_EX_lookAround_14]
    refine pk_le (se k (M, B)) s (fun _ => ⟨by omega, by omega, ?_⟩) (fun c => by omega)
    refine s_isAtEnd hP hVx.1.1 hVx.1.2.1 (fun he => ?_) (fun he => ?_)
    · refine ⟨fun c => absurd c (by decide), fun _ => ⟨by omega, by omega, ?_⟩⟩
      refine s_outcomeHere hVx.1.1 ?_
      have hea := eadd_y (L := L) (i := i) he
      simp only at hea
      rw [hea] at heE hPost
      rw [sadd_n (fun c => c.1 he)] at hPost
      have hll : (L ++ [M % 2 ^ 40 * 2 ^ 14 + i]).length = L.length + 1 := by simp
      rw [hll] at heE
      refine ⟨eE - e, ES eE - ES e, by omega, by omega, ?_⟩
      refine s_addEnd (o := M % 2 ^ 40) hE (by omega) hi (Nat.mod_lt _ (by decide)) (by rw [heE]; exact Nat.le_refl _) (by rw [heE]; exact Nat.le_refl _) (fun m2' fen' ec' hE' => ⟨by omega, by omega, ?_⟩)
      rw [heE] at hE'
      exact hPost _ _ _ _ _ _ _ _ _ _ _ _ _ _ _ _ _ hR hE'
    · have hea := eadd_n (L := L) (i := i) he
      rw [hea] at heE hPost
      have hee : eE = e := by
        have := hE.2.1
        omega
      subst hee
      refine ⟨fun _ => ?_, fun c => absurd rfl c⟩
      rw [nI_z0 (by omega)]
      refine ⟨fun c => ⟨by omega, by omega, ?_⟩, fun c x17 e17 => ⟨by omega, by omega, ?_⟩⟩
      · rw [sadd_n (fun c2 => c (hw0.mpr c2.2))] at hPost
        exact hPost _ _ _ _ _ _ _ _ _ _ _ _ _ _ _ _ _ hR hE
      · rw [sadd_y ⟨he, hw0.mp c⟩] at hPost
        rw [nI_1] at e17
        rw [e17]
        exact hPost _ _ _ _ _ _ _ _ _ _ _ _ _ _ _ _ _ hR hE
  | succ u ih =>
    intro s r a w ca sa mnm mnb rmask rsize rcr n1 fme n2 fbu n3 fsl sc m1 ftr hus hR hws hw hrE haE hmc hms
    have hXI := XI_at (k := k) hPN i s (by omega)
    have hle := xle_t na co k (show 24 * i ≤ 24 * i + s by omega)
    have hin2 : i < xn (xt na co k (24 * i + s)) := Nat.lt_of_lt_of_le hin hle.1
    have hx2 : xq (xt na co k (24 * i + s)) i = (M, B) := by rw [(hle.2.1 i hin).1, hx]
    have hVx := hXI.2.2.2.1 i hin2
    rw [hx2] at hVx
    have hsucc := xt_succ na co k i (show s < 24 by omega)
    have hle2 := xle_t na co k (show 24 * i + (s + 1) ≤ 24 * i + 24 by omega)
    have hr : rl (xn (xt na co k (24 * i + s))) ≤ r := hR.1.2.1
    have ha : tl (xn (xt na co k (24 * i + s))) ≤ a := hR.2.1.2.1
    have hr2 : r ≤ 2 := hR.1.1
    have ha2 : a ≤ 2 := hR.2.1.1
    -- the next state of the exploration
    have ih2 := ih (s + 1)
    generalize hXe : xt na co k (24 * i + s) = X at hR hXI hle hin2 hx2 hsucc hr ha
    generalize hYe : xt na co k (24 * i + (s + 1)) = Y at hsucc hle2 ih2
    have hrY := rl_mono hle2.1
    have htY := tl_mono hle2.1
    have hrZ := rl_le (xn (xt na co k (24 * i + 24)))
    have htZ := tl_le (xn (xt na co k (24 * i + 24)))
    generalize xn (xt na co k (24 * i + 24)) = nE at hrE haE hrY htY ih2 hrZ htZ
    rw [wp_EX_lookAround_14]
    refine pk_le (se k (M, B)) s (fun c => by omega) (fun _ => ⟨by omega, by omega, ?_⟩)
    refine s_go hP hk hVx (by omega) (fun M' B' hst => ?_) (fun hst x y => ?_)
    · -- a step that can be done
      have hok := stp_ok hPN (show s < 24 by omega) hVx hst
      have hw1 : (w + 1 = 0 ↔ ∀ s', s' < s + 1 → stp na co k s' (M, B) = none) := by
        refine ⟨fun c => by omega, fun c => ?_⟩
        have := c s (by omega)
        rw [hst] at this
        cases this
      have hY : Y = if xc X = true then X else xadd X (M', B') i s := by
        rw [hsucc]
        simp only [xone, hx2, hst]
        by_cases c : xc X = true
        · rw [if_pos (Or.inl c), if_pos c]
        · rw [if_neg (fun h => h.elim c (fun h => by omega)), if_neg c]
      refine ⟨fun c => absurd c (by decide), fun _ x50 e50 => ?_⟩
      rw [nI_1] at e50
      subst e50
      by_cases hold : isin X (M', B')
      · have hYX : Y = X := by
          rw [hY, xadd_old hold, ite_self]
        refine ⟨0, 0, by omega, by omega, ?_⟩
        refine s_add (x := (M', B')) hR.1 (by have := hok.1.1; simp only at this ⊢; omega) (by have := hok.1.2.1; simp only at this ⊢; omega) (fun _ => ?_) (fun c => absurd hold c) (fun c => absurd hold c) (fun c => absurd hold c)
        refine ⟨fun _ => ?_, fun c => absurd rfl c⟩
        rw [wp_EX_lookAround_67]
        intro x82 e82
        rw [nI_1] at e82
        rw [e82]
        refine ih2 r a (w + 1) _ _ _ _ _ _ _ _ _ _ _ _ _ _ _ _ (by omega) ?_ (by omega) hw1 hrE haE (by omega) (by omega)
        rw [hYX]
        exact hR
      · by_cases hfull : xn X = 12000
        · have hYc : xn Y = xn X ∧ xq Y = xq X ∧ xtr Y = xtr X ∧ xc Y = true := by
            by_cases c : xc X = true
            · rw [hY, if_pos c]
              exact ⟨rfl, rfl, rfl, c⟩
            · rw [hY, if_neg c, xadd_full hold hfull]
              exact ⟨rfl, rfl, rfl, rfl⟩
          refine ⟨0, 0, by omega, by omega, ?_⟩
          refine s_add (x := (M', B')) hR.1 (by have := hok.1.1; simp only at this ⊢; omega) (by have := hok.1.2.1; simp only at this ⊢; omega) (fun c => absurd c hold) (fun _ _ => ?_) (fun _ c => by omega) (fun _ c => by omega)
          refine ⟨fun _ => ?_, fun c => absurd rfl c⟩
          rw [wp_EX_lookAround_67]
          intro x82 e82
          rw [nI_1] at e82
          rw [e82]
          refine ih2 r a (w + 1) _ _ _ _ _ _ _ _ _ _ _ _ _ _ _ _ (by omega) ?_ (by omega) hw1 hrE haE (by omega) (by omega)
          refine ⟨?_, ?_, ?_⟩
          · rw [hYc.1, hYc.2.1]
            exact hR.1
          · rw [hYc.1, hYc.2.2.1]
            exact hR.2.1
          · rw [hYc.2.2.2]
            rfl
        · have hcX : ¬ xc X = true := fun c => hfull (hXI.2.2.1 c)
          have hn2 := hXI.2.1
          rw [if_neg hcX, xadd_new hold hfull] at hY
          have hYn : xn Y = xn X + 1 := by rw [hY]; rfl
          have hYq : xq Y = upQ (xq X) (xn X) (M', B') := by rw [hY]; rfl
          have hYt : xtr Y = fun j => if j = xn X then (i, s, xd X i + 1) else xtr X j := by rw [hY]; rfl
          have hYc : xc Y = xc X := by rw [hY]; rfl
          rw [hYn] at hrY htY
          have r1 := RS_mono (show r ≤ max r (rl (xn X + 1)) by omega) (by have := rl_le (xn X + 1); omega)
          have r2 := RS_mono (show max r (rl (xn X + 1)) ≤ rE by omega) (by omega)
          have t1 := TS_mono (show a ≤ max a (tl (xn X + 1)) by omega) (by have := tl_le (xn X + 1); omega)
          have t2 := TS_mono (show max a (tl (xn X + 1)) ≤ aE by omega) (by omega)
          refine ⟨3 * (max r (rl (xn X + 1)) - r), RS (max r (rl (xn X + 1))) - RS r, by omega, by omega, ?_⟩
          refine s_add (x := (M', B')) hR.1 (by have := hok.1.1; simp only at this ⊢; omega) (by have := hok.1.2.1; simp only at this ⊢; omega) (fun c => absurd c hold) (fun _ c => absurd c hfull) (fun _ _ => ⟨Nat.le_refl _, Nat.le_refl _⟩) (fun _ _ rmask' n1' fme' n2' fbu' n3' fsl' hR' => ?_)
          refine ⟨fun c => absurd c (by decide), fun _ => ⟨max a (tl (xn X + 1)) - a, TS (max a (tl (xn X + 1))) - TS a, by omega, by omega, ?_⟩⟩
          refine s_addState hR.2.1 (by omega) hi (by omega) (Nat.le_refl _) (Nat.le_refl _) (fun m1' ftr' hm1 hf1 hf2 => ?_)
          rw [wp_EX_lookAround_67]
          intro x82 e82
          rw [nI_1] at e82
          rw [e82]
          refine ih2 (max r (rl (xn X + 1))) (max a (tl (xn X + 1))) (w + 1) _ _ _ _ _ _ _ _ _ _ _ _ _ _ _ _ (by omega) ?_ (by omega) hw1 (by omega) (by omega) (by omega) (by omega)
          refine ⟨?_, ⟨by have := tl_le (xn X + 1); omega, by rw [hYn]; omega, hm1, by rw [hYn], fun j hj => ?_⟩, ?_⟩
          · rw [hYn, hYq]
            exact hR'
          · rw [hYn] at hj
            rw [hYt]
            by_cases ej : j = xn X
            · subst ej
              rw [hf2]
              simp only [if_true]
            · rw [hf1 j (by omega)]
              simp only
              rw [if_neg ej]
          · rw [hYc]
            exact hR.2.2
    · -- a step that can't
      refine ⟨fun _ => ?_, fun c => absurd rfl c⟩
      have hYX : Y = X := by
        rw [hsucc]
        simp only [xone, hx2, hst, ite_self]
      rw [wp_EX_lookAround_67]
      intro x82 e82
      rw [nI_1] at e82
      rw [e82]
      refine ih2 r a w _ _ _ _ _ _ _ _ _ _ _ _ _ _ _ _ (by omega) ?_ (by omega) ?_ hrE haE (by omega) (by omega)
      · rw [hYX]
        exact hR
      · rw [hw]
        exact ⟨fun h s' hs' => by
          by_cases c : s' = s
          · rw [c]
            exact hst
          · exact h s' (by omega), fun h s' hs' => h s' (by omega)⟩
theorem s_look {Post : Int32 → Int64 → Int64 → Int64 → Int64 → (Nat → Int32) → (Nat → Int32) → Int32 → Int32 → Int32 → Nat → (Nat → Int64) → Nat → (Nat → Int64) → Nat → (Nat → Int32) → Int32 → Int32 → Int32 → Int32 → Int32 → Int32 → Nat → (Nat → Int32) → Nat → (Nat → Int64) → (Nat → Int32) → Prop}
    {mc ms : Nat} {pc pl : Nat → Int32} {na co : Nat → Nat} {k i M B e eE rE aE S r a : Nat} {L : List Nat} {fr cr cc ec : Int32} {m2 : Nat} {fen : Nat → Int64} {fcu : Nat → Int32} {mnm mnb : Int64} {rmask rsize rcr : Int32} {n1 : Nat} {fme : Nat → Int64} {n2 : Nat} {fbu : Nat → Int64} {n3 : Nat} {fsl : Nat → Int32} {sc : Int32} {m1 : Nat} {ftr : Nat → Int32}
    (hP : PGc pc pl na co) (hk : k < 4) (hi : i < 12000) (hin : i < xn (xt na co k (24 * i))) (hx : xq (xt na co k (24 * i)) i = (M, B)) (hE : EI e L m2 fen ec) (hL : L.length ≤ i) (hS : S ≤ i)
    (heE : max e (el (eadd na L (M, B) i).length) = eE) (hR : RT r a (xt na co k (24 * i)) rmask rsize rcr n1 fme n2 fbu n3 fsl m1 ftr sc)
    (hrE : max r (rl (xn (xt na co k (24 * i + 24)))) = rE) (haE : max a (tl (xn (xt na co k (24 * i + 24)))) = aE) (hmc : 3 * (rE - r) + (aE - a) + (eE - e) ≤ mc) (hms : (RS rE - RS r) + (TS aE - TS a) + (ES eE - ES e) ≤ ms)
    (hPost : ∀ mnm mnb rmask rsize rcr n1 fme n2 fbu n3 fsl sc ec' m1 ftr m2' fen', RT rE aE (xt na co k (24 * i + 24)) rmask rsize rcr n1 fme n2 fbu n3 fsl m1 ftr sc → EI eE (eadd na L (M, B) i) m2' fen' ec' →
      Post (nI k) (lN M) (lN B) mnm mnb pc pl rmask rsize rcr n1 fme n2 fbu n3 fsl fr cr sc (nI (sadd na co k S (M, B))) cc ec' m1 ftr m2' fen' fcu) :
    wp_EX_lookAround Post mc ms (nI k) (lN M) (lN B) mnm mnb pc pl rmask rsize rcr n1 fme n2 fbu n3 fsl fr cr sc (nI S) cc ec m1 ftr m2 fen fcu (nI i) := by
  have hPN := PGc_PN hP
  have hXI := XI_at (k := k) hPN i 0 (by omega)
  rw [Nat.add_zero] at hXI
  have hVx := hXI.2.2.2.1 i hin
  rw [hx] at hVx
  rw [wp_EX_lookAround]
  refine ⟨by omega, by omega, s_stepsEnd hk hVx.1.2.1 ⟨se k (M, B) + 1, ?_⟩⟩
  exact s_look14 hP hk hi hin hx hE hL hS heE hPost (se k (M, B)) 0 r a 0 0 0 _ _ _ _ _ _ _ _ _ _ _ _ _ _ (by omega) hR (Nat.le_refl _) ⟨fun _ s' hs' => by omega, fun _ => rfl⟩ hrE haE (by omega) (by omega)
