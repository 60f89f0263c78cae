/-! the class explores a kind -/
noncomputable def eL (na : Nat → Nat) (F : Nat × (Nat → Nat × Nat) × (Nat → Nat × Nat × Nat) × Bool) : Nat → List Nat
  | 0 => []
  | i + 1 => eadd na (eL na F i) (xq F i) i
noncomputable def skX (na co : Nat → Nat) (k : Nat) (F : Nat × (Nat → Nat × Nat) × (Nat → Nat × Nat × Nat) × Bool) : Nat → Nat
  | 0 => 0
  | i + 1 => sadd na co k (skX na co k F i) (xq F i)
def csX (F : Nat × (Nat → Nat × Nat) × (Nat → Nat × Nat × Nat) × Bool) : Nat → Nat → Nat
  | 0 => fun _ => 0
  | i + 1 => ctN (csX F i) ((xq F i).1 % 256) (xd F i)
theorem eL_le (na : Nat → Nat) (F : Nat × (Nat → Nat × Nat) × (Nat → Nat × Nat × Nat) × Bool) (i : Nat) : (eL na F i).length ≤ i := by
  induction i with
  | zero => exact Nat.le_refl _
  | succ i ih =>
    simp only [eL]
    by_cases h : aend na (xq F i)
    · rw [eadd_y h]
      simp
      exact ih
    · rw [eadd_n h]
      omega
theorem eL_mono (na : Nat → Nat) (F : Nat × (Nat → Nat × Nat) × (Nat → Nat × Nat × Nat) × Bool) {i j : Nat} (h : i ≤ j) : (eL na F i).length ≤ (eL na F j).length := by
  induction j with
  | zero =>
    rw [show i = 0 by omega]
    exact Nat.le_refl _
  | succ j ih =>
    by_cases e : i = j + 1
    · rw [e]
      exact Nat.le_refl _
    · refine Nat.le_trans (ih (by omega)) ?_
      simp only [eL]
      by_cases h : aend na (xq F j)
      · rw [eadd_y h]
        simp
      · rw [eadd_n h]
        exact Nat.le_refl _
theorem skX_le (na co : Nat → Nat) (k : Nat) (F : Nat × (Nat → Nat × Nat) × (Nat → Nat × Nat × Nat) × Bool) (i : Nat) : skX na co k F i ≤ i := by
  induction i with
  | zero => exact Nat.le_refl _
  | succ i ih =>
    simp only [skX]
    by_cases h : ¬ aend na (xq F i) ∧ ∀ s, s < 24 → stp na co k s (xq F i) = none
    · rw [sadd_y h]
      omega
    · rw [sadd_n h]
      omega
/-- where the exploration ends -/
def stopP (na co : Nat → Nat) (k i : Nat) : Prop := 12000 ≤ i ∨ xc (xt na co k (24 * i)) = true ∨ xn (xt na co k (24 * i)) ≤ i
theorem stop_ex (na co : Nat → Nat) (k : Nat) : ∃ i, stopP na co k i ∧ ∀ j, j < i → ¬ stopP na co k j := pk_least _ ⟨12000, Or.inl (Nat.le_refl _)⟩
noncomputable def iE (na co : Nat → Nat) (k : Nat) : Nat := Classical.choose (stop_ex na co k)
theorem iE_p (na co : Nat → Nat) (k : Nat) : stopP na co k (iE na co k) ∧ ∀ j, j < iE na co k → ¬ stopP na co k j := Classical.choose_spec (stop_ex na co k)
theorem iE_le (na co : Nat → Nat) (k : Nat) : iE na co k ≤ 12000 := by
  by_cases h : 12000 < iE na co k
  · exact absurd (Or.inl (Nat.le_refl _)) ((iE_p na co k).2 12000 h)
  · omega
/-- the whole exploration -/
noncomputable def xF (na co : Nat → Nat) (k : Nat) : Nat × (Nat → Nat × Nat) × (Nat → Nat × Nat × Nat) × Bool := xt na co k (24 * iE na co k)
theorem iE_x (na co : Nat → Nat) (k : Nat) : xt na co k (24 * iE na co k) = xF na co k := rfl
theorem XI_F {na co : Nat → Nat} {k : Nat} (hP : PN na co) : XI na k (xF na co k) (iE na co k) := by
  have := XI_at (k := k) hP (iE na co k) 0 (by omega)
  rw [Nat.add_zero, iE_x] at this
  exact this
theorem iE_n {na co : Nat → Nat} {k : Nat} (hP : PN na co) (h : ¬ xc (xF na co k) = true) : iE na co k = xn (xF na co k) := by
  have h1 := iE_p na co k
  have h2 := iE_le na co k
  have h3 := XI_F (k := k) hP
  have a : xn (xF na co k) ≤ iE na co k := by
    rcases h1.1 with c | c | c
    · have := h3.2.1
      omega
    · rw [iE_x] at c
      exact absurd c h
    · rw [iE_x] at c
      exact c
  have b : iE na co k ≤ xn (xF na co k) := by
    by_cases c : iE na co k = 0
    · omega
    · have h4 := h1.2 (iE na co k - 1) (by omega)
      have h5 : ¬ xn (xt na co k (24 * (iE na co k - 1))) ≤ iE na co k - 1 := fun c => h4 (Or.inr (Or.inr c))
      have h6 := (xle_t na co k (show 24 * (iE na co k - 1) ≤ 24 * iE na co k by omega)).1
      rw [iE_x] at h6
      omega
  omega
/-- the states found at index i are one deeper -/
theorem xnew_d {na co : Nat → Nat} {k i : Nat} (hin : i < xn (xt na co k (24 * i))) : ∀ s, s ≤ 24 → ∀ j, xn (xt na co k (24 * i)) ≤ j → j < xn (xt na co k (24 * i + s)) → xd (xt na co k (24 * i + s)) j = xd (xt na co k (24 * i)) i + 1 := by
  intro s
  induction s with
  | zero => intro _ j h1 h2; rw [Nat.add_zero] at h2; omega
  | succ s ih =>
    intro hs j h1 h2
    have hle := xle_t na co k (show 24 * i ≤ 24 * i + s by omega)
    have hdi : xd (xt na co k (24 * i + s)) i = xd (xt na co k (24 * i)) i := by
      simp only [xd]
      rw [(hle.2.1 i hin).2]
    have ih2 := ih (by omega) j h1
    rw [xt_succ na co k i (by omega)] at h2 ⊢
    generalize xt na co k (24 * i + s) = X at h2 ih2 hdi ⊢
    simp only [xone] at h2 ⊢
    split at h2
    · rename_i hc
      rw [if_pos hc]
      exact ih2 h2
    · rename_i hc
      rw [if_neg hc]
      split at h2
      · exact ih2 h2
      · rename_i y hst
        by_cases hi : isin X y
        · rw [xadd_old hi] at h2 ⊢
          exact ih2 h2
        · by_cases hf : xn X = 12000
          · rw [xadd_full hi hf] at h2 ⊢
            exact ih2 h2
          · rw [xadd_new hi hf] at h2 ⊢
            have h3 : j < xn X + 1 := h2
            show ((fun j => if j = xn X then (i, s, xd X i + 1) else xtr X j) j).2.2 = _
            simp only
            by_cases ej : j = xn X
            · rw [if_pos ej, hdi]
            · rw [if_neg ej]
              exact ih2 (by omega)
/-- what a kind's findings hold of the exploration F, ended at the index n -/
def FK (na co : Nat → Nat) (k a e : Nat) (F : Nat × (Nat → Nat × Nat) × (Nat → Nat × Nat × Nat) × Bool) (n : Nat) (w : Nat → Nat) (cr sc sk cc ec : Int32) (m1 : Nat) (ftr : Nat → Int32) (m2 : Nat) (fen : Nat → Int64) (fcu : Nat → Int32) : Prop :=
  TI a (xn F) (xtr F) m1 ftr sc ∧ (e ≤ 4 ∧ m2 = E1 e ∧ (eL na F n).length ≤ m2) ∧ ec = nI (eL na F n).length ∧ AH (eL na F n).length w fen ∧ SO (eL na F n).length w (fun j => (eL na F n).getD j 0) ∧ ST (eL na F n).length w ∧ sk = nI (skX na co k F n) ∧ CI (csX F n) fcu cc ∧ cr = bI (xc F)
theorem eL_lt {na : Nat → Nat} {F : Nat × (Nat → Nat × Nat) × (Nat → Nat × Nat × Nat) × Bool} : ∀ (i j : Nat), i ≤ 12000 → j < (eL na F i).length → (eL na F i).getD j 0 < 2 ^ 54 := by
  intro i
  induction i with
  | zero => intro j _ h; exact absurd h (Nat.not_lt_zero _)
  | succ i ih =>
    intro j hi hj
    simp only [eL] at hj ⊢
    by_cases h : aend na (xq F i)
    · rw [eadd_y h] at hj ⊢
      simp only [List.length_append, List.length_cons, List.length_nil] at hj
      by_cases e : j < (eL na F i).length
      · rw [List.getD_eq_getElem?_getD, List.getElem?_append_left e, ← List.getD_eq_getElem?_getD]
        exact ih j (by omega) e
      · rw [List.getD_eq_getElem?_getD, List.getElem?_append_right (by omega), show j - (eL na F i).length = 0 by omega]
        simp only [List.getElem?_cons_zero, Option.getD_some]
        have := Nat.mod_lt (xq F i).1 (show 0 < 2 ^ 40 by decide)
        omega
    · rw [eadd_n h] at hj ⊢
      exact ih j (by omega) hj
set_option maxHeartbeats 8000000 in
theorem s_expl45 {Post : Int32 → Int64 → Int64 → Int64 → Int64 → (Nat → Int32) → (Nat → Int32) → Int32 → Int32 → Int32 → Nat → (Nat → Int64) → Nat → (Nat → Int64) → Nat → (Nat → Int32) → Int32 → Int32 → Int32 → Int32 → Int32 → Int32 → Nat → (Nat → Int32) → Nat → (Nat → Int64) → (Nat → Int32) → Prop}
    {mc ms : Nat} {pc pl : Nat → Int32} {na co : Nat → Nat} {k rF aF eF : Nat} {fr cr : Int32}
    (hP : PGc pc pl na co) (hk : k < 4)
    (hPost : ∀ mme mbu mnm mnb rmask rsize rcr n1 fme n2 fbu n3 fsl sc sk cc ec m1 ftr m2 fen fcu w, RI rF (xn (xF na co k)) (xq (xF na co k)) rmask rsize n1 fme n2 fbu n3 fsl → FK na co k aF eF (xF na co k) (iE na co k) w rcr sc sk cc ec m1 ftr m2 fen fcu →
      Post (nI k) mme mbu mnm mnb pc pl rmask rsize rcr n1 fme n2 fbu n3 fsl fr rcr sc sk cc ec m1 ftr m2 fen fcu) :
    ∀ (u i r a e ca sa dp de : Nat) (mme mbu mnm mnb : Int64) (rmask rsize rcr : Int32) (n1 : Nat) (fme : Nat → Int64) (n2 : Nat) (fbu : Nat → Int64) (n3 : Nat) (fsl : Nat → Int32) (sc cc ec : Int32) (m1 : Nat) (ftr : Nat → Int32) (m2 : Nat) (fen : Nat → Int64) (fcu : Nat → Int32),
      u + i = iE na co k → RT r a (xt na co k (24 * i)) rmask rsize rcr n1 fme n2 fbu n3 fsl m1 ftr sc → EI e (eL na (xF na co k) i) m2 fen ec → CI (csX (xF na co k) i) fcu cc →
      (i ≤ de ∧ de ≤ xn (xt na co k (24 * i)) ∧ (∀ j, i ≤ j → j < de → xd (xF na co k) j = dp) ∧ ∀ j, de ≤ j → j < xn (xt na co k (24 * i)) → xd (xF na co k) j = dp + 1) →
      max r (rl (xn (xF na co k))) = rF → max a (tl (xn (xF na co k))) = aF → max e (el (eL na (xF na co k) (iE na co k)).length) = eF → ca + 3 * (rF - r) + (aF - a) + (eF - e) ≤ mc → sa + (RS rF - RS r) + (TS aF - TS a) + (ES eF - ES e) ≤ ms →
      wp_EX_explore_45 Post mc ms (u + 1) (nI k) mme mbu mnm mnb pc pl rmask rsize rcr n1 fme n2 fbu n3 fsl fr cr sc (nI (skX na co k (xF na co k) i)) cc ec m1 ftr m2 fen fcu (nI dp) (nI de) (nI i) ca sa := by
  have hPN := PGc_PN hP
  have hiE := iE_le na co k
  intro u
  induction u with
  | zero =>
    intro i r a e ca sa dp de mme mbu mnm mnb rmask rsize rcr n1 fme n2 fbu n3 fsl sc cc ec m1 ftr m2 fen fcu hui hR hE hC hD hrF haF heF hmc hms
    have hi : i = iE na co k := by omega
    have hp := (iE_p na co k).1
    have hx := iE_x na co k
    have hn := (XI_F (k := k) hPN).2.1
    rw [← hi] at hp hx heF
    rw [hx] at hR
    simp only [stopP] at hp
    rw [hx] at hp
    have er : rF = r := by
      have := hR.1.2.1
      omega
    have ea : aF = a := by
      have := hR.2.1.2.1
      omega
    have ee : eF = e := by
      have := hE.2.1
      omega
    subst er ea ee
    have fin : wp_EX_explore_149 Post mc ms (nI k) mme mbu mnm mnb pc pl rmask rsize rcr n1 fme n2 fbu n3 fsl fr cr sc (nI (skX na co k (xF na co k) i)) cc ec m1 ftr m2 fen fcu ca sa := by
      rw [wp_EX_explore_149]
      obtain ⟨h1, h2, h3, h4, h5, h6⟩ := hE
      have hm2 : (eL na (xF na co k) i).length ≤ m2 ∧ m2 < 2 ^ 31 := by
        rw [h3]
        have c1 := el_c (eL na (xF na co k) i).length
        have c2 := E1_c h1
        omega
      refine ⟨?_, by omega, by omega, ?_⟩
      · rw [hR.2.2]
        cases xc (xF na co k)
        · exact Or.inl rfl
        · exact Or.inr rfl
      · rw [h4]
        refine s_sortEnds (v0 := fun j => (eL na (xF na co k) i).getD j 0) hm2.1 hm2.2 (fun j hj => ⟨h6 j hj, by
          have := eL_lt (na := na) (F := xF na co k) i j (by omega) hj
          simp only
          omega⟩) (fun fen' w hA hS hT => ⟨by omega, by omega, ?_⟩)
        refine hPost _ _ _ _ _ _ _ _ _ _ _ _ _ _ _ _ _ _ _ _ _ _ w hR.1 ?_
        rw [← hi]
        exact ⟨hR.2.1, ⟨h1, h3, hm2.1⟩, rfl, hA, hS, hT, rfl, hC, hR.2.2⟩
    have hn1 : rsize = nI (xn (xF na co k)) := hR.1.2.2.2.2.2.2.2.1
    rw [wp_EX_explore_45]
    refine pk_le 12000 i (fun _ => fin) (fun c => ?_)
    rw [hn1] at fin ⊢
    refine pk_le (xn (xF na co k)) i (fun _ => fin) (fun c2 => ?_)
    have hc : xc (xF na co k) = true := by
      rcases hp with h | h | h
      · omega
      · exact h
      · omega
    have hrcr : rcr = 1 := by
      rw [hR.2.2, hc]
      rfl
    rw [hrcr] at fin ⊢
    exact ⟨fun c => absurd c (by decide), fun _ => fin⟩
  | succ u ih =>
    intro i r a e ca sa dp de mme mbu mnm mnb rmask rsize rcr n1 fme n2 fbu n3 fsl sc cc ec m1 ftr m2 fen fcu hui hR hE hC hD hrF haF heF hmc hms
    have hp : ¬ stopP na co k i := (iE_p na co k).2 i (by omega)
    have hi : i < 12000 := by
      by_cases c : i < 12000
      · exact c
      · exact absurd (Or.inl (by omega)) hp
    have hcY : ¬ xc (xt na co k (24 * i)) = true := fun c => hp (Or.inr (Or.inl c))
    have hin : i < xn (xt na co k (24 * i)) := by
      by_cases c : i < xn (xt na co k (24 * i))
      · exact c
      · exact absurd (Or.inr (Or.inr (by omega))) hp
    have hXI := XI_at (k := k) hPN i 0 (by omega)
    rw [Nat.add_zero] at hXI
    have hleF := xle_t na co k (show 24 * i ≤ 24 * iE na co k by omega)
    rw [iE_x] at hleF
    have hleF2 := xle_t na co k (show 24 * i + 24 ≤ 24 * iE na co k by omega)
    rw [iE_x] at hleF2
    have hleS := xle_t na co k (show 24 * i ≤ 24 * i + 24 by omega)
    have hqF : xq (xF na co k) i = xq (xt na co k (24 * i)) i := (hleF.2.1 i hin).1
    have hdF : xd (xF na co k) i = xd (xt na co k (24 * i)) i := by
      simp only [xd]
      rw [(hleF.2.1 i hin).2]
    have hVx := hXI.2.2.2.1 i hin
    have hd40 : xd (xt na co k (24 * i)) i ≤ 40 := xd_le hPN.1 hXI hin
    have hrsz : rsize = nI (xn (xt na co k (24 * i))) := hR.1.2.2.2.2.2.2.2.1
    have hXn := hXI.2.1
    obtain ⟨gm, gb, _, _⟩ := hR.1.2.2.2.2.2.2.2.2.1 i hin
    have hn1e : n1 = N1 r := hR.1.2.2.2.1
    have hn2e : n2 = N1 r := hR.1.2.2.2.2.1
    have hnN := N1_rl' hR.1.2.1 hR.1.2.2.1
    have hN1 := N1_lt r
    have hr2 : r ≤ 2 := hR.1.1
    have ha2 : a ≤ 2 := hR.2.1.1
    have he4 : e ≤ 4 := hE.1
    generalize hxe : xq (xt na co k (24 * i)) i = x at *
    obtain ⟨M, B⟩ := x
    -- the body, at depth dp' and end de'
    have body : ∀ dp' de' : Nat, xd (xF na co k) i = dp' → (i < de' ∧ de' ≤ xn (xt na co k (24 * i)) ∧ (∀ j, i ≤ j → j < de' → xd (xF na co k) j = dp') ∧ ∀ j, de' ≤ j → j < xn (xt na co k (24 * i)) → xd (xF na co k) j = dp' + 1) →
        wp_EX_explore_97 Post mc ms (fun (mki : Int32) (mme : Int64) (mbu : Int64) (mnm : Int64) (mnb : Int64) (pc : Nat → Int32) (pl : Nat → Int32) (rmask : Int32) (rsize : Int32) (rcr : Int32) (n1 : Nat) (fme : Nat → Int64) (n2 : Nat) (fbu : Nat → Int64) (n3 : Nat) (fsl : Nat → Int32) (fr : Int32) (cr : Int32) (sc : Int32) (sk : Int32) (cc : Int32) (ec : Int32) (m1 : Nat) (ftr : Nat → Int32) (m2 : Nat) (fen : Nat → Int64) (fcu : Nat → Int32) (L3 : Int32) (L4 : Int32) (L5 : Int32) (ca : Nat) (sa : Nat) => wp_EX_explore_45 Post mc ms (u + 1) mki mme mbu mnm mnb pc pl rmask rsize rcr n1 fme n2 fbu n3 fsl fr cr sc sk cc ec m1 ftr m2 fen fcu L3 L4 L5 ca sa) (nI k) mme mbu mnm mnb pc pl rmask rsize rcr n1 fme n2 fbu n3 fsl fr cr sc (nI (skX na co k (xF na co k) i)) cc ec m1 ftr m2 fen fcu (nI dp') (nI de') (nI i) ca sa := by
      intro dp' de' hdp hD'
      rw [wp_EX_explore_97, nI_clamp (by omega), gm, gb]
      refine ⟨vp_in_nI (by omega) (by omega), vp_in_nI (by omega) (by omega), by omega, by omega, ?_⟩
      rw [wp_MA_standAt]
      refine ⟨by omega, by omega, s_cutHere hVx.1.1 ⟨by omega, by omega, ?_⟩⟩
      refine s_addCut hC (Nat.mod_lt _ (by decide)) (by omega) (fun fcu' cc' hC' => ?_)
      have eEq : eL na (xF na co k) (i + 1) = eadd na (eL na (xF na co k) i) (M, B) i := by
        simp only [eL]
        rw [hqF]
      have sEq : skX na co k (xF na co k) (i + 1) = sadd na co k (skX na co k (xF na co k) i) (M, B) := by
        simp only [skX]
        rw [hqF]
      have cEq : csX (xF na co k) (i + 1) = ctN (csX (xF na co k) i) (M % 256) dp' := by
        simp only [csX]
        rw [hqF, hdp]
      have eM := el_mono (eL_mono na (xF na co k) (show i + 1 ≤ iE na co k by omega))
      have eM2 := el_le (eL na (xF na co k) (iE na co k)).length
      have rM := rl_mono hleF2.1
      have tM := tl_mono hleF2.1
      have rM2 := rl_le (xn (xF na co k))
      have tM2 := tl_le (xn (xF na co k))
      generalize hrE : max r (rl (xn (xt na co k (24 * i + 24)))) = rE
      generalize haE : max a (tl (xn (xt na co k (24 * i + 24)))) = aE
      generalize heE : max e (el (eadd na (eL na (xF na co k) i) (M, B) i).length) = eE
      rw [eEq] at eM
      have r1 := RS_mono (show r ≤ rE by omega) (by omega)
      have r2 := RS_mono (show rE ≤ rF by omega) (by omega)
      have t1 := TS_mono (show a ≤ aE by omega) (by omega)
      have t2 := TS_mono (show aE ≤ aF by omega) (by omega)
      have s1 := ES_mono (show e ≤ eE by omega) (by omega)
      have s2 := ES_mono (show eE ≤ eF by omega) (by omega)
      refine ⟨3 * (rE - r) + (aE - a) + (eE - e), (RS rE - RS r) + (TS aE - TS a) + (ES eE - ES e), by omega, by omega, ?_⟩
      refine s_look hP hk hi hin hxe hE (eL_le _ _ _) (skX_le _ _ _ _ _) heE hR hrE haE (Nat.le_refl _) (Nat.le_refl _) ?_
      intro mnm2 mnb2 rmask2 rsize2 rcr2 n12 fme2 n22 fbu2 n32 fsl2 sc2 ec2 m12 ftr2 m22 fen2 hR2 hE2 x147 e147
      rw [nI_1] at e147
      rw [e147, ← sEq]
      refine ih (i + 1) rE aE eE _ _ dp' de' _ _ _ _ _ _ _ _ _ _ _ _ _ _ _ _ _ _ _ _ _ (by omega) ?_ ?_ ?_ ?_ (by omega) (by omega) (by omega) (by omega) (by omega)
      · rw [show 24 * (i + 1) = 24 * i + 24 by omega]
        exact hR2
      · rw [eEq]
        exact hE2
      · rw [cEq]
        exact hC'
      · obtain ⟨d1, d2, d3, d4⟩ := hD'
        rw [show 24 * (i + 1) = 24 * i + 24 by omega]
        refine ⟨by omega, Nat.le_trans d2 hleS.1, fun j hj1 hj2 => d3 j (by omega) hj2, fun j hj1 hj2 => ?_⟩
        by_cases c : j < xn (xt na co k (24 * i))
        · exact d4 j hj1 c
        · have hj3 : j < xn (xt na co k (24 * i + 24)) := hj2
          have e1 := xnew_d hin 24 (Nat.le_refl _) j (by omega) hj3
          have e2 : xd (xF na co k) j = xd (xt na co k (24 * i + 24)) j := by
            simp only [xd]
            rw [(hleF2.2.1 j hj3).2]
          omega
    rw [wp_EX_explore_45]
    refine pk_le 12000 i (fun c => by omega) (fun c => ?_)
    refine pk_le (xn (xt na co k (24 * i))) i (fun c => by omega) (fun c2 => ?_) hrsz
    obtain ⟨d1, d2, d3, d4⟩ := hD
    refine ⟨fun _ => ⟨fun c3 => ?_, fun c3 x67 e67 => ?_⟩, fun c3 => absurd ?_ c3⟩
    · have hne : i < de := by
        by_cases e : i = de
        · exact absurd (by rw [e]) c3
        · omega
      exact body dp de (d3 i (Nat.le_refl _) hne) ⟨hne, d2, d3, d4⟩
    · have hie : i = de := (nI_eq (by omega) (by omega)).mp c3
      rw [nI_1] at e67
      have hdd := d4 i (by omega) hin
      have := body (dp + 1) (xn (xt na co k (24 * i))) hdd ⟨hin, Nat.le_refl _, fun j hj1 hj2 => d4 j (by omega) hj2, fun j hj1 hj2 => by omega⟩
      rw [e67, hrsz]
      rw [hrsz] at this
      exact this
    · rw [hR.2.2]
      cases hb : xc (xt na co k (24 * i))
      · rfl
      · exact absurd hb hcY
