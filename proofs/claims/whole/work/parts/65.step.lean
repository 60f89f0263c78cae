/-! all steps of a machine; which states can be -/
noncomputable def drX (b : Nat) (q : Option Nat) (M B : Nat) : Option (Nat × Nat) :=
  match fi5 (FD B (15 * b) 15) q with
  | none => none
  | some i => some (FS M (2 * (3 - (en5 (FD B (15 * b) 15) i / 4 - 4))) 2 (en5 (FD B (15 * b) 15) i % 4), FS B (15 * b) 15 (dr5 (FD B (15 * b) 15) i))
noncomputable def stp (na co : Nat → Nat) (k s : Nat) (x : Nat × Nat) : Option (Nat × Nat) :=
  if s < 4 then actX na co k s x.1 x.2
  else if k = 2 then (if s < 8 then none else drX ((s - 8) / 4) (some ((s - 8) % 4)) x.1 x.2)
  else if (k = 1 ∧ s < 8) ∨ (k = 3 ∧ s < 6) then drX (s - 4) none x.1 x.2 else none
def VS (na : Nat → Nat) (k : Nat) (x : Nat × Nat) : Prop := VX x.1 x.2 ∧ (k = 0 → x.2 = 0) ∧ ∀ t, t < 4 → FD x.1 (40 + 3 * t) 3 ≤ na t
/-- the program's numbers -/
def PN (na co : Nat → Nat) : Prop := (∀ t, t < 4 → na t ≤ 5) ∧ ∀ j, j < 20 → co j < 64
theorem PGc_PN {pc pl : Nat → Int32} {na co : Nat → Nat} (h : PGc pc pl na co) : PN na co := ⟨fun t ht => (h.1 t ht).2, fun j hj => (h.2 j hj).2⟩
theorem v5_ad {E x : Nat} (h : V5 E) (hs : E / 1024 = 0) (hx : x < 16) : V5 (ad5 E (16 + x)) := by
  obtain ⟨h0, h1, h2, h3⟩ := h
  simp only [en5] at h1 h2 h3
  have hz : E = 0 ∧ sz5 E = 0 ∨ E ≠ 0 ∧ E / 32 = 0 ∧ sz5 E = 1 ∨ E / 32 ≠ 0 ∧ sz5 E = 2 := by
    simp only [sz5]
    by_cases a : E = 0
    · exact Or.inl ⟨a, if_pos a⟩
    · by_cases b : E / 32 = 0
      · exact Or.inr (Or.inl ⟨a, b, by rw [if_neg a, if_pos b]⟩)
      · exact Or.inr (Or.inr ⟨b, by rw [if_neg a, if_neg b, if_pos hs]⟩)
  rcases hz with ⟨a, b⟩ | ⟨a, c, b⟩ | ⟨a, b⟩
  · simp only [V5, ad5, b, en5]
    subst a
    refine ⟨by omega, fun _ => by omega, fun _ => by omega, fun _ => by omega⟩
  · simp only [V5, ad5, b, en5]
    refine ⟨by omega, fun _ => by omega, fun _ => by omega, fun _ => by omega⟩
  · simp only [V5, ad5, b, en5]
    refine ⟨by omega, fun _ => by omega, fun _ => by omega, fun _ => by omega⟩
theorem v5_dr {E i : Nat} (h : V5 E) (hi : i < 3) : V5 (dr5 E i) := by
  obtain ⟨h0, h1, h2, h3⟩ := h
  simp only [en5] at h1 h2 h3
  rcases (show i = 0 ∨ i = 1 ∨ i = 2 by omega) with rfl | rfl | rfl
  · simp only [V5, dr5, en5]
    refine ⟨by omega, fun _ => by omega, fun _ => by omega, fun _ => by omega⟩
  · simp only [V5, dr5, en5]
    refine ⟨by omega, fun _ => by omega, fun _ => by omega, fun _ => by omega⟩
  · simp only [V5, dr5, en5]
    refine ⟨by omega, fun _ => by omega, fun _ => by omega, fun _ => by omega⟩
theorem fi5_lt {E : Nat} {q : Option Nat} {i : Nat} (h : fi5 E q = some i) : i < 3 ∧ E / 2 ^ (5 * i) ≠ 0 ∧ ht5 E i q := by
  simp only [fi5] at h
  repeat' split at h
  all_goals first | (cases h; done) | (cases h; refine ⟨by omega, by omega, by assumption⟩)
theorem v5_set {B b E : Nat} (hB : B < 2 ^ 60) (hb : b < 4) (hV : ∀ c, c < 4 → V5 (FD B (15 * c) 15)) (hE : V5 E) : FS B (15 * b) 15 E < 2 ^ 60 ∧ ∀ c, c < 4 → V5 (FD (FS B (15 * b) 15 E) (15 * c) 15) := by
  have h1 : E < 2 ^ 15 := hE.1
  refine ⟨fs_lt hB h1 (by omega), fun c hc => ?_⟩
  by_cases e : c = b
  · subst e
    rw [fd_fs_same h1]
    exact hE
  · rw [fd_fs_ne h1 (by omega)]
    exact hV c hc
/-- a digit set leaves what is done -/
theorem done_fs {M sh d t : Nat} (hd : d < 4) (hs : sh + 2 ≤ 40) : FD (FS M sh 2 d) (40 + 3 * t) 3 = FD M (40 + 3 * t) 3 := fd_fs_ne (show d < 2 ^ 2 by omega) (by omega)
theorem drX_ok {na : Nat → Nat} {k b : Nat} {q : Option Nat} {M B : Nat} {y : Nat × Nat} (hb : b < 4) (hV : VS na k (M, B)) (h : drX b q M B = some y) : VS na k y := by
  obtain ⟨⟨hM, hB, h5⟩, h0, hd⟩ := hV
  simp only at hM hB h5 h0 hd
  simp only [drX] at h
  split at h
  · cases h
  · rename_i i hf
    cases h
    have hi := fi5_lt hf
    have hm : en5 (FD B (15 * b) 15) i % 4 < 2 ^ 2 := Nat.mod_lt _ (by decide)
    have hv := v5_set hB hb h5 (v5_dr (h5 b hb) hi.1)
    refine ⟨⟨fs_lt hM hm (by omega), hv.1, hv.2⟩, fun e => ?_, fun t ht => ?_⟩
    · have := h0 e
      subst this
      have hz : FD 0 (15 * b) 15 = 0 := by simp [FD]
      rw [hz] at hi
      exact absurd (Nat.zero_div _) hi.2.1
    · show FD (FS M _ 2 _) (40 + 3 * t) 3 ≤ na t
      rw [done_fs hm (by omega)]
      exact hd t ht
theorem actX_ok {na co : Nat → Nat} {k t : Nat} {M B : Nat} {y : Nat × Nat} (hP : PN na co) (ht : t < 4) (hV : VS na k (M, B)) (h : actX na co k t M B = some y) : VS na k y := by
  obtain ⟨⟨hM, hB, h5⟩, h0, hd⟩ := hV
  simp only at hM hB h5 h0 hd
  have hna := hP.1 t ht
  simp only [actX] at h
  by_cases hlt : FD M (40 + 3 * t) 3 < na t
  · rw [if_pos hlt] at h
    have hq := hP.2 (5 * t + FD M (40 + 3 * t) 3) (by omega)
    generalize hqe : co (5 * t + FD M (40 + 3 * t) 3) = q at h hq
    have hd1 : FD M (40 + 3 * t) 3 + 1 < 2 ^ 3 := by omega
    have hM1 : FS M (40 + 3 * t) 3 (FD M (40 + 3 * t) 3 + 1) < 2 ^ 52 := fs_lt hM hd1 (by omega)
    have hdn : ∀ u, u < 4 → FD (FS M (40 + 3 * t) 3 (FD M (40 + 3 * t) 3 + 1)) (40 + 3 * u) 3 ≤ na u := by
      intro u hu
      by_cases e : u = t
      · subst e
        rw [fd_fs_same hd1]
        omega
      · rw [fd_fs_ne hd1 (by omega)]
        exact hd u hu
    generalize hM1e : FS M (40 + 3 * t) 3 (FD M (40 + 3 * t) 3 + 1) = M1 at h hM1 hdn
    have hb : bf k t < 4 := bf_lt ht
    -- a digit set in M1
    have dig : ∀ sh d, sh + 2 ≤ 40 → d < 4 → VS na k (FS M1 sh 2 d, B) := fun sh d hs hd4 =>
      ⟨⟨fs_lt hM1 (show d < 2 ^ 2 by omega) (by omega), hB, h5⟩, h0, fun u hu => by
        show FD (FS M1 sh 2 d) (40 + 3 * u) 3 ≤ na u
        rw [done_fs hd4 hs]
        exact hdn u hu⟩
    by_cases c0 : q / 16 = 0
    · rw [if_pos c0] at h
      by_cases cs : FD B (15 * bf k t) 15 / 1024 = 0
      · rw [if_pos cs] at h
        by_cases ck : k = 0
        · rw [if_pos ck] at h
          cases h
          exact dig _ _ (by omega) (by omega)
        · rw [if_neg ck] at h
          cases h
          have hv := v5_set hB hb h5 (v5_ad (h5 _ hb) cs (show q % 16 < 16 by omega))
          exact ⟨⟨hM1, hv.1, hv.2⟩, fun e => absurd e ck, hdn⟩
      · rw [if_neg cs] at h
        cases h
    · rw [if_neg c0] at h
      by_cases c1 : q / 16 = 1
      · rw [if_pos c1] at h
        cases h
        refine dig _ _ (by omega) ?_
        split
        · rename_i v hv
          exact nw5_lt hv
        · exact fd_lt M _ 2
      · rw [if_neg c1] at h
        by_cases c2 : q / 16 = 2
        · rw [if_pos c2] at h
          by_cases cz : FD B (15 * bf k t) 15 = 0
          · rw [if_pos cz] at h
            cases h
            exact ⟨⟨hM1, hB, h5⟩, h0, hdn⟩
          · rw [if_neg cz] at h
            cases h
        · rw [if_neg c2] at h
          by_cases cz : FD B (15 * bf k t) 15 = 0
          · rw [if_pos cz] at h
            cases h
            exact dig _ _ (by omega) (by omega)
          · rw [if_neg cz] at h
            cases h
  · rw [if_neg hlt] at h
    cases h
theorem stp_ok {na co : Nat → Nat} {k s : Nat} {x y : Nat × Nat} (hP : PN na co) (hs : s < 24) (hV : VS na k x) (h : stp na co k s x = some y) : VS na k y := by
  obtain ⟨M, B⟩ := x
  simp only [stp] at h
  repeat' split at h
  · exact actX_ok hP (by assumption) hV h
  · cases h
  · exact drX_ok (by omega) hV h
  · exact drX_ok (by omega) hV h
  · cases h
/-- the first number that is no step -/
def se (k : Nat) (x : Nat × Nat) : Nat := if x.2 = 0 then 4 else if k = 0 then 4 else if k = 1 then 8 else if k = 2 then 24 else 6
theorem se_le (k : Nat) (x : Nat × Nat) : 4 ≤ se k x ∧ se k x ≤ 24 := by
  simp only [se]
  repeat' split
  all_goals omega
theorem drX_0 {b : Nat} {q : Option Nat} {M : Nat} : drX b q M 0 = none := by
  have hz : FD 0 (15 * b) 15 = 0 := by simp [FD]
  simp only [drX, hz, fi5, if_true]
theorem stp_none {na co : Nat → Nat} {k s : Nat} {x : Nat × Nat} (hk : k < 4) (hs : se k x ≤ s) (hs2 : s < 24) : stp na co k s x = none := by
  obtain ⟨M, B⟩ := x
  have h4 := (se_le k (M, B)).1
  simp only [stp]
  rw [if_neg (by omega)]
  by_cases hB : B = 0
  · subst hB
    simp only [drX_0, ite_self]
  · simp only [se] at hs
    rw [if_neg hB] at hs
    by_cases k2 : k = 2
    · subst k2
      simp at hs
      omega
    · rw [if_neg k2, if_neg]
      intro c
      rcases c with ⟨c, c2⟩ | ⟨c, c2⟩
      · subst c
        simp at hs
        omega
      · subst c
        simp at hs
        omega
theorem s_go {Post : Int32 → Int32 → Int64 → Int64 → Int64 → Int64 → (Nat → Int32) → (Nat → Int32) → Prop} {pc pl : Nat → Int32} {na co : Nat → Nat} {k s M B : Nat} {mnm mnb : Int64} (hP : PGc pc pl na co) (hk : k < 4) (hV : VS na k (M, B)) (hs : s < se k (M, B))
    (h1 : ∀ M' B', stp na co k s (M, B) = some (M', B') → Post 1 (nI k) (lN M) (lN B) (lN M') (lN B') pc pl) (h0 : stp na co k s (M, B) = none → ∀ x y, Post 0 (nI k) (lN M) (lN B) x y pc pl) :
    wp_MA_go Post (nI k) (lN M) (lN B) mnm mnb pc pl (nI s) := by
  have hX := hV.1
  obtain ⟨hM, hB, h5⟩ := hV.1
  simp only at hM hB h5 hX
  have hse := (se_le k (M, B)).2
  rw [wp_MA_go]
  refine pk_le 4 s (fun c => ?_) (fun c => ?_)
  · refine pk_eq k 2 (fun ck => ?_) (fun ck => ?_)
    · subst ck
      intro x1 e1
      by_cases c8 : s < 8
      · have e2 : x1 < 0 := by
          rw [e1, show (8 : Int32) = nI 8 from rfl]
          exact pk_sneg (by decide) c8
        refine ⟨fun _ => ?_, fun c => absurd e2 c⟩
        refine h0 ?_ _ _
        simp only [stp]
        rw [if_neg (by omega), if_pos trivial, if_pos c8]
      · rw [show (8 : Int32) = nI 8 from rfl, pk_sub (by omega)] at e1
        subst e1
        refine ⟨fun c => absurd c (nI_pos (by omega)), fun _ => ?_⟩
        rw [show (4 : Int32) = nI 4 from rfl, pk_rem (by omega) (by decide) (by decide), pk_div (by omega) (by decide) (by decide)]
        have hst : stp na co 2 s (M, B) = drX ((s - 8) / 4) (some ((s - 8) % 4)) M B := by
          simp only [stp]
          rw [if_neg (by omega), if_pos trivial, if_neg c8]
        rw [hst] at h1 h0
        refine s_drain (q := some ((s - 8) % 4)) (by omega) (by omega) (by omega) (fun p e => by cases e; omega) (h5 _ (by omega)) ?_
        simp only [drX] at h1 h0
        split at h1
        · rename_i hf
          rw [hf] at h0 ⊢
          exact ⟨fun _ => h0 rfl _ _, fun c => absurd rfl c⟩
        · rename_i i hf
          rw [hf]
          exact ⟨fun c => absurd c (by decide), fun _ => h1 _ _ rfl⟩
    · have hBn : ¬ B = 0 := fun e => by
        simp only [se] at hs
        rw [if_pos e] at hs
        omega
      have hkk : (k = 1 ∧ s < 8) ∨ (k = 3 ∧ s < 6) := by
        simp only [se] at hs
        rw [if_neg hBn] at hs
        repeat' split at hs
        all_goals omega
      have hst : stp na co k s (M, B) = drX (s - 4) none M B := by
        simp only [stp]
        rw [if_neg (by omega), if_neg ck, if_pos hkk]
      rw [hst] at h1 h0
      rw [show (4 : Int32) = nI 4 from rfl, pk_sub (by omega)]
      refine s_drain (q := none) (by omega) (by omega) (by omega) (fun p e => by cases e) (h5 _ (by omega)) ?_
      simp only [drX] at h1 h0
      split at h1
      · rename_i hf
        rw [hf] at h0 ⊢
        exact ⟨Or.inl rfl, h0 rfl _ _⟩
      · rename_i i hf
        rw [hf]
        exact ⟨Or.inr rfl, h1 _ _ rfl⟩
  · have hst : stp na co k s (M, B) = actX na co k s M B := by
      simp only [stp]
      rw [if_pos c]
    rw [hst] at h1 h0
    exact s_act hP hk c hX (fun M' B' e => ⟨Or.inr rfl, h1 M' B' e⟩) (fun e x y => ⟨Or.inl rfl, h0 e x y⟩)
theorem s_stepsEnd {Post : Int32 → Int32 → Int64 → Int64 → Int64 → Int64 → (Nat → Int32) → (Nat → Int32) → Prop} {pc pl : Nat → Int32} {k M B : Nat} {mnm mnb : Int64} (hk : k < 4) (hB : B < 2 ^ 60) (h : Post (nI (se k (M, B))) (nI k) (lN M) (lN B) mnm mnb pc pl) : wp_MA_stepsEnd Post (nI k) (lN M) (lN B) mnm mnb pc pl := by
  rw [wp_MA_stepsEnd, lg_cmp_eq, show (0 : Int64) = lN 0 from rfl, pk_lEQ (by omega) (by omega)]
  simp only [se] at h
  refine ⟨fun c => ?_, fun c => ?_⟩
  · rw [if_neg c] at h
    refine ⟨vp_in_nI hk (by decide), ?_⟩
    rw [nI_clamp (by omega)]
    simp only [jSEi]
    rcases (show k = 0 ∨ k = 1 ∨ k = 2 ∨ k = 3 by omega) with rfl | rfl | rfl | rfl
    · exact h
    · exact h
    · exact h
    · exact h
  · rw [if_pos c] at h
    exact h
/-- all done and all buffers empty -/
def aend (na : Nat → Nat) (x : Nat × Nat) : Prop := (∀ t, t < 4 → na t ≤ FD x.1 (40 + 3 * t) 3) ∧ x.2 = 0
theorem s_isAtEnd {Post : Int32 → Int32 → Int64 → Int64 → Int64 → Int64 → (Nat → Int32) → (Nat → Int32) → Prop} {pc pl : Nat → Int32} {na co : Nat → Nat} {k M B : Nat} {mnm mnb : Int64} (hP : PGc pc pl na co) (hM : M < 2 ^ 52) (hB : B < 2 ^ 60)
    (h1 : aend na (M, B) → Post 1 (nI k) (lN M) (lN B) mnm mnb pc pl) (h0 : ¬ aend na (M, B) → Post 0 (nI k) (lN M) (lN B) mnm mnb pc pl) : wp_MA_isAtEnd Post (nI k) (lN M) (lN B) mnm mnb pc pl := by
  rw [wp_MA_isAtEnd]
  refine ⟨5, ?_⟩
  have key : ∀ j t : Nat, j + t = 4 → (∀ u, u < t → na u ≤ FD M (40 + 3 * u) 3) → wp_MA_isAtEnd_2 Post (j + 1) (nI k) (lN M) (lN B) mnm mnb pc pl (nI t) := by
    intro j
    induction j with
    | zero =>
      intro t ht ha
      rw [wp_MA_isAtEnd_2, lg_cmp_eq, show (0 : Int64) = lN 0 from rfl, pk_lEQ (by omega) (by omega)]
      refine pk_le 4 t (fun c => ?_) (fun c => by omega)
      exact ⟨fun c => h0 (fun e => c e.2), fun c => h1 ⟨fun u hu => ha u (by omega), c⟩⟩
    | succ j ih =>
      intro t ht ha
      rw [wp_MA_isAtEnd_2]
      refine pk_le 4 t (fun c => by omega) (fun c => ?_)
      refine s_doneShift ?_
      refine s_bitsAt (k := 3) (by omega) (by omega) (by decide) (by decide) ?_
      rw [wp_PR_lengthOf]
      refine ⟨vp_in_nI (by omega) (by decide), ?_⟩
      rw [nI_clamp (by omega), (hP.1 t c).1]
      have hna := (hP.1 t c).2
      have hfd := fd_lt M (40 + 3 * t) 3
      refine pk_le (na t) (FD M (40 + 3 * t) 3) (fun c2 x e => ?_) (fun c2 => ?_)
      · rw [nI_1] at e
        subst e
        refine ih (t + 1) (by omega) (fun u hu => ?_)
        by_cases eu : u = t
        · subst eu
          exact c2
        · exact ha u (by omega)
      · exact h0 (fun e => by have := e.1 t c; simp only at this; omega)
  exact key 4 0 rfl (fun u hu => by omega)
theorem s_outcomeHere {Post : Int64 → Int32 → Int64 → Int64 → Int64 → Int64 → (Nat → Int32) → (Nat → Int32) → Prop} {mki : Int32} {pc pl : Nat → Int32} {M : Nat} {mbu mnm mnb : Int64} (hM : M < 2 ^ 52) (h : Post (lN (M % 2 ^ 40)) mki (lN M) mbu mnm mnb pc pl) : wp_MA_outcomeHere Post mki (lN M) mbu mnm mnb pc pl := by
  rw [wp_MA_outcomeHere, show (1099511627775 : Int64) = lN (2 ^ 40 - 1) from rfl, wb_mask (by omega) (by decide)]
  exact h
theorem s_cutHere {Post : Int32 → Int32 → Int64 → Int64 → Int64 → Int64 → (Nat → Int32) → (Nat → Int32) → Prop} {mki : Int32} {pc pl : Nat → Int32} {M : Nat} {mbu mnm mnb : Int64} (hM : M < 2 ^ 52) (h : Post (nI (M % 256)) mki (lN M) mbu mnm mnb pc pl) : wp_MA_cutHere Post mki (lN M) mbu mnm mnb pc pl := by
  rw [wp_MA_cutHere]
  refine s_bitsAt (sh := 0) (k := 8) (by omega) (by omega) (by decide) (by decide) ?_
  rw [FD, Nat.pow_zero, Nat.div_one]
  exact h
