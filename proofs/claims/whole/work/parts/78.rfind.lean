/-! the reference's chains, find and add -/
def hh (x : Nat × Nat) : Nat := (pF x.1 * 31 + pB x.2) % 4099
theorem hh_lt (x : Nat × Nat) : hh x < 4099 := Nat.mod_lt _ (by decide)
theorem s_chainOf {Post : Int32 → Prop} {x : Nat × Nat} (h : Post (nI (hh x))) : wp_MO_chainOf Post (lN (pF x.1)) (lN (pB x.2)) := by
  have h1 := pF_lt x.1
  have h2 := pB_lt x.2
  have h3 := hh_lt x
  rw [wp_MO_chainOf]
  intro x1 e1
  rw [show (31 : Int64) = lN 31 from rfl, show (4099 : Int64) = lN 4099 from rfl, lN_mul, lN_add, pk_lRem (by omega) (by decide) (by decide)] at e1
  rw [e1, lg_cmp_ge, show (0 : Int64) = lN 0 from rfl]
  refine ⟨fun _ => ?_, fun c => ?_⟩
  · rw [lN_i]
    exact h
  · rw [pk_lLE (by decide) (by omega)] at c
    omega
def top (h : Nat → Nat) (c : Nat) : Nat → Option Nat
  | 0 => none
  | n + 1 => if h n = c then some n else top h c n
def oI (o : Option Nat) : Int32 := match o with | none => -1 | some i => nI i
theorem top_none {h : Nat → Nat} {c m : Nat} (e : top h c m = none) : ∀ j, j < m → h j ≠ c := by
  induction m with
  | zero => intro j hj; omega
  | succ m ih =>
    intro j hj
    simp only [top] at e
    split at e
    · cases e
    · rename_i hm
      by_cases x : j = m
      · rw [x]
        exact hm
      · exact ih e j (by omega)
theorem top_some {h : Nat → Nat} {c m i : Nat} (e : top h c m = some i) : i < m ∧ h i = c ∧ ∀ j, i < j → j < m → h j ≠ c := by
  induction m with
  | zero => cases e
  | succ m ih =>
    simp only [top] at e
    split at e
    · rename_i hm
      cases e
      exact ⟨by omega, hm, fun j h1 h2 => by omega⟩
    · rename_i hm
      have := ih e
      refine ⟨by omega, this.2.1, fun j h1 h2 => ?_⟩
      by_cases x : j = m
      · rw [x]
        exact hm
      · exact this.2.2 j h1 (by omega)
theorem top_ext {h g : Nat → Nat} {c m : Nat} (e : ∀ j, j < m → h j = g j) : top h c m = top g c m := by
  induction m with
  | zero => rfl
  | succ m ih =>
    simp only [top]
    rw [e m (by omega), ih (fun j hj => e j (by omega))]
def CH (n : Nat) (q : Nat → Nat × Nat) (hchain hnext : Nat → Int32) : Prop :=
  (∀ c, c < 4099 → hchain c = oI (top (fun j => hh (q j)) c n)) ∧ ∀ j, j < n → hnext j = oI (top (fun j => hh (q j)) (hh (q j)) j)
theorem VX_inj {x y : Nat × Nat} (hx : VX x.1 x.2) (hy : VX y.1 y.2) (h1 : pF x.1 = pF y.1) (h2 : pB x.2 = pB y.2) : x = y :=
  Prod.ext (pF_inj hx.1 hy.1 h1) (pB_inj hx.2.1 hy.2.1 hx.2.2 hy.2.2 h2)
theorem s_find {Post : Int32 → Int32 → (Nat → Int64) → (Nat → Int64) → (Nat → Int32) → (Nat → Int32) → Prop} {th : Int32} {k n : Nat} {q : Nat → Nat × Nat} {hfront hbehind : Nat → Int64} {hchain hnext : Nat → Int32} {x : Nat × Nat} (hk : k < 4) (hn : n ≤ 12000)
    (hF : ∀ j, j < n → hfront (12001 * k + j) = lN (pF (q j).1) ∧ hbehind (12001 * k + j) = lN (pB (q j).2)) (hC : CH n q hchain hnext) (hVq : ∀ j, j < n → VX (q j).1 (q j).2) (hVx : VX x.1 x.2)
    (h1 : ∀ i, i < n → q i = x → Post (nI i) th hfront hbehind hchain hnext) (h0 : (∀ j, j < n → q j ≠ x) → Post (-1) th hfront hbehind hchain hnext) : wp_MO_find Post th hfront hbehind hchain hnext (nI k) (lN (pF x.1)) (lN (pB x.2)) := by
  have p1 := pF_lt x.1
  have p2 := pB_lt x.2
  have hhx := hh_lt x
  have key : ∀ u m, m ≤ u → m ≤ n → (∀ j, m ≤ j → j < n → q j ≠ x) → wp_MO_find_13 Post (u + 1) th hfront hbehind hchain hnext (nI k) (lN (pF x.1)) (lN (pB x.2)) (oI (top (fun j => hh (q j)) (hh x) m)) := by
    intro u
    induction u with
    | zero =>
      intro m hm hmn ho
      rw [show m = 0 by omega, wp_MO_find_13]
      refine ⟨fun _ => h0 (fun j hj => ho j (by omega) hj), fun c => absurd (show oI (top (fun j => hh (q j)) (hh x) 0) < 0 from (by decide : (-1 : Int32) < 0)) c⟩
    | succ u ih =>
      intro m hm hmn ho
      rw [wp_MO_find_13]
      rcases hT : top (fun j => hh (q j)) (hh x) m with _ | i
      · refine ⟨fun _ => h0 (fun j hj => ?_), fun c => absurd (by decide : (-1 : Int32) < 0) c⟩
        by_cases c : j < m
        · intro e
          have := top_none hT j c
          rw [e] at this
          exact this rfl
        · exact ho j (by omega) hj
      · have ht := top_some hT
        have hin : i < n := by omega
        have q1 := pF_lt (q i).1
        have q2 := pB_lt (q i).2
        have hne : ∀ j, i < j → j < n → q j ≠ x := by
          intro j hij hj e
          by_cases c : j < m
          · have := ht.2.2 j hij c
            rw [e] at this
            exact this rfl
          · exact ho j (by omega) hj e
        have nx : ¬ q i = x → wp_MO_find_58 Post (fun (th : Int32) (hfront : Nat → Int64) (hbehind : Nat → Int64) (hchain : Nat → Int32) (hnext : Nat → Int32) (L1 : Int32) (L2 : Int64) (L4 : Int64) (L6 : Int32) => wp_MO_find_13 Post (u + 1) th hfront hbehind hchain hnext L1 L2 L4 L6) th hfront hbehind hchain hnext (nI k) (lN (pF x.1)) (lN (pB x.2)) (nI i) := by
          intro hq
          rw [wp_MO_find_58, nI_clamp (by omega)]
          refine ⟨vp_in_nI (by omega) (by decide), fun x3 e3 => ?_⟩
          rw [hC.2 i hin, ht.2.1] at e3
          rw [e3]
          refine ih i (by omega) (by omega) (fun j hij hj => ?_)
          by_cases c : j = i
          · rw [c]
            exact hq
          · exact hne j (by omega) hj
        show (nI i < 0 → _) ∧ (¬ nI i < 0 → _)
        refine ⟨fun c => absurd c (nI_pos (by omega)), fun _ => ?_⟩
        rw [show (12001 : Int32) = nI 12001 from rfl, show oI (some i) = nI i from rfl, pk_mul, nI_add, nI_clamp (by omega), (hF i hin).1, (hF i hin).2, lg_cmp_eq, lg_cmp_eq, pk_lEQ (by omega) (by omega), pk_lEQ (by omega) (by omega)]
        refine ⟨vp_in_nI (by omega) (by decide), fun c => nx (fun e => c (by rw [e])), fun c => ⟨vp_in_nI (by omega) (by decide), fun c2 => nx (fun e => c2 (by rw [e])), fun c2 => h1 i hin (VX_inj (hVq i hin) hVx c c2)⟩⟩
  rw [wp_MO_find]
  refine s_chainOf ⟨vp_in_nI hhx (by decide), fun x2 e2 => ?_⟩
  rw [nI_clamp (by omega), hC.1 _ hhx] at e2
  rw [e2]
  exact ⟨n + 1, key n n (Nat.le_refl _) (Nat.le_refl _) (fun j a b => by omega)⟩
/-- what the reference holds of a kind's states -/
def cI (q : Nat → Nat × Nat) (c : Nat) : Nat → Int32
  | 0 => 0
  | n + 1 => if (q n).1 % 256 = c then 1 else cI q c n
def soN (q : Nat → Nat × Nat) (tr : Nat → Nat × Nat × Nat) (p v : Nat) : Nat → Option Nat
  | 0 => none
  | n + 1 => match soN q tr p v n with | some d => some d | none => if mmF (q n).1 p = v then some (tr n).2.2 else none
theorem cI_ext {q q' : Nat → Nat × Nat} {c n : Nat} (h : ∀ j, j < n → q j = q' j) : cI q c n = cI q' c n := by
  induction n with
  | zero => rfl
  | succ n ih =>
    simp only [cI]
    rw [h n (by omega), ih (fun j hj => h j (by omega))]
theorem soN_ext {q q' : Nat → Nat × Nat} {tr tr' : Nat → Nat × Nat × Nat} {p v n : Nat} (h : ∀ j, j < n → q j = q' j ∧ tr j = tr' j) : soN q tr p v n = soN q' tr' p v n := by
  induction n with
  | zero => rfl
  | succ n ih =>
    simp only [soN]
    rw [(h n (by omega)).1, (h n (by omega)).2, ih (fun j hj => h j (by omega))]
theorem soN_some {q : Nat → Nat × Nat} {tr : Nat → Nat × Nat × Nat} {p v n d : Nat} (h : soN q tr p v n = some d) : ∃ j, j < n ∧ d = (tr j).2.2 ∧ mmF (q j).1 p = v ∧ ∀ i, i < j → mmF (q i).1 p ≠ v := by
  have none_no : ∀ m, soN q tr p v m = none → ∀ i, i < m → mmF (q i).1 p ≠ v := by
    intro m
    induction m with
    | zero => intro _ i hi; omega
    | succ m ihm =>
      intro e i hi
      simp only [soN] at e
      split at e
      · cases e
      · rename_i e0
        split at e
        · cases e
        · rename_i hv
          by_cases c : i = m
          · rw [c]
            exact hv
          · exact ihm e0 i (by omega)
  induction n with
  | zero => cases h
  | succ n ih =>
    simp only [soN] at h
    split at h
    · rename_i d' e
      cases h
      obtain ⟨j, a, b⟩ := ih e
      exact ⟨j, by omega, b⟩
    · rename_i e
      split at h
      · rename_i hv
        cases h
        exact ⟨n, by omega, rfl, hv, none_no n e⟩
      · cases h
theorem soN_none {q : Nat → Nat × Nat} {tr : Nat → Nat × Nat × Nat} {p v n : Nat} (h : soN q tr p v n = none) : ∀ i, i < n → mmF (q i).1 p ≠ v := by
  induction n with
  | zero => intro i hi; omega
  | succ n ih =>
    intro i hi
    simp only [soN] at h
    split at h
    · cases h
    · rename_i e0
      split at h
      · cases h
      · rename_i hv
        by_cases c : i = n
        · rw [c]
          exact hv
        · exact ih e0 i (by omega)
def RX (k n : Nat) (q : Nat → Nat × Nat) (tr : Nat → Nat × Nat × Nat) (hstates : Nat → Int32) (hfront hbehind : Nat → Int64) (hfrom hstep hdepth hcuts hsoonest hchain hnext : Nat → Int32) : Prop :=
  hstates k = nI n ∧ (∀ j, j < n → hfront (12001 * k + j) = lN (pF (q j).1) ∧ hbehind (12001 * k + j) = lN (pB (q j).2)) ∧
  (∀ j, j < n → hdepth (12001 * k + j) = nI (tr j).2.2 ∧ (1 ≤ j → hfrom (12001 * k + j) = nI (tr j).1 ∧ hstep (12001 * k + j) = nI (tr j).2.1)) ∧
  (∀ c, c < 256 → hcuts (256 * k + c) = cI q c n) ∧ (∀ p, p < 4 → ∀ v, v < 4 → hsoonest (16 * k + 4 * p + v) = oI (soN q tr p v n)) ∧ CH n q hchain hnext
/-- nothing outside the kind's part has changed -/
def FR (k : Nat) (a1 a2 a3 a4 a5 a6 b1 b2 b3 b4 b5 b6 : Nat → Int32) : Prop :=
  (∀ x, x ≠ k → b1 x = a1 x) ∧ (∀ x, (x < 12001 * k ∨ 12001 * k + 12001 ≤ x) → b2 x = a2 x ∧ b3 x = a3 x ∧ b4 x = a4 x) ∧ (∀ x, (x < 256 * k ∨ 256 * k + 256 ≤ x) → b5 x = a5 x) ∧ ∀ x, (x < 16 * k ∨ 16 * k + 16 ≤ x) → b6 x = a6 x
theorem FR_refl (k : Nat) (a1 a2 a3 a4 a5 a6 : Nat → Int32) : FR k a1 a2 a3 a4 a5 a6 a1 a2 a3 a4 a5 a6 := ⟨fun _ _ => rfl, fun _ _ => ⟨rfl, rfl, rfl⟩, fun _ _ => rfl, fun _ _ => rfl⟩
theorem mm_cut (M : Nat) : fa 2 (mmF M) 0 4 = M % 256 := by
  simp only [fa, mmF, FD]
  omega
theorem oI_pos {o : Option Nat} (h : ∀ d, o = some d → d < 2 ^ 31) : 0 ≤ oI o ↔ o ≠ none := by
  rcases o with _ | d
  · exact ⟨fun c => absurd c (by decide), fun c => absurd rfl c⟩
  · exact ⟨fun _ => by simp, fun _ => nI_pos' (h d rfl)⟩
theorem vb1 : vp_nar .boolean 1 = 1 := rfl
theorem vb0 : vp_nar .boolean 0 = 0 := rfl
theorem fa_ext {w v m : Nat} {g : Nat → Nat} (h : ∀ j, j < m → g j < 4) (hw : w = 2) (hv : v = 0) : fa w g v m < 4 ^ m := by
  subst hw hv
  induction m with
  | zero => exact Nat.zero_lt_one
  | succ m ih =>
    have := ih (fun j hj => h j (by omega))
    have := h m (by omega)
    simp only [fa, Nat.pow_succ]
    omega
