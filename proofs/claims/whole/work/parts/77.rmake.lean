/-! the reference's drain and make -/
theorem s_rdrain {Post : Int32 → Int32 → (Nat → Int32) → (Nat → Int32) → (Nat → Int32) → (Nat → Int32) → Prop} {th : Int32} {d r m s p v : Nat → Int32} {M B b i : Nat} (hR : RA d r m s p v M B) (hV : V5 (FD B (15 * b) 15)) (hb : b < 4) (hi : i ≤ 3)
    (h1 : i < sz5 (FD B (15 * b) 15) → ∀ m' s' p' v', RA d r m' s' p' v' (FS M (2 * (3 - (en5 (FD B (15 * b) 15) i / 4 - 4))) 2 (en5 (FD B (15 * b) 15) i % 4)) (FS B (15 * b) 15 (dr5 (FD B (15 * b) 15) i)) → Post 1 th m' s' p' v')
    (h0 : ¬ i < sz5 (FD B (15 * b) 15) → Post 0 th m s p v) : wp_MO_drain Post th m s p v (nI b) (nI i) := by
  have hz := sz_le (FD B (15 * b) 15)
  have hsz := hR.2.2.2.1 b hb
  have hen := hR.2.2.2.2 b hb
  have hE := hV.1
  rw [wp_MO_drain, nI_clamp (by omega), hsz, show (3 : Int32) = nI 3 from rfl, pk_mul, nI_add, nI_clamp (by omega)]
  refine ⟨vp_in_nI hb (by decide), pk_lt i (sz5 (FD B (15 * b) 15)) (fun c => ?_) (fun c => h0 (by omega))⟩
  have h1' := h1 c
  have h16 := (v5_en hV c).1
  have h32 := en5_lt (FD B (15 * b) 15) i
  have hszd := sz_dr hV (show i < 3 by omega) (show FD B (15 * b) 15 / 2 ^ (5 * i) ≠ 0 by
    have hc := sz_c (FD B (15 * b) 15)
    rcases (show i = 0 ∨ i = 1 ∨ i = 2 by omega) with rfl | rfl | rfl <;> omega)
  have hvd := (v5_dr hV (show i < 3 by omega)).1
  rw [(hen i c).1, (hen i c).2, nI_clamp (by omega)]
  refine ⟨vp_in_nI (by omega) (by decide), vp_in_nI (by omega) (by decide), vp_in_nI (by omega) (by decide), fun f1 e1 => ⟨vp_in_nI hb (by decide), vp_in_nI hb (by decide), fun f2 e2 => ?_⟩⟩
  rw [show (1 : Int32) = nI 1 from rfl, pk_sub (by omega)] at e2
  have hs2 : ∀ c', c' < 4 → f2 c' = if c' = b then nI (sz5 (dr5 (FD B (15 * b) 15) i)) else s c' := by
    intro c' hc'
    rw [e2]
    by_cases e : c' = b
    · rw [if_pos e, e, pk_us]
      congr 1
      omega
    · rw [if_neg e, pk_un e]
  have hRm : RA d r f1 s p v (FS M (2 * (3 - (en5 (FD B (15 * b) 15) i / 4 - 4))) 2 (en5 (FD B (15 * b) 15) i % 4)) B := by
    rw [e1]
    exact RA_mem hR (by omega) (by omega)
  have hsb : f2 b = nI (sz5 (dr5 (FD B (15 * b) 15) i)) := by rw [hs2 b hb, if_pos rfl]
  generalize hEe : FD B (15 * b) 15 = E at *
  have key : ∀ u j, u + j = sz5 (dr5 E i) → i ≤ j → ∀ p' v' : Nat → Int32, (∀ c', c' < 4 → c' ≠ b → ∀ e, e < 3 → p' (3 * c' + e) = p (3 * c' + e) ∧ v' (3 * c' + e) = v (3 * c' + e)) → (∀ e, e < j → p' (3 * b + e) = nI (en5 (dr5 E i) e / 4 - 4) ∧ v' (3 * b + e) = nI (en5 (dr5 E i) e % 4)) → (∀ e, j < e → e < 3 → p' (3 * b + e) = p (3 * b + e) ∧ v' (3 * b + e) = v (3 * b + e)) → wp_MO_drain_49 Post (u + 1) th f1 f2 p' v' (nI b) (nI j) := by
    intro u
    induction u with
    | zero =>
      intro j hj hij p' v' ho hd hk
      rw [wp_MO_drain_49, nI_clamp (by omega), hsb]
      refine ⟨vp_in_nI hb (by decide), pk_le (sz5 (dr5 E i)) j (fun _ => ?_) (fun c => by omega)⟩
      refine h1' _ _ _ _ (RA_buf hRm hb hvd hs2 ho (fun e he => hd e (by omega)))
    | succ u ih =>
      intro j hj hij p' v' ho hd hk
      rw [wp_MO_drain_49, nI_clamp (by omega), hsb, show (3 : Int32) = nI 3 from rfl, pk_mul, nI_add, nI_1, nI_clamp (by omega), nI_clamp (by omega)]
      refine ⟨vp_in_nI hb (by decide), pk_le (sz5 (dr5 E i)) j (fun c => by omega) (fun _ => ⟨vp_in_nI (by omega) (by decide), vp_in_nI (by omega) (by decide), fun f3 e3 => ⟨vp_in_nI (by omega) (by decide), vp_in_nI (by omega) (by decide), fun f4 e4 x5 e5 => ?_⟩⟩)⟩
      rw [nI_1] at e5
      subst e5
      refine ih (j + 1) (by omega) (by omega) f3 f4 (fun c' hc' hcb e he => ?_) (fun e he => ?_) (fun e he he3 => ?_)
      · rw [e3, e4, pk_un (by omega), pk_un (by omega)]
        exact ho c' hc' hcb e he
      · by_cases ee : e = j
        · subst ee
          rw [e3, e4, pk_us, pk_us, show 3 * b + e + 1 = 3 * b + (e + 1) by omega, (hk (e + 1) (by omega) (by omega)).1, (hk (e + 1) (by omega) (by omega)).2, en_dr hE (by omega) (by omega), if_neg (by omega)]
          exact hen (e + 1) (by omega)
        · rw [e3, e4, pk_un (by omega), pk_un (by omega)]
          exact hd e (by omega)
      · rw [e3, e4, pk_un (by omega), pk_un (by omega)]
        exact hk e (by omega) he3
  refine ⟨sz5 (dr5 E i) - i + 1, key (sz5 (dr5 E i) - i) i (by omega) (by omega) p v (fun _ _ _ _ _ => ⟨rfl, rfl⟩) (fun e he => ?_) (fun _ _ _ => ⟨rfl, rfl⟩)⟩
  rw [en_dr hE (by omega) (by omega), if_pos he]
  exact hen e (by omega)
/-- where the oldest entry for a place is -/
theorem s_oldestFor {Post : Int32 → Int32 → (Nat → Int32) → (Nat → Int32) → Prop} {th : Int32} {d r m s p v : Nat → Int32} {M B b q : Nat} (hR : RA d r m s p v M B) (hV : V5 (FD B (15 * b) 15)) (hb : b < 4) (hq : q < 4)
    (h : ∀ i, i ≤ sz5 (FD B (15 * b) 15) → (i < sz5 (FD B (15 * b) 15) → fi5 (FD B (15 * b) 15) (some q) = some i) → (i = sz5 (FD B (15 * b) 15) → fi5 (FD B (15 * b) 15) (some q) = none) → Post (nI i) th s p) : wp_MO_oldestFor Post th s p (nI b) (nI q) := by
  have hz := sz_le (FD B (15 * b) 15)
  have hsz := hR.2.2.2.1 b hb
  have hen := hR.2.2.2.2 b hb
  generalize hEe : FD B (15 * b) 15 = E at *
  have hE := hV.1
  have hc := sz_c E
  have v16 : ∀ e, e < sz5 E → 16 ≤ en5 E e ∧ en5 E e < 32 := fun e he => ⟨(v5_en hV he).1, en5_lt E e⟩
  have no : ∀ e, e < 3 → ¬ e < sz5 E → ¬ ht5 E e (some q) := fun e he hs => by
    simp only [ht5]
    rw [v5_no hV hs he]
    omega
  have fin : ∀ i, i ≤ sz5 E → (∀ e, e < i → ¬ ht5 E e (some q)) → (i < sz5 E → ht5 E i (some q)) → (i < sz5 E → fi5 E (some q) = some i) ∧ (i = sz5 E → fi5 E (some q) = none) := by
    intro i hi hl hh
    have hall : ∀ e, e < i → ¬ ht5 E e (some q) := hl
    constructor
    · intro c
      have := hh c
      rcases (show i = 0 ∨ i = 1 ∨ i = 2 by omega) with rfl | rfl | rfl
      · rw [fi5, if_neg (by omega), if_pos this]
      · rw [fi5, if_neg (by omega), if_neg (hl 0 (by omega)), if_neg (by omega), if_pos this]
      · rw [fi5, if_neg (by omega), if_neg (hl 0 (by omega)), if_neg (by omega), if_neg (hl 1 (by omega)), if_neg (by omega), if_pos this]
    · intro c
      have a : ∀ e, e < 3 → ¬ ht5 E e (some q) := fun e he => by
        by_cases x : e < i
        · exact hl e x
        · exact no e he (by omega)
      rw [fi5, if_neg (a 0 (by omega)), if_neg (a 1 (by omega)), if_neg (a 2 (by omega))]
      simp only [ite_self]
  have key : ∀ u i, u + i = sz5 E → (∀ e, e < i → ¬ ht5 E e (some q)) → wp_MO_oldestFor_2 Post (u + 1) th s p (nI b) (nI q) (nI i) := by
    intro u
    induction u with
    | zero =>
      intro i hi hl
      rw [wp_MO_oldestFor_2, nI_clamp (by omega), hsz]
      refine ⟨vp_in_nI hb (by decide), pk_le (sz5 E) i (fun _ => ?_) (fun c => by omega)⟩
      have := fin i (by omega) hl (by omega)
      exact h i (by omega) this.1 this.2
    | succ u ih =>
      intro i hi hl
      rw [wp_MO_oldestFor_2, nI_clamp (by omega), hsz, show (3 : Int32) = nI 3 from rfl, pk_mul, nI_add, nI_clamp (by omega), (hen i (by omega)).1]
      have hv := v16 i (by omega)
      refine ⟨vp_in_nI hb (by decide), pk_le (sz5 E) i (fun c => by omega) (fun _ => ⟨vp_in_nI (by omega) (by decide), ?_⟩)⟩
      rw [nI_eq (by omega) (by omega)]
      refine ⟨fun c => ?_, fun c x1 e1 => ?_⟩
      · have := fin i (by omega) hl (fun _ => by
          simp only [ht5]
          omega)
        exact h i (by omega) this.1 this.2
      · rw [nI_1] at e1
        subst e1
        refine ih (i + 1) (by omega) (fun e he => ?_)
        by_cases x : e < i
        · exact hl e x
        · rw [show e = i by omega]
          simp only [ht5]
          omega
  exact ⟨sz5 E + 1, key (sz5 E) 0 (by omega) (fun e he => by omega)⟩
theorem s_make {Post : Int32 → Int32 → (Nat → Int32) → (Nat → Int32) → (Nat → Int32) → (Nat → Int32) → (Nat → Int32) → (Nat → Int32) → (Nat → Int32) → (Nat → Int32) → (Nat → Int32) → (Nat → Int32) → Prop} {th : Int32} {hactions hwhat hwhere hnumber d r m s p v : Nat → Int32} {na co : Nat → Nat} {k t M B : Nat}
    (hP : PGr hactions hwhat hwhere hnumber na co) (hPN : PN na co) (hk : k < 4) (ht : t < 24) (hV : VS na k (M, B)) (hR : RA d r m s p v M B)
    (h1 : ∀ M' B' d' r' m' s' p' v', stp na co k t (M, B) = some (M', B') → RA d' r' m' s' p' v' M' B' → Post 1 th hactions hwhat hwhere hnumber d' r' m' s' p' v') (h0 : stp na co k t (M, B) = none → ∀ d' r' m' s' p' v', Post 0 th hactions hwhat hwhere hnumber d' r' m' s' p' v') :
    wp_MO_make Post th hactions hwhat hwhere hnumber d r m s p v (nI k) (nI t) := by
  have hV5 := hV.1.2.2
  simp only at hV5
  simp only [stp] at h1 h0
  rw [wp_MO_make, nI_z2 (by omega), nI_z1 (by omega), nI_z3 (by omega)]
  have n0 : ∀ E : Nat, V5 E → sz5 E = 0 → fi5 E none = none := fun E hE hs => by
    have := sz_c E
    have hE0 : E = 0 := by omega
    rw [fi5, if_pos hE0]
  have n1 : ∀ E : Nat, V5 E → 0 < sz5 E → fi5 E none = some 0 := fun E hE hs => by
    have := sz_c E
    rw [fi5, if_neg (by omega), if_pos (show ht5 E 0 none from trivial)]
  have d34 : t < 8 → 4 ≤ t → (k = 1 ∧ t < 8) ∨ (k = 3 ∧ t < 6) → wp_MO_make_34 Post th hactions hwhat hwhere hnumber d r m s p v (nI t) := by
    intro c8 c4 ck
    rw [if_neg (by omega), if_neg (by omega), if_pos ck] at h1 h0
    rw [wp_MO_make_34, show (4 : Int32) = nI 4 from rfl, pk_sub c4]
    simp only [drX] at h1 h0
    refine s_rdrain (i := 0) hR (hV5 (t - 4) (by omega)) (by omega) (by omega) (fun c m' s' p' v' hra => ⟨fun e => absurd e (by decide), fun _ => ?_⟩) (fun c => ⟨fun _ => ?_, fun e => absurd rfl e⟩)
    · rw [n1 _ (hV5 (t - 4) (by omega)) c] at h1
      exact h1 _ _ _ _ _ _ _ _ rfl hra
    · rw [n0 _ (hV5 (t - 4) (by omega)) (by omega)] at h0
      exact h0 rfl _ _ _ _ _ _
  refine pk_le 4 t (fun c4 => pk_le 8 t (fun c8 => ?_) (fun c8 => ⟨fun c1 => d34 c8 c4 (by omega), fun c1 => ⟨fun c3 => ?_, fun c3 => pk_le 6 t (fun c6 => ?_) (fun c6 => d34 c8 c4 (by omega))⟩⟩)) (fun c4 => ?_)
  · intro x1 e1
    rw [show (8 : Int32) = nI 8 from rfl, show (4 : Int32) = nI 4 from rfl, pk_sub c8, pk_div (by omega) (by decide) (by decide)] at e1
    subst e1
    refine ⟨fun c2 => ?_, fun c2 => ?_⟩
    · rw [if_neg (by omega), if_neg c2, if_neg (by omega)] at h0
      exact h0 rfl _ _ _ _ _ _
    · rw [if_neg (by omega), if_pos c2, if_neg (by omega)] at h0 h1
      rw [show (8 : Int32) = nI 8 from rfl, show (4 : Int32) = nI 4 from rfl, pk_sub c8, pk_rem (by omega) (by decide) (by decide)]
      simp only [drX] at h1 h0
      have hz := sz_le (FD B (15 * ((t - 8) / 4)) 15)
      refine s_oldestFor hR (hV5 _ (by omega)) (by omega) (by omega) (fun i hi hf hn => ?_)
      refine s_rdrain hR (hV5 _ (by omega)) (by omega) (by omega) (fun c m' s' p' v' hra => ⟨fun e => absurd e (by decide), fun _ => ?_⟩) (fun c => ⟨fun _ => ?_, fun e => absurd rfl e⟩)
      · rw [hf c] at h1
        exact h1 _ _ _ _ _ _ _ _ rfl hra
      · rw [hn (by omega)] at h0
        exact h0 rfl _ _ _ _ _ _
  · rw [if_neg (by omega), if_neg (show ¬ ((k = 1 ∧ t < 8) ∨ (k = 3 ∧ t < 6)) by omega)] at h0
    rw [show (if k = 2 then (if t < 8 then none else drX ((t - 8) / 4) (some ((t - 8) % 4)) M B) else none : Option (Nat × Nat)) = none by rw [if_pos c8, ite_self]] at h0
    exact h0 rfl _ _ _ _ _ _
  · rw [if_neg (by omega), if_neg (by omega), if_neg (by omega)] at h0
    exact h0 rfl _ _ _ _ _ _
  · rw [if_pos c4] at h1 h0
    refine s_ract hP hPN hk c4 hV hR (fun M' B' d' r' m' s' p' v' e hra => ⟨Or.inr rfl, h1 _ _ _ _ _ _ _ _ e hra⟩) (fun e d' r' m' s' p' v' => ⟨Or.inl rfl, h0 e _ _ _ _ _ _⟩)
