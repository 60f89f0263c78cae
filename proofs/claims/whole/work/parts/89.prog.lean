/-! the program: class and reference -/
theorem s_d4 {x : Int32} {A B : Prop} (h1 : ∀ j, j < 4 → x = nI j → B) (h0 : (∀ j, j < 4 → x ≠ nI j) → A) : (x < 0 → A) ∧ (¬ x < 0 → ((4 ≤ x → A) ∧ (¬ 4 ≤ x → B))) := by
  refine ⟨fun c => h0 (fun j hj e => ?_), fun c => ?_⟩
  · rw [e] at c
    exact nI_pos (by omega) c
  · obtain ⟨j, hj, e⟩ := nI_of c
    refine ⟨fun c2 => h0 (fun i hi e2 => ?_), fun c2 => h1 j ?_ e⟩
    · rw [e2] at c2
      exact absurd c2 (nI_ge hi (by decide))
    · by_cases x4 : j < 4
      · exact x4
      · rw [e] at c2
        exact absurd (nI_le (show 4 ≤ j by omega) hj) c2
theorem s_isDigit {Post : Int32 → Prop} {x : Int32} (h1 : ∀ j, j < 4 → x = nI j → Post 1) (h0 : (∀ j, j < 4 → x ≠ nI j) → Post 0) : wp_OM_isDigit Post x := s_d4 h1 h0
theorem s_isKind {Post : Int32 → Prop} {x : Int32} (h1 : ∀ j, j < 4 → x = nI j → Post 1) (h0 : (∀ j, j < 4 → x ≠ nI j) → Post 0) : wp_OM_isKind Post x := s_d4 h1 h0
def OKA (tt ww pp nn : Int32) : Prop := ∃ t w p n : Nat, t < 4 ∧ w < 4 ∧ p < 4 ∧ n < 4 ∧ (w = 2 → p = 0 ∧ n = 0) ∧ tt = nI t ∧ ww = nI w ∧ pp = nI p ∧ nn = nI n
theorem nI4_inj {a b : Nat} (ha : a < 4) (hb : b < 4) (h : nI a = nI b) : a = b := (nI_eq (by omega) (by omega)).mp h
theorem s_canBe {Post : Int32 → Prop} {tt ww pp nn : Int32} (h1 : OKA tt ww pp nn → Post 1) (h0 : ¬ OKA tt ww pp nn → Post 0) : wp_PR_canBe Post tt ww pp nn := by
  rw [wp_PR_canBe]
  refine s_d4 (fun t ht et => ?_) (fun hn => h0 (fun ⟨t, w, p, n, q1, q2, q3, q4, q5, q6, q7, q8, q9⟩ => hn t q1 q6))
  refine ⟨fun c => h0 (fun ⟨t, w, p, n, q1, q2, q3, q4, q5, q6, q7, q8, q9⟩ => ?_), fun c => ⟨fun c2 => ?_, fun c2 => h0 (fun ⟨t, w, p, n, q1, q2, q3, q4, q5, q6, q7, q8, q9⟩ => ?_)⟩⟩
  · rw [q7] at c
    exact nI_pos (by omega) c
  · obtain ⟨w, hw, ew⟩ := nI_of c
    have hw4 : w < 4 := by
      by_cases x : w < 4
      · exact x
      · rw [ew] at c2
        exact absurd c2 (nI_ge (show 3 < w by omega) hw)
    refine ⟨fun c3 => ?_, fun c3 => ⟨fun c4 => h0 (fun ⟨t, w', p, n, q1, q2, q3, q4, q5, q6, q7, q8, q9⟩ => ?_), fun c4 => ⟨fun c5 => h0 (fun ⟨t, w', p, n, q1, q2, q3, q4, q5, q6, q7, q8, q9⟩ => ?_), fun c5 => ?_⟩⟩⟩
    · have hw2 : w ≠ 2 := fun e => c3 (by rw [ew, e]; rfl)
      refine s_isDigit (fun p hp ep => ⟨fun c => absurd c (by decide), fun _ => s_isDigit (fun n hn en => ⟨fun c => absurd c (by decide), fun _ => ?_⟩) (fun hno => ⟨fun _ => h0 (fun ⟨t, w, p, n, q1, q2, q3, q4, q5, q6, q7, q8, q9⟩ => hno n q4 q9), fun c => absurd rfl c⟩)⟩) (fun hno => ⟨fun _ => h0 (fun ⟨t, w, p, n, q1, q2, q3, q4, q5, q6, q7, q8, q9⟩ => hno p q3 q8), fun c => absurd rfl c⟩)
      exact h1 ⟨t, w, p, n, ht, hw4, hp, hn, fun e => absurd e hw2, et, ew, ep, en⟩
    · have e2 : w' = 2 := nI4_inj q2 (by decide) (q7.symm.trans c3)
      rw [q8, (q5 e2).1] at c4
      exact c4 rfl
    · have e2 : w' = 2 := nI4_inj q2 (by decide) (q7.symm.trans c3)
      rw [q9, (q5 e2).2] at c5
      exact c5 rfl
    · exact h1 ⟨t, w, 0, 0, ht, hw4, by decide, by decide, fun _ => ⟨rfl, rfl⟩, et, ew, c4, c5⟩
  · rw [q7] at c2
    exact c2 (nI_le (show w ≤ 3 by omega) (by decide))
theorem s_append {Post : (Nat → Int32) → (Nat → Int32) → Prop} {pc pl : Nat → Int32} {na co : Nat → Nat} {t w p n : Nat} (hP : PGc pc pl na co) (ht : t < 4) (hw : w < 4) (hp : p < 4) (hn : n < 4) (hna : na t < 5)
    (h : ∀ pc' pl', PGc pc' pl' (upN na t (na t + 1)) (upN co (5 * t + na t) (16 * w + 4 * p + n)) → pl' t = nI (na t + 1) → Post pc' pl') : wp_PR_append Post pc pl (nI t) (nI w) (nI p) (nI n) := by
  rw [wp_PR_append, nI_clamp (by omega), (hP.1 t ht).1, show (5 : Int32) = nI 5 from rfl, show (4 : Int32) = nI 4 from rfl, pk_mul, pk_mul, nI_add, nI_add, pk_mul, nI_add, nI_clamp (by omega), nI_1]
  refine ⟨vp_in_nI ht (by decide), vp_in_nI (by omega) (by decide), fun f1 e1 => ⟨vp_in_nI ht (by decide), vp_in_nI ht (by decide), fun f2 e2 => h f1 f2 ⟨fun x hx => ?_, fun j hj => ?_⟩ (by rw [e2, pk_us])⟩⟩
  · rw [e2]
    by_cases e : x = t
    · rw [e, pk_us, upN_s]
      exact ⟨rfl, by omega⟩
    · rw [pk_un e, upN_n e]
      exact hP.1 x hx
  · rw [e1]
    by_cases e : j = 5 * t + na t
    · rw [e, upN_s, show t * 5 + na t = 5 * t + na t by omega, pk_us]
      refine ⟨?_, by omega⟩
      congr 1
      omega
    · rw [upN_n e, pk_un (by omega)]
      exact hP.2 j hj
theorem PGc_zero {pc pl : Nat → Int32} {na co : Nat → Nat} (hP : PGc pc pl na co) : PGc pc (fun j => if j < 4 then 0 else pl j) (fun _ => 0) co := ⟨fun t ht => ⟨if_pos ht, Nat.zero_le _⟩, hP.2⟩
theorem s_dropAll {Post : (Nat → Int32) → (Nat → Int32) → Prop} {pc pl : Nat → Int32} {na co : Nat → Nat} (hP : PGc pc pl na co) (h : ∀ pl', PGc pc pl' (fun _ => 0) co → Post pc pl') : wp_PR_dropAll Post pc pl := by
  rw [wp_PR_dropAll]
  exact s_fillA (by decide) (h _ (PGc_zero hP))
/-! the reference's -/
theorem s_forget {Post : Int32 → (Nat → Int32) → Prop} {th : Int32} {hknown : Nat → Int32} (h : ∀ hknown', (∀ k, k < 4 → hknown' k = 0) → Post th hknown') : wp_MO_forget Post th hknown := by
  have key : ∀ u j hk, u + j = 4 → (∀ k, k < j → hk k = 0) → wp_MO_forget_2 Post (u + 1) th hk (nI j) := by
    intro u
    induction u with
    | zero =>
      intro j hk hj hz
      rw [wp_MO_forget_2]
      exact pk_le 4 j (fun _ => h hk (fun k hk4 => hz k (by omega))) (fun c => by omega)
    | succ u ih =>
      intro j hk hj hz
      rw [wp_MO_forget_2, nI_clamp (by omega), vb0]
      refine pk_le 4 j (fun c => by omega) (fun _ => ⟨vp_in_nI (by omega) (by decide), fun f1 e1 x2 e2 => ?_⟩)
      rw [nI_1] at e2
      rw [e2]
      refine ih (j + 1) f1 (by omega) (fun k hk' => ?_)
      rw [e1]
      by_cases e : k = j
      · rw [e, pk_us]
      · rw [pk_un e]
        exact hz k (by omega)
  exact ⟨5, key 4 0 hknown (by omega) (fun k hk => by omega)⟩
theorem s_r_action {Post : Int32 → Int32 → (Nat → Int32) → (Nat → Int32) → (Nat → Int32) → (Nat → Int32) → (Nat → Int32) → Prop} {th tt ww pp nn : Int32} {hactions hwhat hwhere hnumber hknown : Nat → Int32} {na co : Nat → Nat} (hP : PGr hactions hwhat hwhere hnumber na co) (hPN : PN na co)
    (h0 : ∀ t w p n, t < 4 → w < 4 → p < 4 → n < 4 → (w = 2 → p = 0 ∧ n = 0) → tt = nI t → ww = nI w → pp = nI p → nn = nI n → na t < 5 → ∀ hactions' hwhat' hwhere' hnumber' hknown', PGr hactions' hwhat' hwhere' hnumber' (upN na t (na t + 1)) (upN co (5 * t + na t) (16 * w + 4 * p + n)) → (∀ k, k < 4 → hknown' k = 0) → Post (nI (na t + 1)) 0 hactions' hwhat' hwhere' hnumber' hknown')
    (h2 : ∀ t w p n, t < 4 → w < 4 → p < 4 → n < 4 → (w = 2 → p = 0 ∧ n = 0) → tt = nI t → ww = nI w → pp = nI p → nn = nI n → na t = 5 → Post 0 2 hactions hwhat hwhere hnumber hknown)
    (h1 : ¬ OKA tt ww pp nn → Post 0 1 hactions hwhat hwhere hnumber hknown) : wp_MO_action Post th hactions hwhat hwhere hnumber hknown tt ww pp nn := by
  have b54 : ¬ OKA tt ww pp nn → wp_MO_action_54 Post 0 hactions hwhat hwhere hnumber hknown := fun x => h1 x
  rw [wp_MO_action]
  refine within_of (n := 4) (by decide) w3 (fun t ht et => ⟨fun c => absurd c (by decide), fun _ => ?_⟩) (fun hno => ⟨fun _ => b54 (fun ⟨t, w, p, n, q1, q2, q3, q4, q5, q6, q7, q8, q9⟩ => hno t q1 q6), fun c => absurd rfl c⟩)
  refine within_of (n := 4) (by decide) w3 (fun w hw ew => ⟨fun c => absurd c (by decide), fun _ => ?_⟩) (fun hno => ⟨fun _ => b54 (fun ⟨t, w, p, n, q1, q2, q3, q4, q5, q6, q7, q8, q9⟩ => hno w q2 q7), fun c => absurd rfl c⟩)
  refine within_of (n := 4) (by decide) w3 (fun p hp ep => ⟨fun c => absurd c (by decide), fun _ => ?_⟩) (fun hno => ⟨fun _ => b54 (fun ⟨t, w, p, n, q1, q2, q3, q4, q5, q6, q7, q8, q9⟩ => hno p q3 q8), fun c => absurd rfl c⟩)
  refine within_of (n := 4) (by decide) w3 (fun n hn en => ⟨fun c => absurd c (by decide), fun _ => ?_⟩) (fun hno => ⟨fun _ => b54 (fun ⟨t, w, p, n, q1, q2, q3, q4, q5, q6, q7, q8, q9⟩ => hno n q4 q9), fun c => absurd rfl c⟩)
  have go : (w = 2 → p = 0 ∧ n = 0) → wp_MO_action_60 Post 0 hactions hwhat hwhere hnumber hknown tt ww pp nn := by
    intro hf
    have h0' := h0 t w p n ht hw hp hn hf et ew ep en
    have h2' := h2 t w p n ht hw hp hn hf et ew ep en
    have h5 := hPN.1 t ht
    rw [wp_MO_action_60, et, nI_clamp (by omega), hP.1 t ht, show (5 : Int32) = nI 5 from rfl, pk_mul, nI_add, nI_eq (by omega) (by decide)]
    refine ⟨vp_in_nI ht (by decide), fun c => ?_, fun c => h2' c⟩
    rw [nI_clamp (by omega), nI_1]
    refine ⟨vp_in_nI ht (by decide), vp_in_nI (by omega) (by decide), fun f7 e7 => ⟨vp_in_nI ht (by decide), vp_in_nI (by omega) (by decide), fun f8 e8 => ⟨vp_in_nI ht (by decide), vp_in_nI (by omega) (by decide), fun f9 e9 => ⟨vp_in_nI ht (by decide), vp_in_nI ht (by decide), fun f10 e10 => ?_⟩⟩⟩⟩
    refine s_forget (fun hknown' hz => ⟨vp_in_nI ht (by decide), ?_⟩)
    have e10t : f10 t = nI (na t + 1) := by rw [e10, pk_us]
    rw [e10t]
    refine h0' (by omega) _ _ _ _ _ ⟨fun x hx => ?_, fun j hj => ?_⟩ hz
    · rw [e10]
      by_cases e : x = t
      · rw [e, pk_us, upN_s]
      · rw [pk_un e, upN_n e]
        exact hP.1 x hx
    · rw [e7, e8, e9]
      by_cases e : j = 5 * t + na t
      · rw [e, pk_us, pk_us, pk_us, upN_s, ew, ep, en]
        refine ⟨?_, ?_, ?_⟩
        · congr 1
          omega
        · congr 1
          omega
        · congr 1
          omega
      · rw [pk_un e, pk_un e, pk_un e, upN_n e]
        exact hP.2 j hj
  refine ⟨fun c => go (fun e => absurd (by rw [ew, e]; rfl) c), fun c => ?_⟩
  have hw2 : w = 2 := nI4_inj hw (by decide) (ew.symm.trans c)
  refine ⟨fun c2 => go (fun _ => ?_), fun c2 => b54 (fun ⟨t', w', p', n', q1, q2, q3, q4, q5, q6, q7, q8, q9⟩ => ?_)⟩
  · rw [ep, en, nI_add, show (0 : Int32) = nI 0 from rfl, nI_leI (by omega) (by decide)] at c2
    omega
  · have hw' : w' = 2 := nI4_inj q2 (by decide) (q7.symm.trans c)
    rw [q8, q9, (q5 hw').1, (q5 hw').2] at c2
    exact c2 (by decide)
theorem s_r_clear {Post : Int32 → (Nat → Int32) → (Nat → Int32) → Prop} {th : Int32} {hactions hknown : Nat → Int32} (h : ∀ hactions' hknown', (∀ t, t < 4 → hactions' t = 0) → (∀ k, k < 4 → hknown' k = 0) → Post 0 hactions' hknown') : wp_MO_clear Post th hactions hknown := by
  have key : ∀ u j ha, u + j = 4 → (∀ k, k < j → ha k = 0) → wp_MO_clear_7 Post (u + 1) 0 ha hknown (nI j) := by
    intro u
    induction u with
    | zero =>
      intro j ha hj hz
      rw [wp_MO_clear_7]
      exact pk_le 4 j (fun _ => s_forget (fun hk' hz2 => h ha hk' (fun t ht => hz t (by omega)) hz2)) (fun c => by omega)
    | succ u ih =>
      intro j ha hj hz
      rw [wp_MO_clear_7, nI_clamp (by omega)]
      refine pk_le 4 j (fun c => by omega) (fun _ => ⟨vp_in_nI (by omega) (by decide), fun f1 e1 x2 e2 => ?_⟩)
      rw [nI_1] at e2
      rw [e2]
      refine ih (j + 1) f1 (by omega) (fun k hk' => ?_)
      rw [e1]
      by_cases e : k = j
      · rw [e, pk_us]
      · rw [pk_un e]
        exact hz k (by omega)
  exact ⟨5, key 4 0 hactions (by omega) (fun k hk => by omega)⟩
/-! counts -/
def sA (f : Nat → Nat) : Nat → Nat
  | 0 => 0
  | t + 1 => sA f t + f t
def cT (na : Nat → Nat) (t : Nat) : Nat := if na t = 0 then 0 else 1
def cW (co : Nat → Nat) (w t i : Nat) : Nat := if co (5 * t + i) / 16 = w then 1 else 0
def cS (na co : Nat → Nat) (w t : Nat) : Nat := sA (cW co w t) (na t)
theorem s_actionCount {Post : Int32 → (Nat → Int32) → (Nat → Int32) → Prop} {pc pl : Nat → Int32} {na co : Nat → Nat} (hP : PGc pc pl na co) (h : Post (nI (sA na 4)) pc pl) : wp_PR_actionCount Post pc pl := by
  have key : ∀ u t, u + t = 4 → wp_PR_actionCount_4 Post (u + 1) pc pl (nI (sA na t)) (nI t) := by
    intro u
    induction u with
    | zero =>
      intro t ht
      rw [wp_PR_actionCount_4]
      refine pk_le 4 t (fun _ => ?_) (fun c => by omega)
      rw [show t = 4 by omega]
      exact h
    | succ u ih =>
      intro t ht
      rw [wp_PR_actionCount_4, nI_clamp (by omega), (hP.1 t (by omega)).1]
      refine pk_le 4 t (fun c => by omega) (fun _ => ⟨vp_in_nI (by omega) (by decide), fun x1 e1 x2 e2 => ?_⟩)
      rw [nI_add] at e1
      rw [nI_1] at e2
      rw [e1, e2]
      exact ih (t + 1) (by omega)
  exact ⟨5, key 4 0 (by omega)⟩
theorem s_threadCount {Post : Int32 → (Nat → Int32) → (Nat → Int32) → Prop} {pc pl : Nat → Int32} {na co : Nat → Nat} (hP : PGc pc pl na co) (h : Post (nI (sA (cT na) 4)) pc pl) : wp_PR_threadCount Post pc pl := by
  have key : ∀ u t, u + t = 4 → wp_PR_threadCount_4 Post (u + 1) pc pl (nI (sA (cT na) t)) (nI t) := by
    intro u
    induction u with
    | zero =>
      intro t ht
      rw [wp_PR_threadCount_4]
      refine pk_le 4 t (fun _ => ?_) (fun c => by omega)
      rw [show t = 4 by omega]
      exact h
    | succ u ih =>
      intro t ht
      have h5 := (hP.1 t (by omega)).2
      have ih1 := ih (t + 1) (by omega)
      rw [show sA (cT na) (t + 1) = sA (cT na) t + (if na t = 0 then 0 else 1) from rfl] at ih1
      rw [wp_PR_threadCount_4, nI_clamp (by omega), (hP.1 t (by omega)).1]
      refine pk_le 4 t (fun c => by omega) (fun _ => ⟨vp_in_nI (by omega) (by decide), ?_⟩)
      rw [show (0 : Int32) = nI 0 from rfl]
      refine pk_le (na t) 0 (fun c => ?_) (fun c => ?_)
      · rw [if_pos (by omega)] at ih1
        rw [wp_PR_threadCount_24]
        intro x1 e1 x2 e2
        rw [nI_add] at e1
        rw [nI_1] at e2
        rw [e1, e2]
        exact ih1
      · rw [if_neg (by omega)] at ih1
        rw [wp_PR_threadCount_24]
        intro x1 e1 x2 e2
        rw [nI_1] at e1
        rw [nI_1] at e2
        rw [e1, e2]
        exact ih1
  exact ⟨5, key 4 0 (by omega)⟩
theorem s_countOf {Post : Int32 → (Nat → Int32) → (Nat → Int32) → Prop} {pc pl : Nat → Int32} {na co : Nat → Nat} {w : Nat} (hP : PGc pc pl na co) (hw : w < 4) (h : Post (nI (sA (cS na co w) 4)) pc pl) : wp_PR_countOf Post pc pl (nI w) := by
  have key : ∀ u t, u + t = 4 → wp_PR_countOf_4 Post (u + 1) pc pl (nI w) (nI (sA (cS na co w) t)) (nI t) := by
    intro u
    induction u with
    | zero =>
      intro t ht
      rw [wp_PR_countOf_4]
      refine pk_le 4 t (fun _ => ?_) (fun c => by omega)
      rw [show t = 4 by omega]
      exact h
    | succ u ih =>
      intro t ht
      have h5 := (hP.1 t (by omega)).2
      have inner : ∀ v i, v + i = na t → wp_PR_countOf_12 Post (fun (pc : Nat → Int32) (pl : Nat → Int32) (L1 : Int32) (L2 : Int32) (L3 : Int32) => wp_PR_countOf_4 Post (u + 1) pc pl L1 L2 L3) (v + 1) pc pl (nI w) (nI (sA (cS na co w) t + sA (cW co w t) i)) (nI t) (nI i) := by
        intro v
        induction v with
        | zero =>
          intro i hi
          rw [wp_PR_countOf_12, nI_clamp (by omega), (hP.1 t (by omega)).1]
          refine ⟨vp_in_nI (by omega) (by decide), pk_le (na t) i (fun _ x1 e1 => ?_) (fun c => by omega)⟩
          rw [nI_1] at e1
          rw [e1, show i = na t by omega]
          exact ih (t + 1) (by omega)
        | succ v ihv =>
          intro i hi
          have hq := hP.2 (5 * t + i) (by omega)
          have ihv1 := ihv (i + 1) (by omega)
          rw [show sA (cW co w t) (i + 1) = sA (cW co w t) i + (if co (5 * t + i) / 16 = w then 1 else 0) from rfl] at ihv1
          rw [wp_PR_countOf_12, nI_clamp (by omega), (hP.1 t (by omega)).1]
          refine ⟨vp_in_nI (by omega) (by decide), pk_le (na t) i (fun c => by omega) (fun _ => ?_)⟩
          rw [wp_PR_codeOf, show (5 : Int32) = nI 5 from rfl, pk_mul, nI_add, nI_clamp (by omega), show t * 5 + i = 5 * t + i by omega, hq.1, show (16 : Int32) = nI 16 from rfl, pk_div (by omega) (by decide) (by decide), nI_eq (by omega) (by omega)]
          refine ⟨vp_in_nI (by omega) (by decide), fun c => ?_, fun c => ?_⟩
          · rw [if_neg c] at ihv1
            rw [wp_PR_countOf_43]
            intro x5 e5 x6 e6
            rw [show (0 : Int32) = nI 0 from rfl, nI_add] at e5
            rw [nI_1] at e6
            rw [e5, e6]
            exact ihv1
          · rw [if_pos c, ← Nat.add_assoc] at ihv1
            rw [wp_PR_countOf_43]
            intro x5 e5 x6 e6
            rw [nI_1] at e5
            rw [nI_1] at e6
            rw [e5, e6]
            exact ihv1
      rw [wp_PR_countOf_4]
      refine pk_le 4 t (fun c => by omega) (fun _ => ⟨na t + 1, ?_⟩)
      exact inner (na t) 0 (by omega)
  exact ⟨5, key 4 0 (by omega)⟩
noncomputable def CN (na co : Nat → Nat) (a : Int32) : Int32 := if a = 0 then nI (sA na 4) else if a = 1 then nI (sA (cT na) 4) else if a = 2 then nI (sA (cS na co 0) 4) else if a = 3 then nI (sA (cS na co 1) 4) else if a = 4 then nI (sA (cS na co 2) 4) else if a = 5 then nI (sA (cS na co 3) 4) else -1
theorem s_rc63 {Post : Int32 → Int32 → (Nat → Int32) → (Nat → Int32) → Prop} {K20 : Int32 → (Nat → Int32) → (Nat → Int32) → Int32 → Int32 → Int32 → Prop} {th : Int32} {hactions hwhat : Nat → Int32} {a : Int32} {t x : Nat} (hx : a ≤ 1) (ht : t < 4)
    (h : K20 th hactions hwhat a (nI x) (nI (t + 1))) : ∃ n_63 : Nat, wp_MO_count_63 Post K20 n_63 th hactions hwhat a (nI x) (nI t) 0 := by
  have g : wp_MO_count_135 Post K20 th hactions hwhat a (nI x) (nI t) := by
    rw [wp_MO_count_135]
    intro x3 e3
    rw [nI_1] at e3
    rw [e3]
    exact h
  refine ⟨1, ?_⟩
  rw [wp_MO_count_63]
  exact ⟨vp_in_nI ht (by decide), fun _ => g, fun _ => ⟨fun _ => g, fun c => absurd hx c⟩⟩
theorem s_rc63w {Post : Int32 → Int32 → (Nat → Int32) → (Nat → Int32) → Prop} {K20 : Int32 → (Nat → Int32) → (Nat → Int32) → Int32 → Int32 → Int32 → Prop} {th : Int32} {hactions hwhat hwhere hnumber : Nat → Int32} {na co : Nat → Nat} {w t x : Nat} (hP : PGr hactions hwhat hwhere hnumber na co) (hPN : PN na co) (hw : w < 4) (ht : t < 4)
    (h : K20 th hactions hwhat (nI (w + 2)) (nI (x + cS na co w t)) (nI (t + 1))) : ∃ n_63 : Nat, wp_MO_count_63 Post K20 n_63 th hactions hwhat (nI (w + 2)) (nI x) (nI t) 0 := by
  have h5 := hPN.1 t ht
  have key : ∀ u i, u + i = na t → wp_MO_count_63 Post K20 (u + 1) th hactions hwhat (nI (w + 2)) (nI (x + sA (cW co w t) i)) (nI t) (nI i) := by
    intro u
    induction u with
    | zero =>
      intro i hi
      rw [wp_MO_count_63, nI_clamp (by omega), hP.1 t ht]
      refine ⟨vp_in_nI ht (by decide), pk_le (na t) i (fun _ => ?_) (fun c => by omega)⟩
      rw [wp_MO_count_135]
      intro x3 e3
      rw [nI_1] at e3
      rw [e3, show i = na t by omega]
      exact h
    | succ u ih =>
      intro i hi
      have hq := (hP.2 (5 * t + i) (by omega)).1
      have h64 := hPN.2 (5 * t + i) (by omega)
      have ih1 := ih (i + 1) (by omega)
      rw [show sA (cW co w t) (i + 1) = sA (cW co w t) i + (if co (5 * t + i) / 16 = w then 1 else 0) from rfl] at ih1
      have c127 : ∀ b : Nat, sA (cW co w t) i + b = sA (cW co w t) i + (if co (5 * t + i) / 16 = w then 1 else 0) → wp_MO_count_127 Post K20 (fun (th : Int32) (hactions : Nat → Int32) (hwhat : Nat → Int32) (L1 : Int32) (L2 : Int32) (L3 : Int32) (L4 : Int32) => wp_MO_count_63 Post K20 (u + 1) th hactions hwhat L1 L2 L3 L4) th hactions hwhat (nI (w + 2)) (nI t) (nI i) (nI b) (nI (x + sA (cW co w t) i)) := by
        intro b hb
        rw [wp_MO_count_127]
        intro x4 e4 x5 e5
        rw [nI_add, Nat.add_assoc, hb] at e4
        rw [nI_1] at e5
        rw [e4, e5]
        exact ih1
      have c119 : wp_MO_count_119 Post K20 (fun (th : Int32) (hactions : Nat → Int32) (hwhat : Nat → Int32) (L1 : Int32) (L2 : Int32) (L3 : Int32) (L4 : Int32) => wp_MO_count_63 Post K20 (u + 1) th hactions hwhat L1 L2 L3 L4) th hactions hwhat (nI (w + 2)) (nI t) (nI i) (nI w) (nI (co (5 * t + i) / 16)) (nI (x + sA (cW co w t) i)) := by
        rw [wp_MO_count_119, nI_eq (by omega) (by omega)]
        refine ⟨fun c => c127 0 (by rw [if_neg c]), fun c => c127 1 (by rw [if_pos c])⟩
      rw [wp_MO_count_63, nI_clamp (by omega), hP.1 t ht, show (5 : Int32) = nI 5 from rfl, pk_mul, nI_add, nI_clamp (by omega), hq]
      refine ⟨vp_in_nI ht (by decide), pk_le (na t) i (fun c => by omega) (fun _ => pk_le (w + 2) 1 (fun c => by omega) (fun _ => ⟨vp_in_nI (by omega) (by decide), ?_⟩))⟩
      rcases (show w = 0 ∨ w = 1 ∨ w = 2 ∨ w = 3 by omega) with rfl | rfl | rfl | rfl
      · exact ⟨fun c => absurd rfl c, fun _ => c119⟩
      · exact ⟨fun _ => ⟨fun c => absurd rfl c, fun _ => c119⟩, fun c => absurd c (by decide)⟩
      · exact ⟨fun _ => ⟨fun _ => ⟨fun c => absurd rfl c, fun _ => c119⟩, fun c => absurd c (by decide)⟩, fun c => absurd c (by decide)⟩
      · exact ⟨fun _ => ⟨fun _ => ⟨fun _ => c119, fun c => absurd c (by decide)⟩, fun c => absurd c (by decide)⟩, fun c => absurd c (by decide)⟩
  exact ⟨na t + 1, key (na t) 0 (by omega)⟩
theorem s_r_count {Post : Int32 → Int32 → (Nat → Int32) → (Nat → Int32) → Prop} {th a : Int32} {hactions hwhat hwhere hnumber : Nat → Int32} {na co : Nat → Nat} (hP : PGr hactions hwhat hwhere hnumber na co) (hPN : PN na co) (h : Post (CN na co a) 0 hactions hwhat) : wp_MO_count Post th hactions hwhat a := by
  have w5 : (5 : Int32).toInt = ((6 : Nat) : Int) - 1 := by decide
  rw [wp_MO_count]
  refine within_of (n := 6) (by decide) w5 (fun j hj e => ⟨fun _ => ?_, fun c => absurd c (by decide)⟩) (fun hno => ⟨fun c => absurd rfl c, fun _ => ?_⟩)
  · have lp : ∀ (f : Nat → Nat), Post (nI (sA f 4)) 0 hactions hwhat → (∀ (n t : Nat), t < 4 → wp_MO_count_20 Post n 0 hactions hwhat a (nI (sA f t + f t)) (nI (t + 1)) → wp_MO_count_20 Post (n + 1) 0 hactions hwhat a (nI (sA f t)) (nI t)) → ∃ n_20 : Nat, wp_MO_count_20 Post n_20 0 hactions hwhat a 0 0 := by
      intro f hf hs
      have key : ∀ u t, u + t = 4 → wp_MO_count_20 Post (u + 1) 0 hactions hwhat a (nI (sA f t)) (nI t) := by
        intro u
        induction u with
        | zero =>
          intro t ht
          rw [wp_MO_count_20]
          refine pk_le 4 t (fun _ => ?_) (fun c => by omega)
          rw [show t = 4 by omega]
          exact hf
        | succ u ih =>
          intro t ht
          exact hs (u + 1) t (by omega) (ih (t + 1) (by omega))
      exact ⟨5, key 4 0 (by omega)⟩
    have big : ∀ w, w < 4 → a = nI (w + 2) → Post (nI (sA (cS na co w) 4)) 0 hactions hwhat → ∃ n_20 : Nat, wp_MO_count_20 Post n_20 0 hactions hwhat a 0 0 := by
      intro w hw ea hp
      refine lp (cS na co w) hp (fun n t ht hk => ?_)
      rw [ea] at hk ⊢
      rw [wp_MO_count_20]
      refine pk_le 4 t (fun c => by omega) (fun _ => ⟨fun _ => ⟨fun _ => ?_, fun c => ?_⟩, fun c => ?_⟩)
      · rw [wp_MO_count_57, wp_MO_count_58]
        intro x2 e2
        rw [show (0 : Int32) = nI 0 from rfl, nI_add, Nat.add_zero] at e2
        rw [e2]
        exact s_rc63w hP hPN hw ht hk
      · rw [nI_z1 (by omega)] at c
        omega
      · rw [nI_z0 (by omega)] at c
        omega
    simp only [CN] at h
    subst e
    rcases (show j = 0 ∨ j = 1 ∨ j = 2 ∨ j = 3 ∨ j = 4 ∨ j = 5 by omega) with rfl | rfl | rfl | rfl | rfl | rfl
    · refine lp na h (fun n t ht hk => ?_)
      rw [wp_MO_count_20]
      refine pk_le 4 t (fun c => by omega) (fun _ => ⟨fun c => absurd rfl c, fun _ => ⟨vp_in_nI ht (by decide), ?_⟩⟩)
      rw [wp_MO_count_58]
      intro x2 e2
      rw [nI_clamp (by omega), hP.1 t ht, nI_add] at e2
      rw [e2]
      exact s_rc63 (by decide) ht hk
    · refine lp (cT na) h (fun n t ht hk => ?_)
      have h5 := hPN.1 t ht
      rw [wp_MO_count_20]
      refine pk_le 4 t (fun c => by omega) (fun _ => ⟨fun _ => ⟨fun c => absurd rfl c, fun _ => ⟨vp_in_nI ht (by decide), ?_⟩⟩, fun c => absurd c (by decide)⟩)
      rw [nI_clamp (by omega), hP.1 t ht, show (0 : Int32) = nI 0 from rfl]
      simp only [cT] at hk
      refine pk_le (na t) 0 (fun c => ?_) (fun c => ?_)
      · rw [if_pos (by omega)] at hk
        rw [wp_MO_count_57, wp_MO_count_58]
        intro x2 e2
        rw [show (0 : Int32) = nI 0 from rfl, nI_add] at e2
        rw [e2]
        exact s_rc63 (by decide) ht hk
      · rw [if_neg (by omega)] at hk
        rw [wp_MO_count_58]
        intro x2 e2
        rw [nI_1] at e2
        rw [e2]
        exact s_rc63 (by decide) ht hk
    · exact big 0 (by decide) rfl h
    · exact big 1 (by decide) rfl h
    · exact big 2 (by decide) rfl h
    · exact big 3 (by decide) rfl h
  · simp only [CN] at h
    rw [if_neg (show ¬ a = 0 from hno 0 (by decide)), if_neg (show ¬ a = 1 from hno 1 (by decide)), if_neg (show ¬ a = 2 from hno 2 (by decide)), if_neg (show ¬ a = 3 from hno 3 (by decide)), if_neg (show ¬ a = 4 from hno 4 (by decide)), if_neg (show ¬ a = 5 from hno 5 (by decide))] at h
    exact h
