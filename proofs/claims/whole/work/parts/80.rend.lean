/-! the reference's ends -/
theorem B_zero {B : Nat} (hB : B < 2 ^ 60) (h : ∀ b, b < 4 → FD B (15 * b) 15 = 0) : B = 0 := by
  have h0 := h 0 (by omega)
  have h1 := h 1 (by omega)
  have h2 := h 2 (by omega)
  have h3 := h 3 (by omega)
  simp only [FD] at h0 h1 h2 h3
  omega
theorem sz_zero {E : Nat} : sz5 E = 0 ↔ E = 0 := by
  have := sz_c E
  omega
theorem s_isEnd {Post : Int32 → Int32 → (Nat → Int32) → (Nat → Int32) → (Nat → Int32) → Prop} {th : Int32} {hactions d r m s p v : Nat → Int32} {na : Nat → Nat} {k M B : Nat} (hna : ∀ t, t < 4 → hactions t = nI (na t) ∧ na t ≤ 5) (hV : VS na k (M, B)) (hR : RA d r m s p v M B)
    (h1 : aend na (M, B) → Post 1 th hactions d s) (h0 : ¬ aend na (M, B) → Post 0 th hactions d s) : wp_MO_isEnd Post th hactions d s := by
  have hdn : ∀ t, dnF M t < 8 := fun t => dn_lt M t
  have hle : ∀ t, t < 4 → dnF M t ≤ na t := fun t ht => hV.2.2 t ht
  have hall : (∀ t, t < 4 → dnF M t = na t ∧ sz5 (FD B (15 * t) 15) = 0) ↔ aend na (M, B) := by
    constructor
    · intro a
      refine ⟨fun t ht => ?_, B_zero hV.1.2.1 (fun b hb => sz_zero.mp (a b hb).2)⟩
      have := (a t ht).1
      simp only [dnF] at this
      show na t ≤ FD M (40 + 3 * t) 3
      omega
    · intro a t ht
      have a1 : na t ≤ FD M (40 + 3 * t) 3 := a.1 t ht
      have a2 := hle t ht
      simp only [dnF] at a2 ⊢
      have a3 : B = 0 := a.2
      refine ⟨by omega, ?_⟩
      rw [a3]
      simp [FD, sz5]
  have key : ∀ u t L1, u + t = 4 → (L1 = 1 ∧ (∀ t', t' < t → dnF M t' = na t' ∧ sz5 (FD B (15 * t') 15) = 0) ∨ L1 = 0 ∧ ∃ t', t' < 4 ∧ ¬ (dnF M t' = na t' ∧ sz5 (FD B (15 * t') 15) = 0)) → wp_MO_isEnd_4 Post (u + 1) th hactions d s L1 (nI t) := by
    intro u
    induction u with
    | zero =>
      intro t L1 ht hL
      rw [wp_MO_isEnd_4]
      refine pk_le 4 t (fun _ => ?_) (fun c => by omega)
      rcases hL with ⟨rfl, a⟩ | ⟨rfl, t', a, b⟩
      · exact ⟨Or.inr rfl, h1 (hall.mp (fun t' ht' => a t' (by omega)))⟩
      · exact ⟨Or.inl rfl, h0 (fun c => b (hall.mpr c t' a))⟩
    | succ u ih =>
      intro t L1 ht hL
      have nx : ∀ L, (L = 1 ∧ (∀ t', t' < t + 1 → dnF M t' = na t' ∧ sz5 (FD B (15 * t') 15) = 0) ∨ L = 0 ∧ ∃ t', t' < 4 ∧ ¬ (dnF M t' = na t' ∧ sz5 (FD B (15 * t') 15) = 0)) → wp_MO_isEnd_42 Post (fun (th : Int32) (hactions : Nat → Int32) (hdone : Nat → Int32) (hsize : Nat → Int32) (L1 : Int32) (L2 : Int32) => wp_MO_isEnd_4 Post (u + 1) th hactions hdone hsize L1 L2) th hactions d s (nI t) L := by
        intro L a
        rw [wp_MO_isEnd_42]
        intro x1 e1
        rw [nI_1] at e1
        rw [e1]
        exact ih (t + 1) L (by omega) a
      have hz := sz_le (FD B (15 * t) 15)
      have hd8 := hdn t
      have hn5 := (hna t (by omega)).2
      rw [wp_MO_isEnd_4, nI_clamp (by omega), (hna t (by omega)).1, hR.1 t (by omega), hR.2.2.2.1 t (by omega), nI_eq (by omega) (by omega), nI_z0 (by omega)]
      refine pk_le 4 t (fun c => by omega) (fun _ => ⟨fun c => ?_, fun c => ⟨vp_in_nI (by omega) (by decide), vp_in_nI (by omega) (by decide), fun c2 => ?_, fun c2 => ⟨vp_in_nI (by omega) (by decide), fun c3 => ?_, fun c3 => ?_⟩⟩⟩)
      · rw [wp_MO_isEnd_41]
        rcases hL with ⟨e, a⟩ | a
        · rw [e] at c
          exact absurd c (by decide)
        · exact nx 0 (Or.inr ⟨rfl, a.2⟩)
      · rw [wp_MO_isEnd_41]
        exact nx 0 (Or.inr ⟨rfl, t, by omega, fun a => c2 a.1⟩)
      · rw [wp_MO_isEnd_41]
        exact nx 0 (Or.inr ⟨rfl, t, by omega, fun a => c3 a.2⟩)
      · refine nx 1 (Or.inl ⟨rfl, fun t' ht' => ?_⟩)
        rcases hL with ⟨e, a⟩ | a
        · by_cases x : t' = t
          · rw [x]
            exact ⟨c2, c3⟩
          · exact a t' (by omega)
        · exact absurd a.1 c
  exact ⟨5, key 4 0 1 (by omega) (Or.inl ⟨rfl, fun t' ht' => by omega⟩)⟩
theorem fd_mod {M N a w : Nat} (h : a + w ≤ N) : FD (M % 2 ^ N) a w = FD M a w := by
  apply Nat.eq_of_testBit_eq
  intro i
  rw [fd_bit, fd_bit, Nat.testBit_mod_two_pow]
  by_cases c : i < w
  · simp [c, show a + i < N by omega]
  · simp [c]
theorem dig4 (K a : Nat) : K / 2 ^ (a + 2) * 2 ^ 2 + FD K a 2 = K / 2 ^ a := by
  rw [FD, Nat.pow_add, ← Nat.div_div_eq_div_mul, Nat.mul_comm]
  exact Nat.div_add_mod _ _
theorem fa_rg (M : Nat) : ∀ t, t ≤ 16 → fa 2 (rgF M) 0 t = M % 2 ^ 40 / 2 ^ (2 * (20 - t)) := by
  intro t
  induction t with
  | zero => intro _; rw [show 2 * (20 - 0) = 40 by omega, Nat.div_eq_of_lt (Nat.mod_lt _ (by decide))]; rfl
  | succ t ih =>
    intro ht
    rw [fa, ih (by omega), rgF, ← fd_mod (N := 40) (show 2 * (19 - t) + 2 ≤ 40 by omega), show 2 * (20 - t) = 2 * (19 - t) + 2 by omega, dig4, show 2 * (20 - (t + 1)) = 2 * (19 - t) by omega]
theorem fa_mm (M : Nat) : ∀ t, t ≤ 4 → fa 2 (mmF M) (fa 2 (rgF M) 0 16) t = M % 2 ^ 40 / 2 ^ (2 * (4 - t)) := by
  intro t
  induction t with
  | zero => intro _; exact fa_rg M 16 (by omega)
  | succ t ih =>
    intro ht
    rw [fa, ih (by omega), mmF, ← fd_mod (N := 40) (show 2 * (3 - t) + 2 ≤ 40 by omega), show 2 * (4 - t) = 2 * (3 - t) + 2 by omega, dig4, show 2 * (4 - (t + 1)) = 2 * (3 - t) by omega]
theorem s_outcomeNow {Post : Int64 → Int32 → (Nat → Int32) → (Nat → Int32) → Prop} {th : Int32} {d r m s p v : Nat → Int32} {M B : Nat} (hR : RA d r m s p v M B) (h : Post (lN (M % 2 ^ 40)) th r m) : wp_MO_outcomeNow Post th r m := by
  have k2 : ∀ u t, u + t = 4 → wp_MO_outcomeNow_32 Post (u + 1) th r m (lN (fa 2 (mmF M) (fa 2 (rgF M) 0 16) t)) (nI t) := by
    intro u
    induction u with
    | zero =>
      intro t ht
      rw [wp_MO_outcomeNow_32]
      refine pk_le 4 t (fun _ => ?_) (fun c => by omega)
      rw [show t = 4 by omega, fa_mm M 4 (by omega), show 2 ^ (2 * (4 - 4)) = 1 from rfl, Nat.div_one]
      exact h
    | succ u ih =>
      intro t ht
      have hm := mm_lt M t
      rw [wp_MO_outcomeNow_32, nI_clamp (by omega), hR.2.2.1 t (by omega), nI_l (by omega), show (4 : Int64) = lN 4 from rfl, lN_mul, lN_add]
      refine pk_le 4 t (fun c => by omega) (fun _ => ⟨vp_in_nI (by omega) (by decide), fun x3 e3 x4 e4 => ?_⟩)
      rw [nI_1] at e4
      rw [e3, e4, Nat.mul_comm]
      exact ih (t + 1) (by omega)
  have k1 : ∀ u t, u + t = 16 → wp_MO_outcomeNow_4 Post (u + 1) th r m (lN (fa 2 (rgF M) 0 t)) (nI t) := by
    intro u
    induction u with
    | zero =>
      intro t ht
      rw [wp_MO_outcomeNow_4]
      refine pk_le 16 t (fun _ => ⟨5, ?_⟩) (fun c => by omega)
      rw [show t = 16 by omega]
      exact k2 4 0 (by omega)
    | succ u ih =>
      intro t ht
      have hm := rg_lt M t
      rw [wp_MO_outcomeNow_4, nI_clamp (by omega), hR.2.1 t (by omega), nI_l (by omega), show (4 : Int64) = lN 4 from rfl, lN_mul, lN_add]
      refine pk_le 16 t (fun c => by omega) (fun _ => ⟨vp_in_nI (by omega) (by decide), fun x3 e3 x4 e4 => ?_⟩)
      rw [nI_1] at e4
      rw [e3, e4, Nat.mul_comm]
      exact ih (t + 1) (by omega)
  exact ⟨17, k1 16 0 (by omega)⟩
/-- one put between -/
def insN (u : Nat → Nat) (a V j : Nat) : Nat := if j < a then u j else if j = a then V else u (j - 1)
theorem cnt_ins {u : Nat → Nat} {a V x : Nat} : ∀ n, a ≤ n → cnt (insN u a V) x (n + 1) = cnt u x n + if V = x then 1 else 0 := by
  intro n
  induction n with
  | zero =>
    intro ha
    have : a = 0 := by omega
    subst this
    have h2 : insN u 0 V 0 = V := rfl
    rw [show cnt (insN u 0 V) x (0 + 1) = 0 + (if insN u 0 V 0 = x then 1 else 0) from rfl, h2]
    rfl
  | succ n ih =>
    intro ha
    by_cases e : a = n + 1
    · have h1 : cnt (insN u a V) x (n + 1) = cnt u x (n + 1) := cnt_ext (fun j hj => by simp only [insN]; rw [if_pos (by omega)])
      have h2 : insN u a V (n + 1) = V := by simp only [insN]; rw [if_neg (by omega), if_pos (by omega)]
      rw [show cnt (insN u a V) x (n + 1 + 1) = cnt (insN u a V) x (n + 1) + (if insN u a V (n + 1) = x then 1 else 0) from rfl, h1, h2]
    · have h2 : insN u a V (n + 1) = u n := by simp only [insN]; rw [if_neg (by omega), if_neg (by omega)]; rfl
      rw [show cnt (insN u a V) x (n + 1 + 1) = cnt (insN u a V) x (n + 1) + (if insN u a V (n + 1) = x then 1 else 0) from rfl, ih (by omega), h2, show cnt u x (n + 1) = cnt u x n + (if u n = x then 1 else 0) from rfl]
      omega
theorem st_ins {u : Nat → Nat} {a V n : Nat} (ha : a ≤ n) (hu : ST n u) (h1 : 0 < a → u (a - 1) ≤ V) (h2 : ∀ j, a ≤ j → j < n → V ≤ u j) : ST (n + 1) (insN u a V) := by
  intro i j hij hj
  simp only [insN]
  by_cases c1 : i < a
  · rw [if_pos c1]
    have h3 := h1 (by omega)
    have h4 := hu i (a - 1) (by omega) (by omega)
    by_cases c2 : j < a
    · rw [if_pos c2]
      exact hu i j hij (by omega)
    · rw [if_neg c2]
      by_cases c3 : j = a
      · rw [if_pos c3]
        omega
      · rw [if_neg c3]
        exact hu i (j - 1) (by omega) (by omega)
  · rw [if_neg c1, if_neg (show ¬ j < a by omega)]
    by_cases c3 : i = a
    · rw [if_pos c3]
      by_cases c4 : j = a
      · rw [if_pos c4]
        exact Nat.le_refl _
      · rw [if_neg c4]
        exact h2 (j - 1) (by omega) (by omega)
    · rw [if_neg c3, if_neg (show ¬ j = a by omega)]
      exact hu (i - 1) (j - 1) (by omega) (by omega)
def RE (k n : Nat) (w : Nat → Nat) (houtcomes hends : Nat → Int32) (hendOutcome : Nat → Int64) : Prop := houtcomes k = nI n ∧ ∀ j, j < n → hendOutcome (12001 * k + j) = lN (w j / 2 ^ 14) ∧ hends (12001 * k + j) = nI (w j % 2 ^ 14)
def FE (k : Nat) (n1 e1 : Nat → Int32) (g1 : Nat → Int64) (n2 e2 : Nat → Int32) (g2 : Nat → Int64) : Prop := (∀ x, x ≠ k → n2 x = n1 x) ∧ ∀ x, (x < 12001 * k ∨ 12001 * k + 12001 ≤ x) → e2 x = e1 x ∧ g2 x = g1 x
theorem s_raddEnd {Post : Int32 → (Nat → Int32) → (Nat → Int32) → (Nat → Int32) → (Nat → Int32) → (Nat → Int64) → Prop} {th : Int32} {d r m s p v hN hE o1 o2 : Nat → Int32} {hG o3 : Nat → Int64} {k n i M B : Nat} {w : Nat → Nat} (hR : RA d r m s p v M B) (hk : k < 4) (hn : n < 12000) (hi : i < 12000)
    (hX : RE k n w hN hE hG) (hO : FE k o1 o2 o3 hN hE hG) (hS : ST n w) (hb : ∀ j, j < n → w j % 2 ^ 14 < i ∧ w j < 2 ^ 54)
    (h : ∀ hN' hE' hG' w', RE k (n + 1) w' hN' hE' hG' → FE k o1 o2 o3 hN' hE' hG' → ST (n + 1) w' → (∀ x, cnt w' x (n + 1) = cnt w x n + if M % 2 ^ 40 * 2 ^ 14 + i = x then 1 else 0) → (∀ j, j < n + 1 → w' j % 2 ^ 14 < i + 1 ∧ w' j < 2 ^ 54) → Post th r m hN' hE' hG') :
    wp_MO_addEnd Post th r m hN hE hG (nI k) (nI i) := by
  obtain ⟨x1, x2⟩ := hX
  obtain ⟨y1, y2⟩ := hO
  rw [wp_MO_addEnd]
  refine s_outcomeNow hR ⟨vp_in_nI hk (by decide), fun x5 e5 => ?_⟩
  rw [nI_clamp (by omega), x1, show (12001 : Int32) = nI 12001 from rfl, pk_mul, nI_add] at e5
  subst e5
  have hV : M % 2 ^ 40 < 2 ^ 40 := Nat.mod_lt _ (by decide)
  generalize hVe : M % 2 ^ 40 = V at *
  have fin : ∀ a hE2 hG2, a ≤ n → (∀ j, j < a → hG2 (12001 * k + j) = lN (w j / 2 ^ 14) ∧ hE2 (12001 * k + j) = nI (w j % 2 ^ 14)) → (∀ j, a ≤ j → j < n → hG2 (12001 * k + (j + 1)) = lN (w j / 2 ^ 14) ∧ hE2 (12001 * k + (j + 1)) = nI (w j % 2 ^ 14)) → (∀ x, (x < 12001 * k ∨ 12001 * k + 12001 ≤ x) → hE2 x = o2 x ∧ hG2 x = o3 x) → (∀ j, a ≤ j → j < n → V * 2 ^ 14 + i ≤ w j) → (0 < a → w (a - 1) ≤ V * 2 ^ 14 + i) →
      wp_MO_addEnd_81 Post th r m hN hE2 hG2 (nI k) (nI i) (lN V) (nI (12001 * k + a)) := by
    intro a hE2 hG2 ha z1 z2 z3 z4 z5
    rw [wp_MO_addEnd_81, nI_clamp (by omega), nI_clamp (by omega), x1, nI_1]
    refine ⟨vp_in_nI (by omega) (by decide), fun f9 e9 => ⟨vp_in_nI (by omega) (by decide), fun f10 e10 => ⟨vp_in_nI hk (by decide), vp_in_nI hk (by decide), fun f11 e11 => ?_⟩⟩⟩
    refine h _ _ _ (insN w a (V * 2 ^ 14 + i)) ⟨by rw [e11, pk_us], fun j hj => ?_⟩ ⟨fun x hx => ?_, fun x hx => ?_⟩ (st_ins ha hS z5 z4) (fun x => cnt_ins n ha) (fun j hj => ?_)
    · rw [e9, e10]
      simp only [insN]
      by_cases c : j < a
      · rw [if_pos c, pk_uLn (by omega), pk_un (by omega)]
        exact z1 j c
      · rw [if_neg c]
        by_cases c2 : j = a
        · rw [if_pos c2, c2, pk_uLs, pk_us]
          constructor
          · congr 1
            omega
          · congr 1
            omega
        · rw [if_neg c2, pk_uLn (by omega), pk_un (by omega), show j = (j - 1) + 1 by omega]
          exact z2 (j - 1) (by omega) (by omega)
    · rw [e11, pk_un hx]
      exact y1 x hx
    · rw [e9, e10, pk_uLn (by omega), pk_un (by omega)]
      exact z3 x hx
    · simp only [insN]
      by_cases c : j < a
      · rw [if_pos c]
        have := hb j (by omega)
        omega
      · rw [if_neg c]
        by_cases c2 : j = a
        · rw [if_pos c2]
          omega
        · rw [if_neg c2]
          have := hb (j - 1) (by omega)
          omega
  have key : ∀ a hE2 hG2, a ≤ n → (∀ j, j < a → hG2 (12001 * k + j) = lN (w j / 2 ^ 14) ∧ hE2 (12001 * k + j) = nI (w j % 2 ^ 14)) → (∀ j, a ≤ j → j < n → hG2 (12001 * k + (j + 1)) = lN (w j / 2 ^ 14) ∧ hE2 (12001 * k + (j + 1)) = nI (w j % 2 ^ 14)) → (∀ x, (x < 12001 * k ∨ 12001 * k + 12001 ≤ x) → hE2 x = o2 x ∧ hG2 x = o3 x) → (∀ j, a ≤ j → j < n → V * 2 ^ 14 + i ≤ w j) →
      wp_MO_addEnd_19 Post (a + 1) th r m hN hE2 hG2 (nI k) (nI i) (lN V) (nI (12001 * k + a)) := by
    intro a
    induction a with
    | zero =>
      intro hE2 hG2 ha z1 z2 z3 z4
      rw [wp_MO_addEnd_19, show (12001 : Int32) = nI 12001 from rfl, pk_mul]
      exact pk_le (12001 * k + 0) (12001 * k) (fun _ => fin 0 hE2 hG2 ha z1 z2 z3 z4 (fun c => by omega)) (fun c => by omega)
    | succ a ih =>
      intro hE2 hG2 ha z1 z2 z3 z4
      have hz := z1 a (by omega)
      have hba := hb a (by omega)
      rw [wp_MO_addEnd_19, show (12001 : Int32) = nI 12001 from rfl, pk_mul, show (1 : Int32) = nI 1 from rfl, pk_sub (by omega), show 12001 * k + (a + 1) - 1 = 12001 * k + a by omega, nI_clamp (by omega), nI_clamp (by omega), hz.1, hz.2, lg_cmp_le, pk_lLE (by omega) (by omega)]
      refine pk_le (12001 * k + (a + 1)) (12001 * k) (fun c => by omega) (fun _ => ⟨vp_in_nI (by omega) (by decide), fun c => ?_, fun c => ⟨vp_in_nI (by omega) (by decide), vp_in_nI (by omega) (by decide), fun f6 e6 => ⟨vp_in_nI (by omega) (by decide), vp_in_nI (by omega) (by decide), fun f7 e7 x8 e8 => ?_⟩⟩⟩)
      · exact fin (a + 1) hE2 hG2 ha z1 z2 z3 z4 (fun _ => by rw [show a + 1 - 1 = a by omega]; omega)
      · rw [← Int32.sub_eq_add_neg, pk_sub (by omega), show 12001 * k + (a + 1) - 1 = 12001 * k + a by omega] at e8
        subst e8
        refine ih f7 f6 (by omega) (fun j hj => ?_) (fun j hj hjn => ?_) (fun x hx => ?_) (fun j hj hjn => ?_)
        · rw [e6, e7, pk_uLn (by omega), pk_un (by omega)]
          exact z1 j (by omega)
        · rw [e6, e7]
          by_cases c2 : j = a
          · rw [c2, pk_uLs, pk_us]
            exact ⟨rfl, rfl⟩
          · rw [pk_uLn (by omega), pk_un (by omega)]
            exact z2 j (by omega) hjn
        · rw [e6, e7, pk_uLn (by omega), pk_un (by omega)]
          exact z3 x hx
        · by_cases c2 : j = a
          · rw [c2]
            omega
          · exact z4 j (by omega) hjn
  exact ⟨n + 1, key n hE hG (Nat.le_refl _) x2 (fun j a b => by omega) y2 (fun j a b => by omega)⟩
