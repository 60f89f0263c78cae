/-! the class's room: a table that is at most half full -/
/-- where a state's search begins, under a mask -/
def h32 (x y : Nat) (mask : Int32) : Int32 :=
  ((((((lN x * (-7046029254386353131)) + (lN y * (-4417276706812531889))) ^^^ (((((lN x * (-7046029254386353131)) + (lN y * (-4417276706812531889))).toUInt64 >>> ((32 : Int32).toInt64.toUInt64 &&& Int64.toUInt64 63)).toInt64))) * (-7046029254386353131)).toUInt64 >>> ((32 : Int32).toInt64.toUInt64 &&& Int64.toUInt64 63)).toInt64).toInt32 &&& mask
theorem hs_ex (x : Nat × Nat) (w : Nat) : ∃ j : Nat, w ≤ 30 → h32 x.1 x.2 (nI (2 ^ w - 1)) = nI j ∧ j < 2 ^ w := by
  by_cases hw : w ≤ 30
  · have hp : 2 ^ w ≤ 2 ^ 30 := Nat.pow_le_pow_right (by decide) hw
    have h0 := Nat.two_pow_pos w
    have hm : (nI (2 ^ w - 1)).toBitVec.toNat = 2 ^ w - 1 := pk_tn (by omega)
    obtain ⟨j, hj, e⟩ := pk_andE ((((((lN x.1 * (-7046029254386353131)) + (lN x.2 * (-4417276706812531889))) ^^^ (((((lN x.1 * (-7046029254386353131)) + (lN x.2 * (-4417276706812531889))).toUInt64 >>> ((32 : Int32).toInt64.toUInt64 &&& Int64.toUInt64 63)).toInt64))) * (-7046029254386353131)).toUInt64 >>> ((32 : Int32).toInt64.toUInt64 &&& Int64.toUInt64 63)).toInt64).toInt32 w hm
    exact ⟨j, fun _ => ⟨e, hj⟩⟩
  · exact ⟨0, fun c => absurd c hw⟩
noncomputable def hs (x : Nat × Nat) (w : Nat) : Nat := Classical.choose (hs_ex x w)
theorem h32_hs (x : Nat × Nat) {w : Nat} (hw : w ≤ 30) : h32 x.1 x.2 (nI (2 ^ w - 1)) = nI (hs x w) ∧ hs x w < 2 ^ w := Classical.choose_spec (hs_ex x w) hw
/-- how many places below m are taken -/
def tk (f : Nat → Nat) : Nat → Nat
  | 0 => 0
  | m + 1 => tk f m + (if f m = 0 then 0 else 1)
def upN (f : Nat → Nat) (k v : Nat) : Nat → Nat := fun j => if j = k then v else f j
theorem upN_s {f : Nat → Nat} {k v : Nat} : upN f k v k = v := if_pos rfl
theorem upN_n {f : Nat → Nat} {k v j : Nat} (h : j ≠ k) : upN f k v j = f j := if_neg h
theorem tk_out {f : Nat → Nat} {j v m : Nat} (h : m ≤ j) : tk (upN f j v) m = tk f m := by
  induction m with
  | zero => rfl
  | succ m ih =>
    simp only [tk]
    rw [ih (by omega), upN_n (by omega)]
theorem tk_in {f : Nat → Nat} {j v m : Nat} (h : j < m) (h0 : f j = 0) (hv : v ≠ 0) : tk (upN f j v) m = tk f m + 1 := by
  induction m with
  | zero => omega
  | succ m ih =>
    simp only [tk]
    by_cases e : j = m
    · subst e
      rw [tk_out (Nat.le_refl _), upN_s, if_neg hv, if_pos h0]
    · rw [ih (by omega), upN_n (by omega)]
      omega
theorem tk_free {f : Nat → Nat} {m : Nat} (h : tk f m < m) : ∃ j, j < m ∧ f j = 0 := by
  induction m with
  | zero => omega
  | succ m ih =>
    simp only [tk] at h
    by_cases e : f m = 0
    · exact ⟨m, by omega, e⟩
    · rw [if_neg e] at h
      obtain ⟨j, hj, e2⟩ := ih (by omega)
      exact ⟨j, by omega, e2⟩
theorem tk_zero {f : Nat → Nat} {m : Nat} (h : ∀ j, j < m → f j = 0) : tk f m = 0 := by
  induction m with
  | zero => rfl
  | succ m ih =>
    simp only [tk]
    rw [ih (fun j hj => h j (by omega)), if_pos (h m (by omega))]
/-- the table f of 2^w places (0: free, else one more than an index) holds q 0 .. q (n - 1), each where its search meets it -/
def TB (w n : Nat) (q : Nat → Nat × Nat) (f : Nat → Nat) : Prop :=
  (∀ j, j < 2 ^ w → f j ≤ n) ∧ tk f (2 ^ w) = n ∧
  (∀ i, i < n → ∃ d, f ((hs (q i) w + d) % 2 ^ w) = i + 1 ∧ ∀ e, e < d → f ((hs (q i) w + e) % 2 ^ w) ≠ 0)
/-- the search for x ends at the place s -/
def SR (w : Nat) (q : Nat → Nat × Nat) (f : Nat → Nat) (x : Nat × Nat) (s : Nat) : Prop :=
  ∃ d, s = (hs x w + d) % 2 ^ w ∧ (∀ e, e < d → f ((hs x w + e) % 2 ^ w) ≠ 0 ∧ q (f ((hs x w + e) % 2 ^ w) - 1) ≠ x) ∧ (f s ≠ 0 → q (f s - 1) = x)
theorem sr_old {w n : Nat} {q : Nat → Nat × Nat} {f : Nat → Nat} {x : Nat × Nat} {s i : Nat} (hT : TB w n q f) (hS : SR w q f x s) (hi : i < n) (hx : q i = x) : f s ≠ 0 := by
  obtain ⟨d, hs1, h2, h3⟩ := hS
  obtain ⟨d', h4, h5⟩ := hT.2.2 i hi
  rw [hx] at h4 h5
  intro e
  by_cases c : d' < d
  · have := (h2 d' c).2
    rw [h4, Nat.add_sub_cancel, hx] at this
    exact this rfl
  · by_cases c2 : d < d'
    · exact h5 d c2 (by rw [← hs1]; exact e)
    · have : d = d' := by omega
      subst this
      rw [← hs1, e] at h4
      omega
theorem tb_ins {w n : Nat} {q : Nat → Nat × Nat} {f : Nat → Nat} {s : Nat} (hT : TB w n q f) (hS : SR w q f (q n) s) (h0 : f s = 0) : TB w (n + 1) q (upN f s (n + 1)) := by
  obtain ⟨h1, h2, h3⟩ := hT
  obtain ⟨d, hs1, h4, h5⟩ := hS
  have hlt : s < 2 ^ w := by
    rw [hs1]
    exact Nat.mod_lt _ (Nat.two_pow_pos w)
  have keep : ∀ j, f j ≠ 0 → upN f s (n + 1) j ≠ 0 := fun j hj => by
    simp only [upN]
    split <;> omega
  refine ⟨fun j hj => ?_, ?_, fun i hi => ?_⟩
  · have := h1 j hj
    simp only [upN]
    split <;> omega
  · rw [tk_in hlt h0 (by omega), h2]
  · by_cases e : i = n
    · subst e
      refine ⟨d, ?_, fun e he => keep _ (h4 e he).1⟩
      rw [← hs1, upN_s]
    · obtain ⟨d', h6, h7⟩ := h3 i (by omega)
      refine ⟨d', ?_, fun e he => keep _ (h7 e he)⟩
      rw [upN_n, h6]
      intro e2
      rw [e2, h0] at h6
      omega
theorem tb_zero {w : Nat} {q : Nat → Nat × Nat} {f : Nat → Nat} (h : ∀ j, j < 2 ^ w → f j = 0) : TB w 0 q f :=
  ⟨fun j hj => by rw [h j hj]; exact Nat.le_refl _, tk_zero h, fun i hi => by omega⟩
theorem m_and {a w : Nat} (hw : w ≤ 30) (ha : a < 2 ^ 31) : nI a &&& nI (2 ^ w - 1) = nI (a % 2 ^ w) := by
  have hp : 2 ^ w ≤ 2 ^ 30 := Nat.pow_le_pow_right (by decide) hw
  exact pk_andN (by omega) w (pk_tn (by omega))
/-- the arrays hold the states -/
def QH (m : Nat) (q : Nat → Nat × Nat) (fme fbu : Nat → Int64) : Prop := ∀ i, i < m → fme i = lN (q i).1 ∧ fbu i = lN (q i).2 ∧ (q i).1 < 2 ^ 63 ∧ (q i).2 < 2 ^ 63
theorem s_slotOf {Post : Int32 → Int32 → Int32 → Int32 → Nat → (Nat → Int64) → Nat → (Nat → Int64) → Nat → (Nat → Int32) → Prop} {rsize rcr : Int32} {w m n1 n2 n3 : Nat} {fme fbu : Nat → Int64} {fsl : Nat → Int32} {q : Nat → Nat × Nat} {f : Nat → Nat} {x : Nat × Nat}
    (hw : w ≤ 30) (hn3 : 2 ^ w ≤ n3) (hn3b : n3 < 2 ^ 31) (hn1 : m ≤ n1) (hn1b : n1 < 2 ^ 31) (hn2 : m ≤ n2) (hn2b : n2 < 2 ^ 31) (hQ : QH m q fme fbu) (hf : ∀ j, j < 2 ^ w → fsl j = nI (f j)) (hfm : ∀ j, j < 2 ^ w → f j ≤ m) (hfree : tk f (2 ^ w) < 2 ^ w) (hx1 : x.1 < 2 ^ 63) (hx2 : x.2 < 2 ^ 63)
    (h : ∀ s, s < 2 ^ w → SR w q f x s → Post (nI s) (nI (2 ^ w - 1)) rsize rcr n1 fme n2 fbu n3 fsl) :
    wp_RO_slotOf Post (nI (2 ^ w - 1)) rsize rcr n1 fme n2 fbu n3 fsl (lN x.1) (lN x.2) := by
  have hp : 2 ^ w ≤ 2 ^ 30 := Nat.pow_le_pow_right (by decide) hw
  have hp0 := Nat.two_pow_pos w
  rw [wp_RO_slotOf]
  intro y1 e1 y2 e2 y3 e3
  obtain ⟨hh, hhl⟩ := h32_hs x hw
  have e4 : y3 = nI (hs x w) := by
    rw [← hh, h32, e3, e2, e1]
  rw [e4]
  obtain ⟨j0, hj0, hz0⟩ := tk_free hfree
  have key : ∀ u t : Nat, u + t = 2 ^ w → (∀ e, e < t → f ((hs x w + e) % 2 ^ w) ≠ 0 ∧ q (f ((hs x w + e) % 2 ^ w) - 1) ≠ x) → wp_RO_slotOf_43 Post (u + 1) (nI (2 ^ w - 1)) rsize rcr n1 fme n2 fbu n3 fsl (lN x.1) (lN x.2) (nI ((hs x w + t) % 2 ^ w)) (nI t) := by
    intro u
    induction u with
    | zero =>
      intro t ht ha
      exfalso
      have c := (ha ((j0 + (2 ^ w - hs x w)) % 2 ^ w) (by have := Nat.mod_lt (j0 + (2 ^ w - hs x w)) hp0; omega)).1
      apply c
      rw [Nat.add_mod_mod, show hs x w + (j0 + (2 ^ w - hs x w)) = j0 + 2 ^ w by omega, Nat.add_mod_right, Nat.mod_eq_of_lt hj0]
      exact hz0
    | succ u ih =>
      intro t ht ha
      have hsl : (hs x w + t) % 2 ^ w < 2 ^ w := Nat.mod_lt _ hp0
      have hnx : ((hs x w + t) % 2 ^ w + 1) % 2 ^ w = (hs x w + (t + 1)) % 2 ^ w := by
        rw [Nat.mod_add_mod, Nat.add_assoc]
      have go : (f ((hs x w + t) % 2 ^ w) ≠ 0 ∧ q (f ((hs x w + t) % 2 ^ w) - 1) ≠ x) → wp_RO_slotOf_43 Post (u + 1) (nI (2 ^ w - 1)) rsize rcr n1 fme n2 fbu n3 fsl (lN x.1) (lN x.2) (nI ((hs x w + (t + 1)) % 2 ^ w)) (nI (t + 1)) := fun c =>
        ih (t + 1) (by omega) (fun e he => by
          by_cases e2 : e = t
          · subst e2
            exact c
          · exact ha e (by omega))
      have st : (f ((hs x w + t) % 2 ^ w) ≠ 0 → q (f ((hs x w + t) % 2 ^ w) - 1) = x) → Post (nI ((hs x w + t) % 2 ^ w)) (nI (2 ^ w - 1)) rsize rcr n1 fme n2 fbu n3 fsl := fun c => h _ hsl ⟨t, rfl, ha, c⟩
      generalize hS : (hs x w + t) % 2 ^ w = S at hsl hnx go st ⊢
      rw [wp_RO_slotOf_43]
      refine pk_lt (2 ^ w - 1) t (fun c => by omega) (fun c => ?_)
      refine ⟨vp_in_nI (by omega) hn3b, fun x4 e4 => ?_⟩
      rw [nI_clamp (by omega), hf S hsl] at e4
      by_cases c0 : f S = 0
      · rw [c0] at e4
        refine ⟨fun _ => st (fun c => absurd c0 c), fun c => absurd (by rw [e4]; decide) c⟩
      · have hle := hfm S hsl
        rw [show f S = (f S - 1) + 1 by omega, nI_pred] at e4
        subst e4
        obtain ⟨g1, g2, g3, g4⟩ := hQ (f S - 1) (by omega)
        refine ⟨fun c => absurd c (nI_pos (by omega)), fun _ => ⟨vp_in_nI (by omega) hn1b, ?_⟩⟩
        rw [nI_clamp (by omega), g1, lg_cmp_eq, pk_lEQ g3 hx1]
        have nx : wp_RO_slotOf_95 Post (fun (rmask : Int32) (rsize : Int32) (rcr : Int32) (n1 : Nat) (fme : Nat → Int64) (n2 : Nat) (fbu : Nat → Int64) (n3 : Nat) (fsl : Nat → Int32) (L1 : Int64) (L3 : Int64) (L7 : Int32) (L8 : Int32) => wp_RO_slotOf_43 Post (u + 1) rmask rsize rcr n1 fme n2 fbu n3 fsl L1 L3 L7 L8) (nI (2 ^ w - 1)) rsize rcr n1 fme n2 fbu n3 fsl (lN x.1) (lN x.2) (nI S) (nI t) ↔ wp_RO_slotOf_43 Post (u + 1) (nI (2 ^ w - 1)) rsize rcr n1 fme n2 fbu n3 fsl (lN x.1) (lN x.2) (nI ((hs x w + (t + 1)) % 2 ^ w)) (nI (t + 1)) := by
          rw [wp_RO_slotOf_95, nI_1, nI_1, m_and hw (by omega), hnx]
          exact ⟨fun a => a _ rfl _ rfl, fun a x1 e1 x2 e2 => by rw [e1, e2]; exact a⟩
        rw [nx]
        refine ⟨fun c => go ⟨c0, fun e => c (by rw [e])⟩, fun c => ⟨vp_in_nI (by omega) hn2b, ?_⟩⟩
        rw [g2, lg_cmp_eq, pk_lEQ g4 hx2]
        refine ⟨fun c2 => go ⟨c0, fun e => c2 (by rw [e])⟩, fun c2 => st (fun _ => Prod.ext c c2)⟩
  have := key (2 ^ w) 0 (by omega) (fun e he => by omega)
  rw [show (hs x w + 0) % 2 ^ w = hs x w from Nat.mod_eq_of_lt hhl] at this
  rw [show (0 : Int32) = nI 0 from rfl]
  exact ⟨_, this⟩
/-! filling -/
theorem s_fillR {Post : (Nat → Int32) → Prop} {n0 : Nat} {f0 : Nat → Int32} {fm to : Nat} {v : Int32} (hn : n0 < 2 ^ 31) (h1 : fm ≤ to) (h2 : to ≤ n0) (h : Post (fun j => if fm ≤ j ∧ j < to then v else f0 j)) : wp_JA_fill_aIIII Post n0 f0 (nI fm) (nI to) v := by
  rw [wp_JA_fill_aIIII, wp_JA_rangeCheck]
  refine pk_le fm to (fun _ => ?_) (fun c => by omega)
  refine pk_le 0 fm (fun _ => ?_) (fun c => by omega)
  refine pk_le to n0 (fun _ => ?_) (fun c => by omega)
  have key : ∀ u t : Nat, u + t = to → fm ≤ t → wp_JA_fill_aIIII_10 Post n0 (u + 1) (fun j => if fm ≤ j ∧ j < t then v else f0 j) (nI to) v (nI t) := by
    intro u
    induction u with
    | zero =>
      intro t ht hf
      rw [wp_JA_fill_aIIII_10]
      refine pk_le to t (fun _ => ?_) (fun c => by omega)
      rw [show t = to by omega]
      exact h
    | succ u ih =>
      intro t ht hf
      rw [wp_JA_fill_aIIII_10]
      refine pk_le to t (fun c => by omega) (fun c => ⟨vp_in_nI (by omega) hn, fun f2 e2 x3 e3 => ?_⟩)
      rw [nI_1] at e3
      rw [nI_clamp (by omega)] at e2
      have e4 : f2 = fun j => if fm ≤ j ∧ j < t + 1 then v else f0 j := by
        rw [e2]
        funext j
        simp only [upd]
        by_cases e : j = t
        · rw [if_pos e, if_pos (by omega)]
        · rw [if_neg e]
          by_cases c5 : fm ≤ j ∧ j < t
          · rw [if_pos c5, if_pos (by omega)]
          · rw [if_neg c5, if_neg (by omega)]
      rw [e3, e4]
      exact ih (t + 1) (by omega) (by omega)
  refine ⟨to - fm + 1, ?_⟩
  have := key (to - fm) fm (by omega) (Nat.le_refl _)
  rw [show (fun j => if fm ≤ j ∧ j < fm then v else f0 j) = f0 by
    funext j
    rw [if_neg (by omega)]] at this
  exact this
theorem s_fillA {Post : (Nat → Int32) → Prop} {n0 : Nat} {f0 : Nat → Int32} {v : Int32} (hn : n0 < 2 ^ 31) (h : Post (fun j => if j < n0 then v else f0 j)) : wp_JA_fill_aII Post n0 f0 v := by
  rw [wp_JA_fill_aII]
  intro x1 e1
  have e1' : x1 = nI n0 := e1
  rw [e1']
  have key : ∀ u t : Nat, u + t = n0 → wp_JA_fill_aII_5 Post n0 (u + 1) (fun j => if j < t then v else f0 j) v (nI t) (nI n0) := by
    intro u
    induction u with
    | zero =>
      intro t ht
      rw [wp_JA_fill_aII_5]
      refine pk_le n0 t (fun _ => ?_) (fun c => by omega)
      rw [show t = n0 by omega]
      exact h
    | succ u ih =>
      intro t ht
      rw [wp_JA_fill_aII_5]
      refine pk_le n0 t (fun c => by omega) (fun c => ⟨vp_in_nI (by omega) hn, fun f2 e2 x3 e3 => ?_⟩)
      rw [nI_1] at e3
      rw [nI_clamp (by omega)] at e2
      have e4 : f2 = fun j => if j < t + 1 then v else f0 j := by
        rw [e2]
        funext j
        simp only [upd]
        by_cases e : j = t
        · rw [if_pos e, if_pos (by omega)]
        · rw [if_neg e]
          by_cases c5 : j < t
          · rw [if_pos c5, if_pos (by omega)]
          · rw [if_neg c5, if_neg (by omega)]
      rw [e3, e4]
      exact ih (t + 1) (by omega)
  exact ⟨n0 + 1, key n0 0 (by omega)⟩
