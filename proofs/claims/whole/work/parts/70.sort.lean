/-! sorting: the same contents, in order -/
def cnt (v : Nat → Nat) (x : Nat) : Nat → Nat
  | 0 => 0
  | m + 1 => cnt v x m + (if v m = x then 1 else 0)
theorem cnt_out {v : Nat → Nat} {a y x m : Nat} (h : m ≤ a) : cnt (upN v a y) x m = cnt v x m := by
  induction m with
  | zero => rfl
  | succ m ih =>
    simp only [cnt]
    rw [ih (by omega), upN_n (by omega)]
theorem cnt_up {v : Nat → Nat} {a y x m : Nat} (h : a < m) : cnt (upN v a y) x m + (if v a = x then 1 else 0) = cnt v x m + (if y = x then 1 else 0) := by
  induction m with
  | zero => omega
  | succ m ih =>
    simp only [cnt]
    by_cases e : a = m
    · subst e
      rw [cnt_out (Nat.le_refl _), upN_s]
      omega
    · have := ih (by omega)
      rw [upN_n (by omega)]
      omega
theorem cnt_ext {v w : Nat → Nat} {x m : Nat} (h : ∀ j, j < m → v j = w j) : cnt v x m = cnt w x m := by
  induction m with
  | zero => rfl
  | succ m ih =>
    simp only [cnt]
    rw [ih (fun j hj => h j (by omega)), h m (by omega)]
theorem cnt_pos {v : Nat → Nat} {x m : Nat} (h : 0 < cnt v x m) : ∃ j, j < m ∧ v j = x := by
  induction m with
  | zero => exact absurd h (Nat.lt_irrefl _)
  | succ m ih =>
    simp only [cnt] at h
    by_cases e : v m = x
    · exact ⟨m, by omega, e⟩
    · rw [if_neg e] at h
      obtain ⟨j, hj, e2⟩ := ih h
      exact ⟨j, by omega, e2⟩
theorem cnt_mem {v : Nat → Nat} {j m : Nat} (h : j < m) : 0 < cnt v (v j) m := by
  induction m with
  | zero => omega
  | succ m ih =>
    simp only [cnt]
    by_cases e : j = m
    · subst e
      rw [if_pos rfl]
      omega
    · have := ih (by omega)
      omega
def SO (n : Nat) (v w : Nat → Nat) : Prop := ∀ x, cnt v x n = cnt w x n
def ST (n : Nat) (v : Nat → Nat) : Prop := ∀ a b, a ≤ b → b < n → v a ≤ v b
theorem so_refl (n : Nat) (v : Nat → Nat) : SO n v v := fun _ => rfl
theorem so_trans {n : Nat} {u v w : Nat → Nat} (h1 : SO n u v) (h2 : SO n v w) : SO n u w := fun x => (h1 x).trans (h2 x)
theorem so_symm {n : Nat} {u v : Nat → Nat} (h1 : SO n u v) : SO n v u := fun x => (h1 x).symm
/-- in order and with the same contents: the same -/
theorem so_eq {n : Nat} {v w : Nat → Nat} (h : SO n v w) (hv : ST n v) (hw : ST n w) : ∀ j, j < n → v j = w j := by
  induction n with
  | zero => intro j hj; omega
  | succ n ih =>
    have e : v n = w n := by
      obtain ⟨a, ha, ea⟩ := cnt_pos (show 0 < cnt w (v n) (n + 1) by rw [← h]; exact cnt_mem (by omega))
      obtain ⟨b, hb, eb⟩ := cnt_pos (show 0 < cnt v (w n) (n + 1) by rw [h]; exact cnt_mem (by omega))
      have h1 := hw a n (by omega) (by omega)
      have h2 := hv b n (by omega) (by omega)
      omega
    intro j hj
    by_cases ej : j = n
    · rw [ej]
      exact e
    · refine ih (fun x => ?_) (fun a b hab hb => hv a b hab (by omega)) (fun a b hab hb => hw a b hab (by omega)) j (by omega)
      have := h x
      simp only [cnt] at this
      rw [e] at this
      omega
/-- a hole at a that x is to fill: what stands at b goes to a, the hole to b -/
theorem so_move {n : Nat} {v : Nat → Nat} {a b x : Nat} (ha : a < n) (hb : b < n) (hab : a ≠ b) : SO n (upN (upN v a (v b)) b x) (upN v a x) := by
  intro y
  have h1 := cnt_up (v := upN v a (v b)) (a := b) (y := x) (x := y) (m := n) hb
  have h2 := cnt_up (v := v) (a := a) (y := v b) (x := y) (m := n) ha
  have h3 := cnt_up (v := v) (a := a) (y := x) (x := y) (m := n) ha
  rw [upN_n (Ne.symm hab)] at h1
  omega
/-- the array holds v below n -/
def AH (n : Nat) (v : Nat → Nat) (fen : Nat → Int64) : Prop := ∀ j, j < n → fen j = lN (v j) ∧ v j < 2 ^ 63
theorem ah_up {n : Nat} {v : Nat → Nat} {fen : Nat → Int64} {a x : Nat} (h : AH n v fen) (hx : x < 2 ^ 63) : AH n (upN v a x) (vp_updL fen a (lN x)) := by
  intro j hj
  by_cases e : j = a
  · subst e
    rw [upN_s, pk_uLs]
    exact ⟨rfl, hx⟩
  · rw [upN_n e, pk_uLn e]
    exact h j hj
theorem s_sort31 {Post : Int32 → Int32 → Int32 → Int32 → Int32 → Int32 → Nat → (Nat → Int32) → Nat → (Nat → Int64) → (Nat → Int32) → Prop} {K7 : Int32 → Int32 → Int32 → Int32 → Int32 → Int32 → Nat → (Nat → Int32) → Nat → (Nat → Int64) → (Nat → Int32) → Int32 → Prop} {K13 : Int32 → Int32 → Int32 → Int32 → Int32 → Int32 → Nat → (Nat → Int32) → Nat → (Nat → Int64) → (Nat → Int32) → Int32 → Int32 → Prop}
    {fr cr sc sk cc : Int32} {m1 : Nat} {ftr : Nat → Int32} {m2 : Nat} {fcu : Nat → Int32} {n g i x : Nat} {v0 : Nat → Nat} (hnm : n ≤ m2) (hm : m2 < 2 ^ 31) (hg : 1 ≤ g) (hi : i < n) (hx : x < 2 ^ 63) (hgn : g < n)
    (hK : ∀ fen w, AH n w fen → SO n w v0 → (g = 1 → ST (i + 1) w) → K13 fr cr sc sk cc (nI n) m1 ftr m2 fen fcu (nI g) (nI (i + 1))) :
    ∀ (u to : Nat) (v : Nat → Nat) (fen : Nat → Int64), to < u → to ≤ i → AH n v fen → SO n (upN v to x) v0 → (g = 1 → (∀ a b, a ≤ b → b ≤ i → a ≠ to → b ≠ to → v a ≤ v b) ∧ ∀ b, to < b → b ≤ i → x ≤ v b) →
      wp_FI_sortEnds_31 Post K7 K13 u fr cr sc sk cc (nI n) m1 ftr m2 fen fcu (nI g) (nI i) (lN x) (nI to) := by
  intro u
  induction u with
  | zero => intro to v fen h; omega
  | succ u ih =>
    intro to v fen h1 h2 hA hS h1g
    have fin : (g = 1 → to = 0 ∨ v (to - 1) ≤ x) → wp_FI_sortEnds_76 Post K7 K13 fr cr sc sk cc (nI n) m1 ftr m2 fen fcu (nI g) (nI i) (lN x) (nI to) := by
      intro hc
      rw [wp_FI_sortEnds_76]
      refine ⟨vp_in_nI (by omega) hm, fun f6 e6 x7 e7 => ?_⟩
      rw [nI_clamp (by omega)] at e6
      rw [nI_1] at e7
      rw [e6, e7]
      refine hK _ (upN v to x) (ah_up hA hx) hS (fun e1 => ?_)
      obtain ⟨s1, s2⟩ := h1g e1
      intro a b hab hb
      by_cases ea : a = to
      · subst ea
        rw [upN_s]
        by_cases eb : b = a
        · subst eb
          rw [upN_s]
          exact Nat.le_refl _
        · rw [upN_n eb]
          exact s2 b (by omega) (by omega)
      · rw [upN_n ea]
        by_cases eb : b = to
        · subst eb
          rw [upN_s]
          rcases hc e1 with h0 | h0
          · omega
          · exact Nat.le_trans (s1 a (b - 1) (by omega) (by omega) ea (by omega)) h0
        · rw [upN_n eb]
          exact s1 a b hab (by omega) ea eb
    rw [wp_FI_sortEnds_31]
    refine pk_lt to g (fun c => fin (fun e => Or.inl (by omega))) (fun c => ?_)
    rw [pk_sub c]
    refine ⟨vp_in_nI (by omega) hm, ?_⟩
    obtain ⟨g1, g2⟩ := hA (to - g) (by omega)
    rw [nI_clamp (by omega), g1, lg_cmp_le, pk_lLE g2 hx]
    refine ⟨fun c2 => fin (fun e => Or.inr (by rw [e] at c2; exact c2)), fun c2 => ⟨vp_in_nI (by omega) hm, vp_in_nI (by omega) hm, fun f4 e4 x5 e5 => ?_⟩⟩
    rw [nI_clamp (by omega)] at e4
    rw [e4, e5]
    refine ih (to - g) (upN v to (v (to - g))) _ (by omega) (by omega) (ah_up hA g2) (so_trans (so_move (by omega) (by omega) (by omega)) hS) (fun e1 => ?_)
    obtain ⟨s1, s2⟩ := h1g e1
    subst e1
    refine ⟨fun a b hab hb ha1 hb1 => ?_, fun b hb1 hb2 => ?_⟩
    · by_cases ea : a = to
      · subst ea
        rw [upN_s]
        by_cases eb : b = a
        · subst eb
          rw [upN_s]
          exact Nat.le_refl _
        · rw [upN_n eb]
          exact s1 (a - 1) b (by omega) hb (by omega) eb
      · rw [upN_n ea]
        by_cases eb : b = to
        · subst eb
          rw [upN_s]
          exact s1 a (b - 1) (by omega) (by omega) ea (by omega)
        · rw [upN_n eb]
          exact s1 a b hab hb ea eb
    · by_cases eb : b = to
      · subst eb
        rw [upN_s]
        omega
      · rw [upN_n eb]
        exact s2 b (by omega) hb2
theorem s_sort13 {Post : Int32 → Int32 → Int32 → Int32 → Int32 → Int32 → Nat → (Nat → Int32) → Nat → (Nat → Int64) → (Nat → Int32) → Prop} {K7 : Int32 → Int32 → Int32 → Int32 → Int32 → Int32 → Nat → (Nat → Int32) → Nat → (Nat → Int64) → (Nat → Int32) → Int32 → Prop}
    {fr cr sc sk cc : Int32} {m1 : Nat} {ftr : Nat → Int32} {m2 : Nat} {fcu : Nat → Int32} {n g : Nat} {v0 : Nat → Nat} (hnm : n ≤ m2) (hm : m2 < 2 ^ 31) (hg : 1 ≤ g) (hgn : g < n)
    (hK : ∀ fen w, AH n w fen → SO n w v0 → (g = 1 → ST n w) → K7 fr cr sc sk cc (nI n) m1 ftr m2 fen fcu (nI (g / 2))) :
    ∀ (u i : Nat) (v : Nat → Nat) (fen : Nat → Int64), u + i = n → AH n v fen → SO n v v0 → (g = 1 → ST i v) →
      wp_FI_sortEnds_13 Post K7 (u + 1) fr cr sc sk cc (nI n) m1 ftr m2 fen fcu (nI g) (nI i) := by
  intro u
  induction u with
  | zero =>
    intro i v fen hui hA hS h1
    rw [wp_FI_sortEnds_13]
    refine pk_le n i (fun c x2 e2 => ?_) (fun c => by omega)
    rw [show (2 : Int32) = nI 2 from rfl, pk_div (by omega) (by decide) (by decide)] at e2
    rw [e2]
    rw [show i = n by omega] at h1
    exact hK fen v hA hS h1
  | succ u ih =>
    intro i v fen hui hA hS h1
    rw [wp_FI_sortEnds_13]
    refine pk_le n i (fun c => by omega) (fun c => ⟨vp_in_nI (by omega) hm, fun x3 e3 => ?_⟩)
    obtain ⟨g1, g2⟩ := hA i (by omega)
    rw [nI_clamp (by omega), g1] at e3
    rw [e3]
    refine ⟨i + 1, s_sort31 (x := v i) (v0 := v0) hnm hm hg (by omega) g2 hgn (fun fen' w hA' hS' h1' => ih (i + 1) w fen' (by omega) hA' hS' h1') (i + 1) i v fen (by omega) (Nat.le_refl _) hA ?_ (fun e => ⟨fun a b hab hb ha1 hb1 => h1 e a b hab (by omega), fun b hb1 hb2 => by omega⟩)⟩
    rw [show upN v i (v i) = v by
      funext j
      simp only [upN]
      split
      · rename_i e
        rw [e]
      · rfl]
    exact hS
theorem s_sort7 {Post : Int32 → Int32 → Int32 → Int32 → Int32 → Int32 → Nat → (Nat → Int32) → Nat → (Nat → Int64) → (Nat → Int32) → Prop}
    {fr cr sc sk cc : Int32} {m1 : Nat} {ftr : Nat → Int32} {m2 : Nat} {fcu : Nat → Int32} {n : Nat} {v0 : Nat → Nat} (hnm : n ≤ m2) (hm : m2 < 2 ^ 31)
    (hK : ∀ fen w, AH n w fen → SO n w v0 → ST n w → Post fr cr sc sk cc (nI n) m1 ftr m2 fen fcu) :
    ∀ (u g : Nat) (v : Nat → Nat) (fen : Nat → Int64), g < u → g ≤ n / 2 → AH n v fen → SO n v v0 → (g = 0 → ST n v) →
      wp_FI_sortEnds_7 Post u fr cr sc sk cc (nI n) m1 ftr m2 fen fcu (nI g) := by
  intro u
  induction u with
  | zero => intro g v fen h; omega
  | succ u ih =>
    intro g v fen h1 h2 hA hS h0
    rw [wp_FI_sortEnds_7]
    refine pk_le g 0 (fun c => hK fen v hA hS (h0 (by omega))) (fun c => ?_)
    refine ⟨n - g + 1, s_sort13 (v0 := v0) hnm hm (by omega) (by omega) (fun fen' w hA' hS' h1' => ih (g / 2) w fen' (by omega) (by omega) hA' hS' (fun e => h1' (by omega))) (n - g) g v fen (by omega) hA hS (fun e a b hab hb => ?_)⟩
    rw [show a = b by omega]
    exact Nat.le_refl _
theorem s_sortEnds {Post : Int32 → Int32 → Int32 → Int32 → Int32 → Int32 → Nat → (Nat → Int32) → Nat → (Nat → Int64) → (Nat → Int32) → Prop}
    {fr cr sc sk cc : Int32} {m1 : Nat} {ftr : Nat → Int32} {m2 : Nat} {fen : Nat → Int64} {fcu : Nat → Int32} {n : Nat} {v0 : Nat → Nat} (hnm : n ≤ m2) (hm : m2 < 2 ^ 31) (hA : AH n v0 fen)
    (hK : ∀ fen w, AH n w fen → SO n w v0 → ST n w → Post fr cr sc sk cc (nI n) m1 ftr m2 fen fcu) : wp_FI_sortEnds Post fr cr sc sk cc (nI n) m1 ftr m2 fen fcu := by
  rw [wp_FI_sortEnds]
  intro x1 e1
  rw [show (2 : Int32) = nI 2 from rfl, pk_div (by omega) (by decide) (by decide)] at e1
  rw [e1]
  refine ⟨n / 2 + 1, s_sort7 (v0 := v0) hnm hm hK (n / 2 + 1) (n / 2) v0 fen (by omega) (Nat.le_refl _) hA (so_refl _ _) (fun e a b hab hb => ?_)⟩
  rw [show a = b by omega]
  exact Nat.le_refl _
