/-! what is found, as numbers alone -/
theorem ex_sorted (v : Nat → Nat) : ∀ n, ∃ w, ST n w ∧ SO n w v := by
  intro n
  induction n with
  | zero => exact ⟨v, fun a b _ hb => absurd hb (Nat.not_lt_zero _), fun x => rfl⟩
  | succ n ih =>
    obtain ⟨w, h1, h2⟩ := ih
    obtain ⟨a, ha, hl⟩ := pk_least (fun a => ∀ j, a ≤ j → j < n → v n ≤ w j) ⟨n, fun j h3 h4 => by omega⟩
    have han : a ≤ n := by
      by_cases c : a ≤ n
      · exact c
      · exact absurd (fun j h3 h4 => by omega) (hl n (by omega))
    refine ⟨insN w a (v n), st_ins han h1 (fun h0 => ?_) ha, fun x => ?_⟩
    · by_cases c : w (a - 1) ≤ v n
      · exact c
      · refine absurd (fun j h3 h4 => ?_) (hl (a - 1) (by omega))
        by_cases e : j = a - 1
        · rw [e]
          omega
        · exact ha j (by omega) h4
    · rw [cnt_ins n han, h2 x]
      rfl
noncomputable def eN (na co : Nat → Nat) (k : Nat) : Nat := (eL na (xF na co k) (iE na co k)).length
noncomputable def eV (na co : Nat → Nat) (k : Nat) : Nat → Nat := fun j => (eL na (xF na co k) (iE na co k)).getD j 0
noncomputable def wC (na co : Nat → Nat) (k : Nat) : Nat → Nat := Classical.choose (ex_sorted (eV na co k) (eN na co k))
theorem wC_p (na co : Nat → Nat) (k : Nat) : ST (eN na co k) (wC na co k) ∧ SO (eN na co k) (wC na co k) (eV na co k) := Classical.choose_spec (ex_sorted (eV na co k) (eN na co k))
theorem wC_eq {na co : Nat → Nat} {k : Nat} {w : Nat → Nat} (h1 : ST (eN na co k) w) (h2 : SO (eN na co k) w (eV na co k)) : ∀ j, j < eN na co k → w j = wC na co k j :=
  so_eq (so_trans h2 (so_symm (wC_p na co k).2)) h1 (wC_p na co k).1
theorem eN_le (na co : Nat → Nat) (k : Nat) : eN na co k ≤ 12000 := Nat.le_trans (eL_le na (xF na co k) (iE na co k)) (iE_le na co k)
theorem eL_mem {na : Nat → Nat} {F : Nat × (Nat → Nat × Nat) × (Nat → Nat × Nat × Nat) × Bool} : ∀ n j, j < (eL na F n).length → ∃ i, i < n ∧ aend na (xq F i) ∧ (eL na F n).getD j 0 = (xq F i).1 % 2 ^ 40 * 2 ^ 14 + i := by
  intro n
  induction n with
  | zero => intro j hj; exact absurd hj (Nat.not_lt_zero _)
  | succ n ih =>
    intro j hj
    by_cases h : aend na (xq F n)
    · rw [show eL na F (n + 1) = eL na F n ++ [(xq F n).1 % 2 ^ 40 * 2 ^ 14 + n] from eadd_y h] at hj ⊢
      rw [List.length_append, List.length_singleton] at hj
      by_cases e : j < (eL na F n).length
      · obtain ⟨i, a, b, c⟩ := ih j e
        refine ⟨i, by omega, b, ?_⟩
        rw [← c]
        simp only [List.getD_eq_getElem?_getD]
        rw [List.getElem?_append_left e]
      · refine ⟨n, by omega, h, ?_⟩
        rw [show j = (eL na F n).length by omega]
        simp [List.getD_eq_getElem?_getD]
    · rw [show eL na F (n + 1) = eL na F n from eadd_n h] at hj ⊢
      obtain ⟨i, a, b, c⟩ := ih j hj
      exact ⟨i, by omega, b, c⟩
theorem eL_inc {na : Nat → Nat} {F : Nat × (Nat → Nat × Nat) × (Nat → Nat × Nat × Nat) × Bool} : ∀ n, n ≤ 12000 → ∀ a b, a < b → b < (eL na F n).length → (eL na F n).getD a 0 % 2 ^ 14 < (eL na F n).getD b 0 % 2 ^ 14 := by
  intro n
  induction n with
  | zero => intro _ a b _ hb; exact absurd hb (Nat.not_lt_zero _)
  | succ n ih =>
    intro hn a b hab hb
    by_cases h : aend na (xq F n)
    · rw [show eL na F (n + 1) = eL na F n ++ [(xq F n).1 % 2 ^ 40 * 2 ^ 14 + n] from eadd_y h] at hb ⊢
      rw [List.length_append, List.length_singleton] at hb
      have hl : ∀ j, j < (eL na F n).length → (eL na F n ++ [(xq F n).1 % 2 ^ 40 * 2 ^ 14 + n]).getD j 0 = (eL na F n).getD j 0 := fun j hj => by
        simp only [List.getD_eq_getElem?_getD]
        rw [List.getElem?_append_left hj]
      by_cases e : b < (eL na F n).length
      · rw [hl a (by omega), hl b e]
        exact ih (by omega) a b hab e
      · rw [hl a (by omega), show b = (eL na F n).length by omega]
        have h2 : (eL na F n ++ [(xq F n).1 % 2 ^ 40 * 2 ^ 14 + n]).getD (eL na F n).length 0 = (xq F n).1 % 2 ^ 40 * 2 ^ 14 + n := by simp [List.getD_eq_getElem?_getD]
        rw [h2]
        obtain ⟨i, a1, b1, c1⟩ := eL_mem (na := na) (F := F) n a (by omega)
        rw [c1]
        omega
    · rw [show eL na F (n + 1) = eL na F n from eadd_n h] at hb ⊢
      exact ih (by omega) a b hab hb
theorem cnt_inj {v : Nat → Nat} {x : Nat} : ∀ n, (∀ a b, a < b → b < n → v a ≠ v b) → cnt v x n ≤ 1 := by
  intro n
  induction n with
  | zero => intro _; exact Nat.zero_le _
  | succ n ih =>
    intro h
    have h1 := ih (fun a b hab hb => h a b hab (by omega))
    rw [show cnt v x (n + 1) = cnt v x n + (if v n = x then 1 else 0) from rfl]
    by_cases e : v n = x
    · by_cases c : 0 < cnt v x n
      · obtain ⟨j, hj, e2⟩ := cnt_pos c
        exact absurd (e2.trans e.symm) (h j n hj (by omega))
      · rw [if_pos e]
        omega
    · rw [if_neg e]
      omega
theorem cnt_two {v : Nat → Nat} {a b x : Nat} (hab : a < b) (ha : v a = x) (hb : v b = x) : ∀ n, b < n → 2 ≤ cnt v x n := by
  intro n
  induction n with
  | zero => intro h; omega
  | succ n ih =>
    intro h
    rw [show cnt v x (n + 1) = cnt v x n + (if v n = x then 1 else 0) from rfl]
    by_cases e : b = n
    · have h1 := cnt_mem (v := v) (j := a) (m := n) (by omega)
      rw [ha] at h1
      rw [← e, if_pos hb, e]
      omega
    · have := ih (by omega)
      omega
theorem wC_mem {na co : Nat → Nat} {k j : Nat} (hj : j < eN na co k) : ∃ i, i < iE na co k ∧ aend na (xq (xF na co k) i) ∧ wC na co k j = (xq (xF na co k) i).1 % 2 ^ 40 * 2 ^ 14 + i := by
  have h1 := cnt_mem (v := wC na co k) (j := j) (m := eN na co k) hj
  rw [(wC_p na co k).2] at h1
  obtain ⟨j', h2, h3⟩ := cnt_pos h1
  obtain ⟨i, a, b, c⟩ := eL_mem (na := na) (F := xF na co k) (iE na co k) j' h2
  exact ⟨i, a, b, h3.symm.trans c⟩
theorem end_inj {na : Nat → Nat} {k : Nat} {x y : Nat × Nat} (hx : VS na k x) (hy : VS na k y) (ax : aend na x) (ay : aend na y) (h : x.1 % 2 ^ 40 = y.1 % 2 ^ 40) : x = y := by
  have hd : ∀ t, t < 4 → FD x.1 (40 + 3 * t) 3 = FD y.1 (40 + 3 * t) 3 := fun t ht => by
    have a1 := ax.1 t ht
    have a2 := ay.1 t ht
    have a3 := hx.2.2 t ht
    have a4 := hy.2.2 t ht
    omega
  have h0 := hd 0 (by omega)
  have h1 := hd 1 (by omega)
  have h2 := hd 2 (by omega)
  have h3 := hd 3 (by omega)
  have b1 := hx.1.1
  have b2 := hy.1.1
  simp only [FD] at h0 h1 h2 h3
  refine Prod.ext ?_ (ax.2.trans ay.2.symm)
  generalize x.1 = X at *
  generalize y.1 = Y at *
  omega
theorem iE_xn {na co : Nat → Nat} {k : Nat} (hPN : PN na co) : iE na co k ≤ xn (xF na co k) := by
  by_cases c : iE na co k = 0
  · omega
  · have h4 := (iE_p na co k).2 (iE na co k - 1) (by omega)
    have h5 : ¬ xn (xt na co k (24 * (iE na co k - 1))) ≤ iE na co k - 1 := fun c => h4 (Or.inr (Or.inr c))
    have h6 := (xle_t na co k (show 24 * (iE na co k - 1) ≤ 24 * iE na co k by omega)).1
    rw [iE_x] at h6
    omega
/-- the outcomes rise -/
theorem wC_inc {na co : Nat → Nat} {k a b : Nat} (hPN : PN na co) (hab : a < b) (hb : b < eN na co k) : wC na co k a / 2 ^ 14 < wC na co k b / 2 ^ 14 := by
  have h1 := (wC_p na co k).1 a b (by omega) hb
  obtain ⟨i, i1, i2, i3⟩ := wC_mem (show a < eN na co k by omega)
  obtain ⟨j, j1, j2, j3⟩ := wC_mem hb
  have hl := iE_le na co k
  have hX := XI_F (k := k) hPN
  have hxn := iE_xn (k := k) hPN
  by_cases c : wC na co k a / 2 ^ 14 < wC na co k b / 2 ^ 14
  · exact c
  · exfalso
    have h2 : (xq (xF na co k) i).1 % 2 ^ 40 = (xq (xF na co k) j).1 % 2 ^ 40 := by omega
    have h3 := end_inj (hX.2.2.2.1 i (by omega)) (hX.2.2.2.1 j (by omega)) i2 j2 h2
    have hij : i = j := by
      rcases Nat.lt_trichotomy i j with e | e | e
      · exact absurd h3 (hX.2.2.2.2.1 i j e (by omega))
      · exact e
      · exact absurd h3.symm (hX.2.2.2.2.1 j i e (by omega))
    have h4 : wC na co k a = wC na co k b := by rw [i3, j3, hij]
    have h5 := cnt_two hab rfl h4.symm (eN na co k) hb
    rw [(wC_p na co k).2] at h5
    have h6 := cnt_inj (v := eV na co k) (x := wC na co k a) (eN na co k) (fun p q hpq hq e => by
      have := eL_inc (na := na) (F := xF na co k) (iE na co k) hl p q hpq hq
      simp only [eV] at e
      omega)
    omega
theorem wC_lt {na co : Nat → Nat} {k j : Nat} (hj : j < eN na co k) : wC na co k j < 2 ^ 54 ∧ wC na co k j % 2 ^ 14 < iE na co k := by
  obtain ⟨i, i1, i2, i3⟩ := wC_mem hj
  have hl := iE_le na co k
  have : (xq (xF na co k) i).1 % 2 ^ 40 < 2 ^ 40 := Nat.mod_lt _ (by decide)
  omega
/-! cuts -/
theorem cs_none {F : Nat × (Nat → Nat × Nat) × (Nat → Nat × Nat × Nat) × Bool} {c : Nat} : ∀ n, csX F n c = 0 ↔ ∀ j, j < n → (xq F j).1 % 256 ≠ c := by
  intro n
  induction n with
  | zero => exact ⟨fun _ j hj => by omega, fun _ => rfl⟩
  | succ n ih =>
    rw [show csX F (n + 1) = ctN (csX F n) ((xq F n).1 % 256) (xd F n) from rfl]
    simp only [ctN]
    by_cases h0 : csX F n ((xq F n).1 % 256) = 0
    · rw [if_pos h0]
      by_cases e : c = (xq F n).1 % 256
      · rw [e, upN_s]
        exact ⟨fun x => by omega, fun x => absurd rfl (x n (by omega))⟩
      · rw [upN_n e, ih]
        refine ⟨fun x j hj => ?_, fun x j hj => x j (by omega)⟩
        by_cases ej : j = n
        · rw [ej]
          exact fun y => e y.symm
        · exact x j (by omega)
    · rw [if_neg h0, ih]
      refine ⟨fun x j hj => ?_, fun x j hj => x j (by omega)⟩
      by_cases ej : j = n
      · rw [ej]
        intro y
        rw [y] at h0
        exact h0 (ih.mpr x)
      · exact x j (by omega)
theorem cs_some {F : Nat × (Nat → Nat × Nat) × (Nat → Nat × Nat × Nat) × Bool} {c : Nat} : ∀ n, csX F n c ≠ 0 → ∃ j, j < n ∧ (xq F j).1 % 256 = c ∧ csX F n c = xd F j + 1 ∧ ∀ i, i < j → (xq F i).1 % 256 ≠ c := by
  intro n
  induction n with
  | zero => intro h; exact absurd rfl h
  | succ n ih =>
    intro h
    have hu : csX F (n + 1) c = ctN (csX F n) ((xq F n).1 % 256) (xd F n) c := rfl
    rw [hu] at h ⊢
    simp only [ctN] at h ⊢
    by_cases h0 : csX F n ((xq F n).1 % 256) = 0
    · rw [if_pos h0] at h ⊢
      by_cases e : c = (xq F n).1 % 256
      · refine ⟨n, by omega, e.symm, by rw [e, upN_s], ?_⟩
        rw [← e] at h0
        exact (cs_none n).mp h0
      · rw [upN_n e] at h ⊢
        obtain ⟨j, a, b, d⟩ := ih h
        exact ⟨j, by omega, b, d⟩
    · rw [if_neg h0] at h ⊢
      obtain ⟨j, a, b, d⟩ := ih h
      exact ⟨j, by omega, b, d⟩
theorem cI_cs {F : Nat × (Nat → Nat × Nat) × (Nat → Nat × Nat × Nat) × Bool} {c : Nat} : ∀ n, cI (xq F) c n = if csX F n c = 0 then 0 else 1 := by
  intro n
  induction n with
  | zero => rfl
  | succ n ih =>
    rw [show cI (xq F) c (n + 1) = if (xq F n).1 % 256 = c then 1 else cI (xq F) c n from rfl]
    by_cases e : (xq F n).1 % 256 = c
    · rw [if_pos e, if_neg (fun h => (cs_none (n + 1)).mp h n (by omega) e)]
    · rw [if_neg e, ih]
      by_cases h : csX F n c = 0
      · rw [if_pos h, if_pos ((cs_none (n + 1)).mpr (fun j hj => by
          by_cases ej : j = n
          · rw [ej]
            exact e
          · exact (cs_none n).mp h j (by omega)))]
      · rw [if_neg h, if_neg (fun h2 => h ((cs_none n).mpr (fun j hj => (cs_none (n + 1)).mp h2 j (by omega))))]
/-- the least of the cuts' depths -/
def mn (g : Nat → Nat) (p v : Nat) : Nat → Option Nat
  | 0 => none
  | c + 1 => if g c ≠ 0 ∧ FD c (2 * (3 - p)) 2 = v then (match mn g p v c with | none => some (g c - 1) | some d => some (min d (g c - 1))) else mn g p v c
theorem mn_none {g : Nat → Nat} {p v : Nat} : ∀ m, mn g p v m = none → ∀ c, c < m → ¬ (g c ≠ 0 ∧ FD c (2 * (3 - p)) 2 = v) := by
  intro m
  induction m with
  | zero => intro _ c hc; omega
  | succ m ih =>
    intro h c hc
    simp only [mn] at h
    split at h
    · split at h <;> cases h
    · rename_i hn
      by_cases e : c = m
      · rw [e]
        exact hn
      · exact ih h c (by omega)
theorem mn_some {g : Nat → Nat} {p v d : Nat} : ∀ m, mn g p v m = some d → (∃ c, c < m ∧ (g c ≠ 0 ∧ FD c (2 * (3 - p)) 2 = v) ∧ d = g c - 1) ∧ ∀ c, c < m → (g c ≠ 0 ∧ FD c (2 * (3 - p)) 2 = v) → d ≤ g c - 1 := by
  intro m
  induction m generalizing d with
  | zero => intro h; cases h
  | succ m ih =>
    intro h
    simp only [mn] at h
    split at h
    · rename_i hm
      split at h
      · rename_i hn
        cases h
        refine ⟨⟨m, by omega, hm, rfl⟩, fun c hc hk => ?_⟩
        by_cases e : c = m
        · rw [e]
          exact Nat.le_refl _
        · exact absurd hk (mn_none m hn c (by omega))
      · rename_i d' hn
        cases h
        obtain ⟨⟨c, a1, a2, a3⟩, b⟩ := ih hn
        refine ⟨?_, fun c hc hk => ?_⟩
        · by_cases e : d' ≤ g m - 1
          · rw [Nat.min_eq_left e]
            exact ⟨c, by omega, a2, a3⟩
          · rw [Nat.min_eq_right (by omega)]
            exact ⟨m, by omega, hm, rfl⟩
        · by_cases e : c = m
          · rw [e]
            exact Nat.min_le_right _ _
          · exact Nat.le_trans (Nat.min_le_left _ _) (b c (by omega) hk)
    · rename_i hm
      obtain ⟨⟨c, a1, a2, a3⟩, b⟩ := ih h
      refine ⟨⟨c, by omega, a2, a3⟩, fun c hc hk => ?_⟩
      by_cases e : c = m
      · rw [e] at hk
        exact absurd hk hm
      · exact b c (by omega) hk
theorem mm_256 (M : Nat) {p : Nat} (hp : p < 4) : mmF M p = FD (M % 256) (2 * (3 - p)) 2 := (fd_mod (N := 8) (by omega)).symm
theorem mn_soN {na : Nat → Nat} {k i p v : Nat} {F : Nat × (Nat → Nat × Nat) × (Nat → Nat × Nat × Nat) × Bool} (hX : XI na k F i) (hp : p < 4) : mn (csX F (xn F)) p v 256 = soN (xq F) (xtr F) p v (xn F) := by
  have mono : ∀ a b, a ≤ b → b < xn F → xd F a ≤ xd F b := hX.2.2.2.2.2.2.2.1
  rcases hs : soN (xq F) (xtr F) p v (xn F) with _ | d
  · rcases hm : mn (csX F (xn F)) p v 256 with _ | d'
    · rfl
    · obtain ⟨⟨c, a1, ⟨a2, a3⟩, a4⟩, b⟩ := mn_some 256 hm
      obtain ⟨j, j1, j2, j3, j4⟩ := cs_some (xn F) a2
      have := soN_none hs j j1
      rw [mm_256 _ hp, j2] at this
      exact absurd a3 this
  · obtain ⟨j, j1, j2, j3, j4⟩ := soN_some hs
    have hc256 : (xq F j).1 % 256 < 256 := Nat.mod_lt _ (by decide)
    have hg : csX F (xn F) ((xq F j).1 % 256) ≠ 0 := fun h => (cs_none (xn F)).mp h j j1 rfl
    have hdig : FD ((xq F j).1 % 256) (2 * (3 - p)) 2 = v := by rw [← mm_256 _ hp]; exact j3
    rcases hm : mn (csX F (xn F)) p v 256 with _ | d'
    · exact absurd ⟨hg, hdig⟩ (mn_none 256 hm _ hc256)
    · obtain ⟨⟨c, a1, ⟨a2, a3⟩, a4⟩, b⟩ := mn_some 256 hm
      have h1 := b _ hc256 ⟨hg, hdig⟩
      obtain ⟨i1, p1, p2, p3, p4⟩ := cs_some (xn F) hg
      obtain ⟨i2, q1, q2, q3, q4⟩ := cs_some (xn F) a2
      have e1 : i1 ≤ j := by
        by_cases c : i1 ≤ j
        · exact c
        · exact absurd rfl (p4 j (by omega))
      have e2 : j ≤ i2 := by
        by_cases c : j ≤ i2
        · exact c
        · have := j4 i2 (by omega)
          rw [mm_256 _ hp, q2] at this
          exact absurd a3 this
      have m1 := mono i1 j e1 j1
      have m2 := mono j i2 e2 q1
      have hdj : d = xd F j := j2
      congr 1
      omega
