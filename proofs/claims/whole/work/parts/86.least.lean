/-! the least outcome that one of two kinds has -/
def FA (Wa : Nat → Nat) (n : Nat) (Wb : Nat → Nat) (m : Nat) (o : Option Nat) : Prop :=
  (o = none ∧ ∀ j, j < n → ∃ i, i < m ∧ Wb i = Wa j) ∨ ∃ j, j < n ∧ o = some (Wa j) ∧ (∀ i, i < m → Wb i ≠ Wa j) ∧ ∀ j', j' < j → ∃ i, i < m ∧ Wb i = Wa j'
theorem FA_ex (Wa : Nat → Nat) (n : Nat) (Wb : Nat → Nat) (m : Nat) : ∃ o, FA Wa n Wb m o := by
  by_cases h : ∃ j, j < n ∧ ∀ i, i < m → Wb i ≠ Wa j
  · obtain ⟨j, ⟨h1, h2⟩, h3⟩ := pk_least (fun j => j < n ∧ ∀ i, i < m → Wb i ≠ Wa j) h
    refine ⟨some (Wa j), Or.inr ⟨j, h1, rfl, h2, fun j' hj' => ?_⟩⟩
    by_cases c : ∃ i, i < m ∧ Wb i = Wa j'
    · exact c
    · exact absurd ⟨by omega, fun i hi e => c ⟨i, hi, e⟩⟩ (h3 j' hj')
  · refine ⟨none, Or.inl ⟨rfl, fun j hj => ?_⟩⟩
    by_cases c : ∃ i, i < m ∧ Wb i = Wa j
    · exact c
    · exact absurd ⟨j, hj, fun i hi e => c ⟨i, hi, e⟩⟩ h
theorem FA_uq {Wa : Nat → Nat} {n : Nat} {Wb : Nat → Nat} {m : Nat} {o o' : Option Nat} (h : FA Wa n Wb m o) (h' : FA Wa n Wb m o') : o = o' := by
  rcases h with ⟨a, b⟩ | ⟨j, a, b, c, d⟩
  · rcases h' with ⟨a', b'⟩ | ⟨j', a', b', c', d'⟩
    · rw [a, a']
    · obtain ⟨i, hi, e⟩ := b j' a'
      exact absurd e (c' i hi)
  · rcases h' with ⟨a', b'⟩ | ⟨j', a', b', c', d'⟩
    · obtain ⟨i, hi, e⟩ := b' j a
      exact absurd e (c i hi)
    · rcases Nat.lt_trichotomy j j' with x | x | x
      · obtain ⟨i, hi, e⟩ := d' j x
        exact absurd e (c i hi)
      · rw [b, b', x]
      · obtain ⟨i, hi, e⟩ := d j' x
        exact absurd e (c' i hi)
def cm (o1 o2 : Option Nat) : Int64 := match o1, o2 with | none, none => -1 | none, some y => lN y | some x, none => lN x | some x, some y => lN (min x y)
def IC (W : Nat → Nat) (n : Nat) : Prop := ∀ a b, a < b → b < n → W a < W b
theorem FA_all {Wa Wb : Nat → Nat} {n m k : Nat} (hn : n ≤ k) (hkm : k ≤ m) (hp : ∀ j, j < k → Wa j = Wb j) : FA Wa n Wb m none := Or.inl ⟨rfl, fun j hj => ⟨j, by omega, (hp j (by omega)).symm⟩⟩
theorem FA_at {Wa Wb : Nat → Nat} {n m k : Nat} (ha : IC Wa n) (hb : IC Wb m) (hkn : k < n) (hkm : k ≤ m) (hp : ∀ j, j < k → Wa j = Wb j) (hlt : k < m → Wa k < Wb k) : FA Wa n Wb m (some (Wa k)) := by
  refine Or.inr ⟨k, hkn, rfl, fun i hi e => ?_, fun j hj => ⟨j, by omega, (hp j hj).symm⟩⟩
  rcases Nat.lt_trichotomy i k with x | x | x
  · have := ha i k x hkn
    rw [hp i x] at this
    omega
  · have := hlt (by omega)
    rw [x] at e
    omega
  · have h1 := hlt (by omega)
    have h2 := hb k i x hi
    omega
/-- what the other has alone is above -/
theorem FA_above {Wa Wb : Nat → Nat} {n m k y : Nat} (hb : IC Wb m) (hkn : k < n) (hp : ∀ j, j < k → Wa j = Wb j) (hlt : k < m → Wa k < Wb k) (h : FA Wb m Wa n (some y)) : Wa k < y := by
  rcases h with ⟨a, b⟩ | ⟨j, a, b, c, d⟩
  · cases a
  · cases b
    by_cases x : j < k
    · exact absurd (hp j x) (c j (by omega))
    · have h1 := hlt (by omega)
      by_cases e : j = k
      · rw [e]
        exact h1
      · have := hb k j (by omega) a
        omega
theorem cm_l {x : Nat} {o : Option Nat} (h : ∀ y, o = some y → x < y) : cm (some x) o = lN x := by
  rcases o with _ | y
  · rfl
  · show lN (min x y) = lN x
    rw [Nat.min_eq_left (by have := h y rfl; omega)]
theorem cm_r {x : Nat} {o : Option Nat} (h : ∀ y, o = some y → x < y) : cm o (some x) = lN x := by
  rcases o with _ | y
  · rfl
  · show lN (min y x) = lN x
    rw [Nat.min_eq_right (by have := h y rfl; omega)]
noncomputable def WO (na co : Nat → Nat) (k j : Nat) : Nat := wC na co k j / 2 ^ 14
theorem WO_ic {na co : Nat → Nat} {k : Nat} (hPN : PN na co) : IC (WO na co k) (eN na co k) := fun a b hab hb => wC_inc hPN hab hb
theorem WO_lt {na co : Nat → Nat} {k j : Nat} (hj : j < eN na co k) : WO na co k j < 2 ^ 62 := by
  have := (wC_lt hj).1
  simp only [WO]
  omega
theorem s_least29 {Post : Int64 → Int32 → Int32 → Int32 → Int32 → Int32 → Int32 → Nat → (Nat → Int32) → Nat → (Nat → Int64) → (Nat → Int32) → Int32 → Int32 → Int32 → Int32 → Int32 → Int32 → Nat → (Nat → Int32) → Nat → (Nat → Int64) → (Nat → Int32) → Prop}
    {K2 : Int32 → Int32 → Int32 → Int32 → Int32 → Int32 → Nat → (Nat → Int32) → Nat → (Nat → Int64) → (Nat → Int32) → Int32 → Int32 → Int32 → Int32 → Int32 → Int32 → Nat → (Nat → Int32) → Nat → (Nat → Int64) → (Nat → Int32) → Int32 → Prop}
    {na co : Nat → Nat} {ka kb a e a' e' j : Nat} {frA crA scA skA ccA ecA : Int32} {m1A : Nat} {ftrA : Nat → Int32} {m2A : Nat} {fenA : Nat → Int64} {fcuA : Nat → Int32} {frB crB scB skB ccB ecB : Int32} {m1B : Nat} {ftrB : Nat → Int32} {m2B : Nat} {fenB : Nat → Int64} {fcuB : Nat → Int32}
    (hPN : PN na co) (hA : FC na co ka a e crA scA skA ccA ecA m1A ftrA m2A fenA fcuA) (hB : FC na co kb a' e' crB scB skB ccB ecB m1B ftrB m2B fenB fcuB) (hj1 : j ≤ eN na co ka) (hj2 : j ≤ eN na co kb) (hj : j < eN na co ka ∨ j < eN na co kb) (hp : ∀ i, i < j → WO na co ka i = WO na co kb i)
    (h : ∀ o1 o2, FA (WO na co ka) (eN na co ka) (WO na co kb) (eN na co kb) o1 → FA (WO na co kb) (eN na co kb) (WO na co ka) (eN na co ka) o2 → Post (cm o1 o2) frA crA scA skA ccA ecA m1A ftrA m2A fenA fcuA frB crB scB skB ccB ecB m1B ftrB m2B fenB fcuB)
    (hK : j < eN na co ka → j < eN na co kb → WO na co ka j = WO na co kb j → K2 frA crA scA skA ccA ecA m1A ftrA m2A fenA fcuA frB crB scB skB ccB ecB m1B ftrB m2B fenB fcuB (nI (j + 1))) :
    wp_FI_leastOfOne_29 Post K2 frA crA scA skA ccA ecA m1A ftrA m2A fenA fcuA frB crB scB skB ccB ecB m1B ftrB m2B fenB fcuB (nI j) := by
  have la := eN_le na co ka
  have lb := eN_le na co kb
  have ia := WO_ic (k := ka) hPN
  have ib := WO_ic (k := kb) hPN
  have eA : ecA = nI (eN na co ka) := hA.2.2.2.1.1
  have eB : ecB = nI (eN na co kb) := hB.2.2.2.1.1
  subst eA eB
  have left : j < eN na co ka → (j < eN na co kb → WO na co ka j < WO na co kb j) → wp_FI_leastOfOne_65 Post frA crA scA skA ccA (nI (eN na co ka)) m1A ftrA m2A fenA fcuA frB crB scB skB ccB (nI (eN na co kb)) m1B ftrB m2B fenB fcuB (nI j) := by
    intro c1 c2
    rw [wp_FI_leastOfOne_65]
    refine s_outcomeAt hA c1 ?_
    obtain ⟨o2, h2⟩ := FA_ex (WO na co kb) (eN na co kb) (WO na co ka) (eN na co ka)
    have := h (some (WO na co ka j)) o2 (FA_at ia ib c1 hj2 hp c2) h2
    rw [cm_l (fun y e => FA_above ib c1 hp c2 (by rw [← e]; exact h2))] at this
    exact this
  have right : j < eN na co kb → (j < eN na co ka → WO na co kb j < WO na co ka j) → Post (lN (WO na co kb j)) frA crA scA skA ccA (nI (eN na co ka)) m1A ftrA m2A fenA fcuA frB crB scB skB ccB (nI (eN na co kb)) m1B ftrB m2B fenB fcuB := by
    intro c1 c2
    obtain ⟨o1, h1⟩ := FA_ex (WO na co ka) (eN na co ka) (WO na co kb) (eN na co kb)
    have := h o1 (some (WO na co kb j)) h1 (FA_at ib ia c1 hj1 (fun i hi => (hp i hi).symm) c2)
    rw [cm_r (fun y e => FA_above ia c1 (fun i hi => (hp i hi).symm) c2 (by rw [← e]; exact h1))] at this
    exact this
  rw [wp_FI_leastOfOne_29]
  refine pk_lt j (eN na co ka) (fun c1 => pk_le (eN na co kb) j (fun c2 => left c1 (fun c => by omega)) (fun c2 => ?_)) (fun c1 => ?_)
  · have wa := WO_lt c1
    have wb := WO_lt c2
    refine s_outcomeAt hA c1 (s_outcomeAt hB c2 ?_)
    show (0 ≤ lg_cmp (lN (WO na co ka j)) (lN (WO na co kb j)) → _) ∧ (¬ 0 ≤ lg_cmp (lN (WO na co ka j)) (lN (WO na co kb j)) → _)
    rw [lg_cmp_ge, pk_lLE (by omega) (by omega)]
    refine ⟨fun c3 => s_outcomeAt hA c1 (s_outcomeAt hB c2 ?_), fun c3 => left c1 (fun _ => by omega)⟩
    show (lg_cmp (lN (WO na co ka j)) (lN (WO na co kb j)) ≤ 0 → _) ∧ (¬ lg_cmp (lN (WO na co ka j)) (lN (WO na co kb j)) ≤ 0 → _)
    rw [lg_cmp_le, pk_lLE (by omega) (by omega)]
    refine ⟨fun c4 x57 e57 => ?_, fun c4 => s_outcomeAt hB c2 (right c2 (fun _ => by omega))⟩
    rw [nI_1] at e57
    rw [e57]
    exact hK c1 c2 (by omega)
  · have c2 : j < eN na co kb := by omega
    exact s_outcomeAt hB c2 (right c2 (fun c => by omega))
theorem s_leastOfOne {Post : Int64 → Int32 → Int32 → Int32 → Int32 → Int32 → Int32 → Nat → (Nat → Int32) → Nat → (Nat → Int64) → (Nat → Int32) → Int32 → Int32 → Int32 → Int32 → Int32 → Int32 → Nat → (Nat → Int32) → Nat → (Nat → Int64) → (Nat → Int32) → Prop}
    {na co : Nat → Nat} {ka kb a e a' e' : Nat} {frA crA scA skA ccA ecA : Int32} {m1A : Nat} {ftrA : Nat → Int32} {m2A : Nat} {fenA : Nat → Int64} {fcuA : Nat → Int32} {frB crB scB skB ccB ecB : Int32} {m1B : Nat} {ftrB : Nat → Int32} {m2B : Nat} {fenB : Nat → Int64} {fcuB : Nat → Int32}
    (hPN : PN na co) (hA : FC na co ka a e crA scA skA ccA ecA m1A ftrA m2A fenA fcuA) (hB : FC na co kb a' e' crB scB skB ccB ecB m1B ftrB m2B fenB fcuB)
    (h : ∀ o1 o2, FA (WO na co ka) (eN na co ka) (WO na co kb) (eN na co kb) o1 → FA (WO na co kb) (eN na co kb) (WO na co ka) (eN na co ka) o2 → Post (cm o1 o2) frA crA scA skA ccA ecA m1A ftrA m2A fenA fcuA frB crB scB skB ccB ecB m1B ftrB m2B fenB fcuB) :
    wp_FI_leastOfOne Post frA crA scA skA ccA ecA m1A ftrA m2A fenA fcuA frB crB scB skB ccB ecB m1B ftrB m2B fenB fcuB := by
  have la := eN_le na co ka
  have lb := eN_le na co kb
  have eA : ecA = nI (eN na co ka) := hA.2.2.2.1.1
  have eB : ecB = nI (eN na co kb) := hB.2.2.2.1.1
  subst eA eB
  have key : ∀ u j, u + j = 12000 → j ≤ eN na co ka → j ≤ eN na co kb → (∀ i, i < j → WO na co ka i = WO na co kb i) → wp_FI_leastOfOne_2 Post (u + 1) frA crA scA skA ccA (nI (eN na co ka)) m1A ftrA m2A fenA fcuA frB crB scB skB ccB (nI (eN na co kb)) m1B ftrB m2B fenB fcuB (nI j) := by
    intro u
    induction u with
    | zero =>
      intro j hj h1 h2 hp
      rw [wp_FI_leastOfOne_2]
      exact pk_le 12000 j (fun _ => h none none (FA_all (k := j) (by omega) h2 hp) (FA_all (k := j) (by omega) h1 (fun i hi => (hp i hi).symm))) (fun c => by omega)
    | succ u ih =>
      intro j hj h1 h2 hp
      have hK : j < eN na co ka → j < eN na co kb → WO na co ka j = WO na co kb j → wp_FI_leastOfOne_2 Post (u + 1) frA crA scA skA ccA (nI (eN na co ka)) m1A ftrA m2A fenA fcuA frB crB scB skB ccB (nI (eN na co kb)) m1B ftrB m2B fenB fcuB (nI (j + 1)) := fun c1 c2 c3 => ih (j + 1) (by omega) (by omega) (by omega) (fun i hi => by
        by_cases e : i = j
        · rw [e]
          exact c3
        · exact hp i (by omega))
      rw [wp_FI_leastOfOne_2]
      refine pk_le 12000 j (fun c => by omega) (fun _ => pk_lt j (eN na co ka) (fun c1 => s_least29 hPN hA hB h1 h2 (Or.inl c1) hp h hK) (fun c1 => pk_lt j (eN na co kb) (fun c2 => s_least29 hPN hA hB h1 h2 (Or.inr c2) hp h hK) (fun c2 => ?_)))
      exact h none none (FA_all (k := j) (by omega) h2 hp) (FA_all (k := j) (by omega) h1 (fun i hi => (hp i hi).symm))
  exact ⟨12001, key 12000 0 (by omega) (by omega) (by omega) (fun i hi => by omega)⟩
theorem s_leastOfOneS {Post : Int64 → Int32 → Int32 → Int32 → Int32 → Int32 → Int32 → Nat → (Nat → Int32) → Nat → (Nat → Int64) → (Nat → Int32) → Prop}
    {na co : Nat → Nat} {ka a e : Nat} {frA crA scA skA ccA ecA : Int32} {m1A : Nat} {ftrA : Nat → Int32} {m2A : Nat} {fenA : Nat → Int64} {fcuA : Nat → Int32}
    (hA : FC na co ka a e crA scA skA ccA ecA m1A ftrA m2A fenA fcuA) (h : Post (-1) frA crA scA skA ccA ecA m1A ftrA m2A fenA fcuA) : wp_FI_leastOfOneS Post frA crA scA skA ccA ecA m1A ftrA m2A fenA fcuA := by
  have la := eN_le na co ka
  have eA : ecA = nI (eN na co ka) := hA.2.2.2.1.1
  subst eA
  have key : ∀ u j, u + j = 12000 → wp_FI_leastOfOneS_2 Post (u + 1) frA crA scA skA ccA (nI (eN na co ka)) m1A ftrA m2A fenA fcuA (nI j) := by
    intro u
    induction u with
    | zero =>
      intro j hj
      rw [wp_FI_leastOfOneS_2]
      exact pk_le 12000 j (fun _ => h) (fun c => by omega)
    | succ u ih =>
      intro j hj
      have g29 : j < eN na co ka → wp_FI_leastOfOneS_29 Post (fun (frA : Int32) (crA : Int32) (scA : Int32) (skA : Int32) (ccA : Int32) (ecA : Int32) (m1A : Nat) (ftrA : Nat → Int32) (m2A : Nat) (fenA : Nat → Int64) (fcuA : Nat → Int32) (L2 : Int32) => wp_FI_leastOfOneS_2 Post (u + 1) frA crA scA skA ccA ecA m1A ftrA m2A fenA fcuA L2) frA crA scA skA ccA (nI (eN na co ka)) m1A ftrA m2A fenA fcuA (nI j) := by
        intro c1
        rw [wp_FI_leastOfOneS_29]
        refine pk_lt j (eN na co ka) (fun _ => pk_le (eN na co ka) j (fun c => by omega) (fun _ => ?_)) (fun c => by omega)
        refine s_outcomeAt hA c1 (s_outcomeAt hA c1 ?_)
        rw [lg_cmp_ge]
        refine ⟨fun _ => s_outcomeAt hA c1 (s_outcomeAt hA c1 ?_), fun c => absurd (Int64.le_refl _) c⟩
        rw [lg_cmp_le]
        refine ⟨fun _ x57 e57 => ?_, fun c => absurd (Int64.le_refl _) c⟩
        rw [nI_1] at e57
        rw [e57]
        exact ih (j + 1) (by omega)
      rw [wp_FI_leastOfOneS_2]
      exact pk_le 12000 j (fun c => by omega) (fun _ => pk_lt j (eN na co ka) g29 (fun c1 => pk_lt j (eN na co ka) g29 (fun c2 => h)))
  exact ⟨12001, key 12000 0 (by omega)⟩
