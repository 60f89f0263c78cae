/-! a step of the machine on packed numbers (M: digits and how much is done; B: the buffers) -/
def bf (k t : Nat) : Nat := if k = 3 then t / 2 else t
theorem bf_lt {k t : Nat} (ht : t < 4) : bf k t < 4 := by
  simp only [bf]
  split <;> omega
def actX (na co : Nat → Nat) (k t M B : Nat) : Option (Nat × Nat) :=
  if FD M (40 + 3 * t) 3 < na t then
    if co (5 * t + FD M (40 + 3 * t) 3) / 16 = 0 then
      if FD B (15 * bf k t) 15 / 1024 = 0 then
        if k = 0 then some (FS (FS M (40 + 3 * t) 3 (FD M (40 + 3 * t) 3 + 1)) (2 * (3 - co (5 * t + FD M (40 + 3 * t) 3) / 4 % 4)) 2 (co (5 * t + FD M (40 + 3 * t) 3) % 4), B)
        else some (FS M (40 + 3 * t) 3 (FD M (40 + 3 * t) 3 + 1), FS B (15 * bf k t) 15 (ad5 (FD B (15 * bf k t) 15) (16 + co (5 * t + FD M (40 + 3 * t) 3) % 16)))
      else none
    else if co (5 * t + FD M (40 + 3 * t) 3) / 16 = 1 then
      some (FS (FS M (40 + 3 * t) 3 (FD M (40 + 3 * t) 3 + 1)) (2 * (19 - 4 * t - co (5 * t + FD M (40 + 3 * t) 3) % 4)) 2 (match nw5 (FD B (15 * bf k t) 15) (co (5 * t + FD M (40 + 3 * t) 3) / 4 % 4) with | some v => v | none => FD M (2 * (3 - co (5 * t + FD M (40 + 3 * t) 3) / 4 % 4)) 2), B)
    else if co (5 * t + FD M (40 + 3 * t) 3) / 16 = 2 then
      if FD B (15 * bf k t) 15 = 0 then some (FS M (40 + 3 * t) 3 (FD M (40 + 3 * t) 3 + 1), B) else none
    else
      if FD B (15 * bf k t) 15 = 0 then some (FS (FS M (40 + 3 * t) 3 (FD M (40 + 3 * t) 3 + 1)) (2 * (3 - co (5 * t + FD M (40 + 3 * t) 3) / 4 % 4)) 2 (co (5 * t + FD M (40 + 3 * t) 3) % 4), B) else none
  else none
/-- the program's arrays hold the numbers na and co -/
def PGc (pc pl : Nat → Int32) (na co : Nat → Nat) : Prop := (∀ t, t < 4 → pl t = nI (na t) ∧ na t ≤ 5) ∧ ∀ j, j < 20 → pc j = nI (co j) ∧ co j < 64
/-- the machine's numbers are as they should be -/
def VX (M B : Nat) : Prop := M < 2 ^ 52 ∧ B < 2 ^ 60 ∧ ∀ b, b < 4 → V5 (FD B (15 * b) 15)
theorem sz5_iff {E : Nat} : sz5 E < 3 ↔ E / 1024 = 0 := by
  simp only [sz5]
  by_cases h0 : E = 0
  · simp [h0]
  · by_cases h1 : E / 32 = 0
    · simp [h0, h1]
      omega
    · by_cases h2 : E / 1024 = 0 <;> simp [h0, h1, h2]
theorem nw5_lt {E p v : Nat} (h : nw5 E p = some v) : v < 4 := by
  simp only [nw5] at h
  repeat' split at h
  all_goals first | (cases h; omega) | cases h
theorem nI_i0 {x : Nat} (hx : x < 2 ^ 31) (y : Nat) (hy : y < 2 ^ 31) {l : Int32} (hl : l = nI y) : (nI x = l ↔ x = y) := by
  rw [hl]
  exact nI_eq hx hy
theorem nI_z0 {x : Nat} (hx : x < 2 ^ 31) : (nI x = 0 ↔ x = 0) := nI_i0 hx 0 (by decide) rfl
theorem nI_z1 {x : Nat} (hx : x < 2 ^ 31) : (nI x = 1 ↔ x = 1) := nI_i0 hx 1 (by decide) rfl
theorem nI_z2 {x : Nat} (hx : x < 2 ^ 31) : (nI x = 2 ↔ x = 2) := nI_i0 hx 2 (by decide) rfl
theorem nI_z3 {x : Nat} (hx : x < 2 ^ 31) : (nI x = 3 ↔ x = 3) := nI_i0 hx 3 (by decide) rfl
theorem nI_nem1 {x : Nat} (hx : x < 2 ^ 31) : ¬ nI x = -1 := by
  intro e
  have e2 := congrArg Int32.toInt e
  rw [nI_toInt hx] at e2
  have e3 : ((-1 : Int32)).toInt = -1 := by decide
  omega
theorem s_act {Post : Int32 → Int32 → Int64 → Int64 → Int64 → Int64 → (Nat → Int32) → (Nat → Int32) → Prop} {pc pl : Nat → Int32} {na co : Nat → Nat} {k t M B : Nat} (hP : PGc pc pl na co) (hk : k < 4) (ht : t < 4) (hX : VX M B)
    (h1 : ∀ M' B', actX na co k t M B = some (M', B') → Post 1 (nI k) (lN M) (lN B) (lN M') (lN B') pc pl) (h0 : actX na co k t M B = none → ∀ x y, Post 0 (nI k) (lN M) (lN B) x y pc pl) :
    wp_MA_act Post (nI k) (lN M) (lN B) (lN M) (lN B) pc pl (nI t) := by
  obtain ⟨hM, hB, hV⟩ := hX
  obtain ⟨hpl, hna⟩ := hP.1 t ht
  have hb : bf k t < 4 := bf_lt ht
  have hd := fd_lt M (40 + 3 * t) 3
  rw [wp_MA_act]
  refine s_doneShift ?_
  refine s_bitsAt (k := 3) (by omega) (by omega) (by decide) (by decide) ?_
  rw [wp_PR_lengthOf]
  refine ⟨vp_in_nI ht (by decide), ?_⟩
  rw [nI_clamp (by omega), hpl]
  generalize hde : FD M (40 + 3 * t) 3 = d at hd h1 h0
  refine ⟨fun c => ?_, fun c => ?_⟩
  · rw [nI_ltI (by omega) (by omega)] at c
    obtain ⟨hco, hc64⟩ := hP.2 (5 * t + d) (by omega)
    rw [wp_PR_codeOf, show (5 : Int32) = nI 5 from rfl, pk_mul, nI_add, show t * 5 + d = 5 * t + d by omega]
    refine ⟨vp_in_nI (by omega) (by decide), ?_⟩
    rw [nI_clamp (by omega), hco]
    simp only [actX] at h1 h0
    rw [hde] at h1 h0
    rw [if_pos c] at h1 h0
    generalize hce : co (5 * t + d) = q at h1 h0 hc64
    intro x16 e16 x17 e17
    rw [show (4 : Int32) = nI 4 from rfl, pk_div (by omega) (by decide) (by decide), pk_rem (by omega) (by decide) (by decide)] at e16
    rw [show (4 : Int32) = nI 4 from rfl, pk_rem (by omega) (by decide) (by decide)] at e17
    subst e16
    subst e17
    have main : wp_MA_act_62 Post (nI k) (lN M) (lN B) (lN M) (lN B) pc pl (nI t) (nI q) (nI (q / 4 % 4)) (nI (q % 4)) (nI (bf k t)) := by
      rw [wp_MA_act_62]
      refine s_entriesOf (by omega) hb ?_
      have hVb := hV _ hb
      generalize hEe : FD B (15 * bf k t) 15 = E at h1 h0 hVb
      have hE : E < 32768 := hVb.1
      refine s_doneShift ?_
      intro x27 e27
      rw [show (1 : Int64) = lN 1 from rfl, wb_shl 1 (show 40 + 3 * t < 64 by omega), Nat.one_mul, lN_add, fs_inc (w := 3) (by rw [hde]; omega), hde] at e27
      subst e27
      generalize hM1 : FS M (40 + 3 * t) 3 (d + 1) = M1 at h1 h0
      have hM1lt : M1 < 2 ^ 52 := by
        rw [← hM1]
        exact fs_lt hM (by omega) (by omega)
      have e157 : ∀ (x y : Int64), (E / 1024 = 0 → Post 1 (nI k) (lN M) (lN B) x y pc pl) → (¬ E / 1024 = 0 → Post 0 (nI k) (lN M) (lN B) x y pc pl) → wp_MA_act_157 Post (nI k) (lN M) (lN B) x y pc pl (nI E) := by
        intro x y a1 a2
        rw [wp_MA_act_157, sh5 hE 10 (by decide), nI_z0 (by omega)]
        exact ⟨fun c => a2 c, fun c => a1 c⟩
      rw [show (16 : Int32) = nI 16 from rfl, pk_div (by omega) (by decide) (by decide), nI_z0 (by omega), nI_z1 (by omega), nI_z2 (by omega), nI_z0 (by omega)]
      refine ⟨fun cw => ⟨fun ck => ?_, fun ck => ?_⟩, fun cw => ⟨fun cr => ?_, fun cr => ⟨fun cf => ?_, fun cf => ?_⟩⟩⟩
      · -- a write into the buffer
        rw [show ((4 : Int32) + nI (q / 4 % 4)) * 4 + nI (q % 4) = nI (16 + q % 16) by
          rw [show (4 : Int32) = nI 4 from rfl, nI_add, pk_mul, nI_add]
          congr 1
          omega]
        refine s_withNewest hE (by omega) ?_
        rw [if_pos cw, if_neg ck] at h1 h0
        by_cases cs : E / 1024 = 0
        · rw [if_pos (sz5_iff.mpr cs)]
          have hs : sz5 E < 3 := sz5_iff.mpr cs
          have hlt : ad5 E (16 + q % 16) < 32768 := by
            simp only [ad5]
            simp only [sz5] at hs ⊢
            by_cases z0 : E = 0
            · simp [z0]; omega
            · by_cases z1 : E / 32 = 0
              · simp [z0, z1]; omega
              · simp [z0, z1, cs]; omega
          refine s_setEntries (by omega) hb hlt ?_
          try rw [hEe]
          rw [if_pos cs] at h1
          exact e157 _ _ (fun _ => h1 _ _ rfl) (fun c => absurd cs c)
        · rw [if_neg (fun c => cs (sz5_iff.mp c))]
          refine s_setEntries (by omega) hb hE ?_
          try rw [hEe]
          rw [if_neg cs] at h0
          exact e157 _ _ (fun c => absurd c cs) (fun _ => h0 rfl _ _)
      · -- a write to the place at once
        refine s_placeShift (by omega) ?_
        refine s_setDigit (by omega) (by omega) (by omega) ?_
        try rw [hEe]
        rw [if_pos cw] at h1 h0
        by_cases cs : E / 1024 = 0
        · rw [if_pos cs, if_pos ck] at h1
          exact e157 _ _ (fun _ => h1 _ _ rfl) (fun c => absurd cs c)
        · rw [if_neg cs] at h0
          exact e157 _ _ (fun c => absurd c cs) (fun _ => h0 rfl _ _)
      · -- a read
        try rw [hEe]
        rw [if_neg cw, if_pos cr] at h1
        refine s_newestFor hE (by omega) ?_
        refine s_registerShift ht (by omega) ?_
        cases hn : nw5 E (q / 4 % 4) with
        | some v =>
          rw [hn] at h1
          have hv := nw5_lt hn
          refine ⟨fun _ => ?_, fun c => absurd c (nI_nem1 (by omega))⟩
          rw [wp_MA_act_208]
          refine s_setDigit (by omega) (by omega) hv ?_
          exact h1 _ _ rfl
        | none =>
          rw [hn] at h1
          refine ⟨fun c => absurd rfl c, fun _ => ?_⟩
          refine s_placeShift (by omega) ?_
          refine s_bitsAt (k := 2) (by omega) (by omega) (by decide) (by decide) ?_
          rw [wp_MA_act_208]
          refine s_setDigit (by omega) (by omega) (fd_lt _ _ 2) ?_
          exact h1 _ _ rfl
      · -- a fence
        try rw [hEe]
        rw [if_neg cw, if_neg cr, if_pos cf] at h1 h0
        rw [nI_z0 (by omega)]
        refine ⟨fun c => ?_, fun c => ?_⟩
        · rw [if_neg c] at h0
          exact h0 rfl _ _
        · rw [if_pos c] at h1
          exact h1 _ _ rfl
      · -- a write through
        try rw [hEe]
        rw [if_neg cw, if_neg cr, if_neg cf] at h1 h0
        refine s_placeShift (by omega) ?_
        refine s_setDigit (by omega) (by omega) (by omega) ?_
        rw [nI_z0 (by omega)]
        refine ⟨fun c => ?_, fun c => ?_⟩
        · rw [if_neg c] at h0
          exact h0 rfl _ _
        · rw [if_pos c] at h1
          exact h1 _ _ rfl
    rw [nI_z3 (by omega)]
    refine ⟨fun ck => ?_, fun ck => ?_⟩
    · rw [show bf k t = t by simp [bf, ck]] at main
      exact main
    · rw [show bf k t = t / 2 by simp [bf, ck]] at main
      rw [show (2 : Int32) = nI 2 from rfl, pk_div (by omega) (by decide) (by decide)]
      exact main
  · rw [nI_ltI (by omega) (by omega)] at c
    have hx : actX na co k t M B = none := by
      simp only [actX]
      rw [hde, if_neg c]
    exact h0 hx _ _
