/-! the room's levels: how wide its arrays are (r), and how much of them is in use (rl n) -/
def rl (n : Nat) : Nat := if n < 256 then 0 else if n < 2048 then 1 else 2
def N1 (r : Nat) : Nat := if r = 0 then 256 else if r = 1 then 2048 else 12000
/-- the elements made up to a level -/
def RS (r : Nat) : Nat := if r = 0 then 0 else if r = 1 then 8192 else 64960
theorem rl_c (n : Nat) : (rl n = 0 ∧ n < 256) ∨ (rl n = 1 ∧ 256 ≤ n ∧ n < 2048) ∨ (rl n = 2 ∧ 2048 ≤ n) := by
  simp only [rl]
  repeat' split
  all_goals omega
theorem rl_le (n : Nat) : rl n ≤ 2 := by
  simp only [rl]
  repeat' split
  all_goals omega
theorem rl_mono {a b : Nat} (h : a ≤ b) : rl a ≤ rl b := by
  simp only [rl]
  repeat' split
  all_goals omega
theorem N1_lt (r : Nat) : N1 r < 2 ^ 31 ∧ 256 ≤ N1 r ∧ N1 r ≤ 12000 := by
  simp only [N1]
  repeat' split
  all_goals omega
theorem N1_rl {r n : Nat} (h : rl n ≤ r) (h2 : n < 12000) : n < N1 r := by
  simp only [rl] at h
  simp only [N1]
  repeat' split at h
  all_goals repeat' split
  all_goals omega
theorem N1_rl' {r n : Nat} (h : rl n ≤ r) (h2 : n ≤ 12000) : n ≤ N1 r := by
  simp only [rl] at h
  simp only [N1]
  repeat' split at h
  all_goals repeat' split
  all_goals omega
theorem rl_pow {n : Nat} (h2 : n ≤ 12000) : n * 2 < 2 ^ (9 + 3 * rl n) := by
  simp only [rl]
  repeat' split
  all_goals omega
/-- all states differ -/
def DQ (n : Nat) (q : Nat → Nat × Nat) : Prop := ∀ i j, i < j → j < n → q i ≠ q j
def RI (r n : Nat) (q : Nat → Nat × Nat) (rmask rsize : Int32) (n1 : Nat) (fme : Nat → Int64) (n2 : Nat) (fbu : Nat → Int64) (n3 : Nat) (fsl : Nat → Int32) : Prop :=
  r ≤ 2 ∧ rl n ≤ r ∧ n ≤ 12000 ∧ n1 = N1 r ∧ n2 = N1 r ∧ n3 = 2 ^ (9 + 3 * r) ∧ rmask = nI (2 ^ (9 + 3 * rl n) - 1) ∧ rsize = nI n ∧ QH n q fme fbu ∧ DQ n q ∧ ∃ f, (∀ j, j < 2 ^ (9 + 3 * rl n) → fsl j = nI (f j)) ∧ TB (9 + 3 * rl n) n q f
/-- all states put in again -/
theorem s_widenL {Post : Int32 → Int32 → Int32 → Nat → (Nat → Int64) → Nat → (Nat → Int64) → Nat → (Nat → Int32) → Prop} {mc ms ca sa : Nat} {rcr : Int32} {w n n1 n2 n3 : Nat} {fme fbu : Nat → Int64} {fsl : Nat → Int32} {q : Nat → Nat × Nat}
    (hw : w ≤ 30) (hn3 : 2 ^ w ≤ n3) (hn3b : n3 < 2 ^ 31) (hn1 : n ≤ n1) (hn1b : n1 < 2 ^ 31) (hn2 : n ≤ n2) (hn2b : n2 < 2 ^ 31) (hQ : QH n q fme fbu) (hD : DQ n q) (hlt : n < 2 ^ w) (hc : ca ≤ mc) (hsa : sa ≤ ms) (hz : ∀ j, j < 2 ^ w → fsl j = 0)
    (h : ∀ fsl' f, (∀ j, j < 2 ^ w → fsl' j = nI (f j)) → TB w n q f → Post (nI (2 ^ w - 1)) (nI n) rcr n1 fme n2 fbu n3 fsl') :
    wp_RO_widen_89 Post mc ms (nI (2 ^ w - 1)) (nI n) rcr n1 fme n2 fbu n3 fsl ca sa := by
  have hp : 2 ^ w ≤ 2 ^ 30 := Nat.pow_le_pow_right (by decide) hw
  rw [wp_RO_widen_89]
  have key : ∀ (u t : Nat) (fsl : Nat → Int32) (f : Nat → Nat), u + t = n → (∀ j, j < 2 ^ w → fsl j = nI (f j)) → TB w t q f → wp_RO_widen_91 Post mc ms (u + 1) (nI (2 ^ w - 1)) (nI n) rcr n1 fme n2 fbu n3 fsl (nI t) ca sa := by
    intro u
    induction u with
    | zero =>
      intro t fsl f ht hf hT
      rw [wp_RO_widen_91]
      refine pk_le n t (fun _ => ⟨hc, hsa, ?_⟩) (fun c => by omega)
      rw [show t = n by omega] at hT
      exact h fsl f hf hT
    | succ u ih =>
      intro t fsl f ht hf hT
      rw [wp_RO_widen_91]
      refine pk_le n t (fun c => by omega) (fun c => ⟨vp_in_nI (by omega) hn1b, vp_in_nI (by omega) hn2b, hc, hsa, ?_⟩)
      obtain ⟨g1, g2, g3, g4⟩ := hQ t (by omega)
      rw [nI_clamp (by omega), g1, g2]
      refine s_slotOf (m := t) (q := q) (f := f) (x := q t) hw hn3 hn3b (by omega) hn1b (by omega) hn2b (fun i hi => hQ i (by omega)) hf hT.1 (by rw [hT.2.1]; omega) g3 g4 (fun s hs hS => ?_)
      have h0 : f s = 0 := by
        by_cases e : f s = 0
        · exact e
        · exfalso
          obtain ⟨d, _, _, h3⟩ := hS
          have := hT.1 s hs
          exact hD (f s - 1) t (by omega) (by omega) (h3 e)
      refine ⟨fun e => absurd e (nI_nem1 (by omega)), fun _ => ⟨vp_in_nI (by omega) hn3b, fun f34 e34 => ?_⟩⟩
      rw [wp_RO_widen_133]
      intro x35 e35
      rw [nI_1] at e34 e35
      rw [nI_clamp (by omega)] at e34
      rw [e35]
      refine ih (t + 1) f34 (upN f s (t + 1)) (by omega) (fun j hj => ?_) (tb_ins hT hS h0)
      rw [e34]
      simp only [upd, upN]
      split
      · rfl
      · exact hf j hj
  refine ⟨n + 1, key n 0 fsl (fun _ => 0) (by omega) (fun j hj => hz j hj) (tb_zero (fun j hj => rfl))⟩
theorem s_copyJ {Post : Nat → (Nat → Int64) → (Nat → Int64) → Prop} {mc ms n0 k : Nat} {f0 : Nat → Int64} (h0 : n0 < k) (hk : k < 2 ^ 20) (hm : 1 ≤ mc) (hs : k ≤ ms) (h : ∀ g, (∀ j, j < n0 → g j = f0 j) → Post k g f0) : wp_JA_copyOf_aJI Post mc ms n0 f0 (nI k) := by
  rw [wp_JA_copyOf_aJI]
  refine ⟨fun _ => ?_, fun c => ?_⟩
  · rw [show (if nI k < Int32.ofNat n0 then nI k else Int32.ofNat n0) = nI n0 by
      rw [if_neg]
      · rfl
      · exact nI_nlt (Nat.le_of_lt h0) (by omega)]
    rw [nI_clamp (by omega), nI_clamp (by omega)]
    have z : (0 : Int32).toNatClampNeg = 0 := by decide
    rw [z]
    refine ⟨nI_pos (by omega), by omega, by omega, by omega, by omega, by omega, nI_pos (by omega), by omega, by omega, fun f2 e2 => ⟨by omega, by omega, h f2 (fun j hj => ?_)⟩⟩
    rw [e2, pk_cpy_in (by omega) (by omega)]
    congr 1
    omega
  · have : k = n0 := (nI_eq (by omega) (by omega)).mp c
    omega
theorem s_copyI {Post : Nat → (Nat → Int32) → (Nat → Int32) → Prop} {mc ms n0 k : Nat} {f0 : Nat → Int32} (h0 : n0 < k) (hk : k < 2 ^ 20) (hm : 1 ≤ mc) (hs : k ≤ ms) (h : ∀ g, (∀ j, j < n0 → g j = f0 j) → Post k g f0) : wp_JA_copyOf_aII Post mc ms n0 f0 (nI k) := by
  rw [wp_JA_copyOf_aII]
  refine ⟨fun _ => ?_, fun c => ?_⟩
  · rw [show (if nI k < Int32.ofNat n0 then nI k else Int32.ofNat n0) = nI n0 by
      rw [if_neg]
      · rfl
      · exact nI_nlt (Nat.le_of_lt h0) (by omega)]
    rw [nI_clamp (by omega), nI_clamp (by omega)]
    have z : (0 : Int32).toNatClampNeg = 0 := by decide
    rw [z]
    refine ⟨nI_pos (by omega), by omega, by omega, by omega, by omega, by omega, nI_pos (by omega), by omega, by omega, fun f2 e2 => ⟨by omega, by omega, h f2 (fun j hj => ?_)⟩⟩
    rw [e2, pk_cpy_in (by omega) (by omega)]
    congr 1
    omega
  · have : k = n0 := (nI_eq (by omega) (by omega)).mp c
    omega
/-- widening from level l to l + 1 -/
theorem s_widen {Post : Int32 → Int32 → Int32 → Nat → (Nat → Int64) → Nat → (Nat → Int64) → Nat → (Nat → Int32) → Prop} {mc ms : Nat} {rcr : Int32} {r l n : Nat} {fme fbu : Nat → Int64} {fsl : Nat → Int32} {q : Nat → Nat × Nat}
    (hl : l < 2) (hr : r ≤ 2) (hlr : l ≤ r) (hn : n ≤ N1 l) (hQ : QH n q fme fbu) (hD : DQ n q) (hmc : 3 * (max r (l + 1) - r) ≤ mc) (hms : RS (max r (l + 1)) - RS r ≤ ms)
    (h : ∀ fme' fbu' fsl' f, (∀ j, j < 2 ^ (9 + 3 * (l + 1)) → fsl' j = nI (f j)) → QH n q fme' fbu' → TB (9 + 3 * (l + 1)) n q f → Post (nI (2 ^ (9 + 3 * (l + 1)) - 1)) (nI n) rcr (N1 (max r (l + 1))) fme' (N1 (max r (l + 1))) fbu' (2 ^ (9 + 3 * max r (l + 1))) fsl') :
    wp_RO_widen Post mc ms (nI (2 ^ (9 + 3 * l) - 1)) (nI n) rcr (N1 r) fme (N1 r) fbu (2 ^ (9 + 3 * r)) fsl := by
  have e1 : (nI (2 ^ (9 + 3 * l) - 1) + 1) * 8 = nI (2 ^ (9 + 3 * (l + 1))) := by
    rcases (show l = 0 ∨ l = 1 by omega) with rfl | rfl <;> decide
  have hp : 2 ^ (9 + 3 * (l + 1)) < 2 ^ 20 := Nat.pow_lt_pow_right (by decide) (by omega)
  have hp3 : 2 ^ (9 + 3 * r) < 2 ^ 20 := Nat.pow_lt_pow_right (by decide) (by omega)
  have hpn : n < 2 ^ (9 + 3 * (l + 1)) := by
    rcases (show l = 0 ∨ l = 1 by omega) with rfl | rfl <;> simp [N1] at hn <;> omega
  have e6 : (if nI (2 ^ (9 + 3 * (l + 1))) / 2 < 12000 then nI (2 ^ (9 + 3 * (l + 1))) / 2 else (12000 : Int32)) = nI (N1 (l + 1)) := by
    rcases (show l = 0 ∨ l = 1 by omega) with rfl | rfl <;> decide
  have hr1 := N1_lt r
  have hr2 := N1_lt (l + 1)
  rw [wp_RO_widen]
  intro x1 ex1
  rw [e1] at ex1
  subst ex1
  by_cases cl : l + 1 ≤ r
  · rw [Nat.max_eq_left cl] at h hmc hms
    have hple : 2 ^ (9 + 3 * (l + 1)) ≤ 2 ^ (9 + 3 * r) := Nat.pow_le_pow_right (by decide) (by omega)
    have hN : N1 (l + 1) ≤ N1 r := by
      simp only [N1]
      repeat' split
      all_goals omega
    have hN0 : N1 l ≤ N1 r := by
      simp only [N1]
      repeat' split
      all_goals omega
    refine pk_le (2 ^ (9 + 3 * (l + 1))) (2 ^ (9 + 3 * r)) (fun _ => ⟨by omega, by omega, ?_⟩) (fun c => by omega)
    refine s_fillR (fm := 0) (by omega) (by omega) hple ?_
    rw [wp_RO_widen_39]
    intro x5 e5
    refine ⟨by omega, by omega, fun x6 ex6 => ?_⟩
    rw [e6] at ex6
    subst ex6
    rw [show (1 : Int32) = nI 1 from rfl, pk_sub (Nat.two_pow_pos _)] at e5
    subst e5
    refine pk_le (N1 (l + 1)) (N1 r) (fun _ => ?_) (fun c => by omega)
    refine s_widenL (by omega) hple (by omega) (by omega) (by omega) (by omega) (by omega) hQ hD hpn (by omega) (by omega) (fun j hj => ?_) (fun fsl' f hf hT => h fme fbu fsl' f hf hQ hT)
    rw [if_pos (by omega)]
  · have hrl : r = l := by omega
    subst hrl
    rw [Nat.max_eq_right (by omega)] at h hmc hms
    have hplt : 2 ^ (9 + 3 * r) < 2 ^ (9 + 3 * (r + 1)) := Nat.pow_lt_pow_right (by decide) (by omega)
    have hN : N1 r < N1 (r + 1) := by
      simp only [N1]
      repeat' split
      all_goals omega
    have hRS : RS (r + 1) = RS r + (2 ^ (9 + 3 * (r + 1)) + 2 * N1 (r + 1)) := by
      rcases (show r = 0 ∨ r = 1 by omega) with rfl | rfl <;> decide
    refine pk_le (2 ^ (9 + 3 * (r + 1))) (2 ^ (9 + 3 * r)) (fun c => by omega) (fun _ => ⟨nI_pos (by omega), ?_⟩)
    rw [nI_clamp (by omega)]
    refine ⟨by omega, by omega, by omega, ?_⟩
    rw [wp_RO_widen_39]
    intro x5 e5
    refine ⟨by omega, by omega, fun x6 ex6 => ?_⟩
    rw [e6] at ex6
    subst ex6
    rw [show (1 : Int32) = nI 1 from rfl, pk_sub (Nat.two_pow_pos _)] at e5
    subst e5
    refine pk_le (N1 (r + 1)) (N1 r) (fun c => by omega) (fun _ => ?_)
    refine ⟨1, N1 (r + 1), by omega, by omega, s_copyJ hN (by omega) (Nat.le_refl _) (Nat.le_refl _) (fun g1 hg1 => ?_)⟩
    refine ⟨1, N1 (r + 1), by omega, by omega, s_copyJ hN (by omega) (Nat.le_refl _) (Nat.le_refl _) (fun g2 hg2 => ?_)⟩
    have hQ2 : QH n q g1 g2 := fun i hi => by
      rw [hg1 i (by omega), hg2 i (by omega)]
      exact hQ i hi
    exact s_widenL (by omega) (Nat.le_refl _) (by omega) (by omega) (by omega) (by omega) (by omega) hQ2 hD hpn (by omega) (by omega) (fun j hj => rfl) (fun fsl' f hf hT => h g1 g2 fsl' f hf hQ2 hT)
def upQ (q : Nat → Nat × Nat) (k : Nat) (v : Nat × Nat) : Nat → Nat × Nat := fun j => if j = k then v else q j
theorem upQ_s {q : Nat → Nat × Nat} {k : Nat} {v : Nat × Nat} : upQ q k v k = v := if_pos rfl
theorem upQ_n {q : Nat → Nat × Nat} {k j : Nat} {v : Nat × Nat} (h : j ≠ k) : upQ q k v j = q j := if_neg h
theorem tb_up {w n : Nat} {q : Nat → Nat × Nat} {f : Nat → Nat} {v : Nat × Nat} (h : TB w n q f) : TB w n (upQ q n v) f := ⟨h.1, h.2.1, fun i hi => by rw [upQ_n (by omega)]; exact h.2.2 i hi⟩
theorem s_add {Post : Int32 → Int32 → Int32 → Int32 → Nat → (Nat → Int64) → Nat → (Nat → Int64) → Nat → (Nat → Int32) → Prop} {mc ms : Nat} {rcr : Int32} {r n n1 n2 n3 : Nat} {rmask rsize : Int32} {fme fbu : Nat → Int64} {fsl : Nat → Int32} {q : Nat → Nat × Nat} {x : Nat × Nat}
    (hR : RI r n q rmask rsize n1 fme n2 fbu n3 fsl) (hx1 : x.1 < 2 ^ 63) (hx2 : x.2 < 2 ^ 63)
    (hold : (∃ i, i < n ∧ q i = x) → Post 0 rmask rsize rcr n1 fme n2 fbu n3 fsl)
    (hfull : (¬ ∃ i, i < n ∧ q i = x) → n = 12000 → Post 0 rmask rsize 1 n1 fme n2 fbu n3 fsl)
    (hmc : (¬ ∃ i, i < n ∧ q i = x) → n < 12000 → 3 * (max r (rl (n + 1)) - r) ≤ mc ∧ RS (max r (rl (n + 1))) - RS r ≤ ms)
    (hnew : (¬ ∃ i, i < n ∧ q i = x) → n < 12000 → ∀ rmask' n1' fme' n2' fbu' n3' fsl', RI (max r (rl (n + 1))) (n + 1) (upQ q n x) rmask' (nI (n + 1)) n1' fme' n2' fbu' n3' fsl' → Post 1 rmask' (nI (n + 1)) rcr n1' fme' n2' fbu' n3' fsl') :
    wp_RO_add Post mc ms rmask rsize rcr n1 fme n2 fbu n3 fsl (lN x.1) (lN x.2) := by
  obtain ⟨hr, hrl, hn, en1, en2, en3, emask, esize, hQ, hD, f, hf, hT⟩ := hR
  subst en1 en2 en3 emask esize
  have hr1 := N1_lt r
  have hp3 : 2 ^ (9 + 3 * r) < 2 ^ 20 := Nat.pow_lt_pow_right (by decide) (by omega)
  have hple : 2 ^ (9 + 3 * rl n) ≤ 2 ^ (9 + 3 * r) := Nat.pow_le_pow_right (by decide) (by omega)
  have hpn := rl_pow hn
  have hnN := N1_rl' hrl hn
  rw [wp_RO_add]
  refine ⟨by omega, by omega, ?_⟩
  refine s_slotOf (m := n) (q := q) (f := f) (x := x) (by have := rl_le n; omega) hple (by omega) hnN (by omega) hnN (by omega) hQ hf hT.1 (by rw [hT.2.1]; omega) hx1 hx2 (fun s hsl hS => ?_)
  refine ⟨fun e => absurd e (nI_nem1 (by omega)), fun _ => ⟨vp_in_nI (by omega) (by omega), ?_⟩⟩
  have hfs := hT.1 s hsl
  rw [nI_clamp (by omega), hf s hsl, nI_z0 (by omega)]
  refine ⟨fun c => ?_, fun c => ⟨by omega, by omega, hold ⟨f s - 1, by omega, ?_⟩⟩⟩
  · have hnw : ¬ ∃ i, i < n ∧ q i = x := fun ⟨i, hi, e⟩ => sr_old hT hS hi e c
    refine pk_lt n (N1 r) (fun cn => ?_) (fun cn => ?_)
    · obtain ⟨hm1, hm2⟩ := hmc hnw (by omega)
      refine ⟨vp_in_nI cn (by omega), fun f14 e14 => ⟨vp_in_nI cn (by omega), fun f15 e15 x16 e16 => ⟨vp_in_nI (by omega) (by omega), fun f17 e17 => ?_⟩⟩⟩
      rw [nI_1] at e16
      subst e16
      rw [nI_clamp (by omega)] at e14 e15
      have hQ2 : QH (n + 1) (upQ q n x) f14 f15 := fun i hi => by
        by_cases e : i = n
        · subst e
          rw [e14, e15, pk_uLs, pk_uLs, upQ_s]
          exact ⟨rfl, rfl, hx1, hx2⟩
        · rw [e14, e15, pk_uLn e, pk_uLn e, upQ_n e]
          exact hQ i (by omega)
      have hD2 : DQ (n + 1) (upQ q n x) := fun i j hij hj => by
        rw [upQ_n (show i ≠ n by omega)]
        by_cases e : j = n
        · subst e
          rw [upQ_s]
          exact fun e2 => hnw ⟨i, by omega, e2⟩
        · rw [upQ_n e]
          exact hD i j hij (by omega)
      have hS2 : SR (9 + 3 * rl n) (upQ q n x) f (upQ q n x n) s := by
        rw [upQ_s]
        obtain ⟨d, g1, g2, g3⟩ := hS
        refine ⟨d, g1, fun e he => ?_, fun e => absurd c e⟩
        have g4 := g2 e he
        have g5 := hT.1 ((hs x (9 + 3 * rl n) + e) % 2 ^ (9 + 3 * rl n)) (Nat.mod_lt _ (Nat.two_pow_pos _))
        refine ⟨g4.1, ?_⟩
        rw [upQ_n (by omega)]
        exact g4.2
      have hT2 := tb_ins (tb_up (v := x) hT) hS2 c
      have hf2 : ∀ j, j < 2 ^ (9 + 3 * rl n) → f17 j = nI (upN f s (n + 1) j) := fun j hj => by
        rw [e17]
        simp only [upd, upN]
        split
        · rfl
        · exact hf j hj
      rw [show (2 : Int32) = nI 2 from rfl, pk_mul]
      refine pk_le ((n + 1) * 2) (2 ^ (9 + 3 * rl n) - 1) (fun c2 => ⟨by omega, by omega, ?_⟩) (fun c2 => ?_)
      · have hrl2 : rl (n + 1) = rl n := by
          simp only [rl] at c2 ⊢
          repeat' split at c2
          all_goals repeat' split
          all_goals first | rfl | omega
        rw [hrl2, Nat.max_eq_left hrl] at hnew
        refine hnew hnw (by omega) _ _ _ _ _ _ _ ⟨hr, by omega, by omega, rfl, rfl, rfl, by rw [hrl2], rfl, hQ2, hD2, upN f s (n + 1), by rw [hrl2]; exact hf2, by rw [hrl2]; exact hT2⟩
      · have hrl2 : rl (n + 1) = rl n + 1 ∧ n + 1 ≤ N1 (rl n) ∧ rl n < 2 := by
          rcases rl_c n with ⟨e, a⟩ | ⟨e, a, b⟩ | ⟨e, a⟩ <;> rw [e] at c2 ⊢ <;> rcases rl_c (n + 1) with ⟨e', a'⟩ | ⟨e', a', b'⟩ | ⟨e', a'⟩ <;> rw [e'] <;> simp [N1] <;> omega
        rw [hrl2.1] at hm1 hm2 hnew
        refine ⟨3 * (max r (rl n + 1) - r), RS (max r (rl n + 1)) - RS r, by omega, by omega, ?_⟩
        refine s_widen hrl2.2.2 hr hrl hrl2.2.1 hQ2 hD2 (Nat.le_refl _) (Nat.le_refl _) (fun fme' fbu' fsl' f' hf' hQ' hT' => ⟨by omega, by omega, ?_⟩)
        exact hnew hnw (by omega) _ _ _ _ _ _ _ ⟨by omega, by omega, by omega, rfl, rfl, rfl, by rw [hrl2.1], rfl, hQ', hD2, f', by rw [hrl2.1]; exact hf', by rw [hrl2.1]; exact hT'⟩
    · refine ⟨by omega, by omega, hfull hnw ?_⟩
      by_cases e : n < 12000
      · have := N1_rl hrl e
        omega
      · omega
  · obtain ⟨d, _, _, h3⟩ := hS
    exact h3 c
