/-- the room's arrays are of level r -/
def RL (r n1 n2 n3 : Nat) : Prop := r ≤ 2 ∧ n1 = N1 r ∧ n2 = N1 r ∧ n3 = 2 ^ (9 + 3 * r)
theorem s_explore {Post : Int32 → Int64 → Int64 → Int64 → Int64 → (Nat → Int32) → (Nat → Int32) → Int32 → Int32 → Int32 → Nat → (Nat → Int64) → Nat → (Nat → Int64) → Nat → (Nat → Int32) → Int32 → Int32 → Int32 → Int32 → Int32 → Int32 → Nat → (Nat → Int32) → Nat → (Nat → Int64) → (Nat → Int32) → Prop}
    {mc ms : Nat} {pc pl : Nat → Int32} {na co : Nat → Nat} {k r a e rF aF eF : Nat} {mki : Int32} {mme mbu mnm mnb : Int64} {rmask rsize rcr : Int32} {n1 : Nat} {fme : Nat → Int64} {n2 : Nat} {fbu : Nat → Int64} {n3 : Nat} {fsl : Nat → Int32} {fr cr sc sk cc ec : Int32} {m1 : Nat} {ftr : Nat → Int32} {m2 : Nat} {fen : Nat → Int64} {fcu : Nat → Int32}
    (hP : PGc pc pl na co) (hk : k < 4) (hR : RL r n1 n2 n3) (ha : a ≤ 2) (hm1 : m1 = N1 a) (he : e ≤ 4) (hm2 : m2 = E1 e)
    (hrF : max r (rl (xn (xF na co k))) = rF) (haF : max a (tl (xn (xF na co k))) = aF) (heF : max e (el (eL na (xF na co k) (iE na co k)).length) = eF) (hmc : 3 * (rF - r) + (aF - a) + (eF - e) ≤ mc) (hms : (RS rF - RS r) + (TS aF - TS a) + (ES eF - ES e) ≤ ms)
    (hPost : ∀ mme mbu mnm mnb rmask rsize rcr n1 fme n2 fbu n3 fsl sc sk cc ec m1 ftr m2 fen fcu w, RL rF n1 n2 n3 → FK na co k aF eF (xF na co k) (iE na co k) w rcr sc sk cc ec m1 ftr m2 fen fcu →
      Post (nI k) mme mbu mnm mnb pc pl rmask rsize rcr n1 fme n2 fbu n3 fsl 1 rcr sc sk cc ec m1 ftr m2 fen fcu) :
    wp_EX_explore Post mc ms mki mme mbu mnm mnb pc pl rmask rsize rcr n1 fme n2 fbu n3 fsl fr cr sc sk cc ec m1 ftr m2 fen fcu (nI k) := by
  have hPN := PGc_PN hP
  obtain ⟨hr2, e1, e2, e3⟩ := hR
  subst e1 e2 e3
  have hp3 : 2 ^ (9 + 3 * r) < 2 ^ 20 := Nat.pow_lt_pow_right (by decide) (by omega)
  have hp9 : 2 ^ 9 ≤ 2 ^ (9 + 3 * r) := Nat.pow_le_pow_right (by decide) (by omega)
  rw [wp_EX_explore]
  refine ⟨by omega, by omega, ?_⟩
  rw [wp_MA_become]
  refine ⟨by omega, by omega, ?_⟩
  rw [wp_RO_empty]
  refine s_fillR (fm := 0) (to := 512) (by omega) (by omega) (by omega) ⟨by omega, by omega, ?_⟩
  rw [wp_FI_begin]
  refine s_fillA (by decide) ?_
  refine ⟨0, 0, by omega, by omega, ?_⟩
  have hRI : RI r 0 (fun _ => (0, 0)) 511 0 (N1 r) fme (N1 r) fbu (2 ^ (9 + 3 * r)) (fun j => if 0 ≤ j ∧ j < 512 then 0 else fsl j) := by
    refine ⟨hr2, by show (0 : Nat) ≤ r; omega, by omega, rfl, rfl, rfl, rfl, rfl, fun i hi => by omega, fun i j h1 h2 => by omega, fun _ => 0, fun j hj => ?_, tb_zero (fun j hj => rfl)⟩
    have hj2 : j < 512 := hj
    show (if 0 ≤ j ∧ j < 512 then (0 : Int32) else fsl j) = nI 0
    rw [if_pos ⟨by omega, hj2⟩]
    rfl
  have hnot : ¬ ∃ i, i < 0 ∧ (fun _ : Nat => ((0 : Nat), (0 : Nat))) i = (0, 0) := fun ⟨i, h, _⟩ => by omega
  refine s_add (x := (0, 0)) hRI (by show (0 : Nat) < 2 ^ 63; decide) (by show (0 : Nat) < 2 ^ 63; decide) (fun c => absurd c hnot) (fun _ c => by omega) (fun _ _ => ⟨?_, ?_⟩) (fun _ _ rmask' n1' fme' n2' fbu' n3' fsl' hR' => ?_)
  · rw [show rl (0 + 1) = 0 from rfl]
    omega
  · rw [show rl (0 + 1) = 0 from rfl, Nat.max_eq_left (by omega)]
    omega
  · rw [show rl (0 + 1) = 0 from rfl, Nat.max_eq_left (by omega)] at hR'
    refine ⟨fun c => absurd c (by decide), fun _ => ⟨0, 0, by omega, by omega, ?_⟩⟩
    have hTI : TI a 0 (fun _ => (0, 0, 0)) m1 ftr 0 := ⟨ha, by show (0 : Nat) ≤ a; omega, hm1, rfl, fun j hj => by omega⟩
    refine s_addState (i := 0) (s := 0) hTI (by omega) (by omega) (by omega) ?_ ?_ (fun m1' ftr' hm1' _ hf2 => ?_)
    · rw [show tl (0 + 1) = 0 from rfl]
      omega
    · rw [show tl (0 + 1) = 0 from rfl, Nat.max_eq_left (by omega)]
      omega
    · rw [show tl (0 + 1) = 0 from rfl, Nat.max_eq_left (by omega)] at hm1'
      rw [wp_EX_explore_37]
      refine ⟨iE na co k + 1, ?_⟩
      refine s_expl45 (rF := rF) (aF := aF) (eF := eF) (fr := 1) (cr := 0) hP hk (fun mme mbu mnm mnb rmask rsize rcr n1 fme n2 fbu n3 fsl sc sk cc ec m1 ftr m2 fen fcu w h1 h2 => hPost _ _ _ _ _ _ _ _ _ _ _ _ _ _ _ _ _ _ _ _ _ _ w ⟨h1.1, h1.2.2.2.1, h1.2.2.2.2.1, h1.2.2.2.2.2.1⟩ h2) (iE na co k) 0 r a e (0 + 0 + 0) (0 + 0 + 0) 0 1 _ _ _ _ _ _ _ _ _ _ _ _ _ _ _ _ _ _ _ _ _ (by omega) ?_ ?_ ?_ ?_ hrF haF heF (by omega) (by omega)
      · refine ⟨?_, ⟨ha, by show (0 : Nat) ≤ a; omega, hm1', rfl, fun j hj => ?_⟩, rfl⟩
        · have : upQ (fun _ => (0, 0)) 0 (0, 0) = fun _ => (0, 0) := by
            funext j
            simp only [upQ, ite_self]
          rw [this] at hR'
          exact hR'
        · have : j = 0 := by
            have h1 : j < 1 := hj
            omega
          subst this
          exact hf2
      · exact ⟨he, by show (0 : Nat) ≤ e; omega, hm2, rfl, by show (0 : Nat) ≤ 12000; omega, fun j hj => absurd hj (Nat.not_lt_zero _)⟩
      · refine ⟨fun c hc => ?_, fun c hc => by show (0 : Nat) ≤ 41; omega, ?_⟩
        · show (if c < 256 then (-1 : Int32) else fcu c) = if (0 : Nat) = 0 then -1 else nI (0 - 1)
          rw [if_pos hc, if_pos rfl]
        · show (0 : Int32) = nI (tk (fun _ => 0) 256)
          rw [tk_zero (fun j hj => rfl)]
          rfl
      · have h0 := (xle_t na co k (show 0 ≤ 24 * iE na co k by omega)).2.1 0 (by show (0 : Nat) < 1; omega)
        rw [iE_x] at h0
        refine ⟨by omega, by show (1 : Nat) ≤ 1; omega, fun j h1 h2 => ?_, fun j h1 h2 => ?_⟩
        · rw [show j = 0 by omega, xd, h0.2]
          rfl
        · have : j < 1 := h2
          omega
