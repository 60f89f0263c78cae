/-! the class's questions to what it found -/
def FC (na co : Nat → Nat) (k a e : Nat) (cr sc sk cc ec : Int32) (m1 : Nat) (ftr : Nat → Int32) (m2 : Nat) (fen : Nat → Int64) (fcu : Nat → Int32) : Prop :=
  (a ≤ 2 ∧ m1 = N1 a ∧ e ≤ 4 ∧ m2 = E1 e) ∧ cr = bI (xc (xF na co k)) ∧ (sc = nI (xn (xF na co k)) ∧ xn (xF na co k) ≤ m1 ∧ ∀ j, j < xn (xF na co k) → ftr j = nI (32 * (xtr (xF na co k) j).1 + (xtr (xF na co k) j).2.1)) ∧
  (ec = nI (eN na co k) ∧ eN na co k ≤ m2 ∧ ∀ j, j < eN na co k → fen j = lN (wC na co k j)) ∧ sk = nI (skX na co k (xF na co k) (iE na co k)) ∧ CI (csX (xF na co k) (iE na co k)) fcu cc
theorem E1_lt (e : Nat) : E1 e < 2 ^ 31 := by
  simp only [E1]
  repeat' split
  all_goals omega
theorem FK_FC {na co : Nat → Nat} {k a e : Nat} {w : Nat → Nat} {cr sc sk cc ec : Int32} {m1 : Nat} {ftr : Nat → Int32} {m2 : Nat} {fen : Nat → Int64} {fcu : Nat → Int32} (hPN : PN na co) (h : FK na co k a e (xF na co k) (iE na co k) w cr sc sk cc ec m1 ftr m2 fen fcu) : FC na co k a e cr sc sk cc ec m1 ftr m2 fen fcu := by
  obtain ⟨⟨t1, t2, t3, t4, t5⟩, ⟨e1, e2, e3⟩, h3, h4, h5, h6, h7, h8, h9⟩ := h
  have h12 := (XI_F (k := k) hPN).2.1
  refine ⟨⟨t1, t3, e1, e2⟩, h9, ⟨t4, ?_, t5⟩, ⟨h3, e3, fun j hj => ?_⟩, h7, h8⟩
  · have := tl_c (xn (xF na co k))
    rw [t3]
    simp only [N1]
    rcases (show a = 0 ∨ a = 1 ∨ a = 2 by omega) with rfl | rfl | rfl
    · rw [if_pos rfl]
      omega
    · rw [if_neg (by omega), if_pos rfl]
      omega
    · rw [if_neg (by omega), if_neg (by omega)]
      exact h12
  · rw [(h4 j hj).1, wC_eq h6 h5 j hj]
theorem s_hasEnd {Post : Int32 → Int32 → Int32 → Int32 → Int32 → Int32 → Int32 → Nat → (Nat → Int32) → Nat → (Nat → Int64) → (Nat → Int32) → Prop} {fr cr sc sk cc ec : Int32} {m1 : Nat} {ftr : Nat → Int32} {m2 : Nat} {fen : Nat → Int64} {fcu : Nat → Int32} {n : Nat} {k0 : Int32} (hec : ec = nI n) (hn : n < 2 ^ 31)
    (h1 : ∀ j, j < n → k0 = nI j → Post 1 fr cr sc sk cc ec m1 ftr m2 fen fcu) (h0 : (∀ j, j < n → k0 ≠ nI j) → Post 0 fr cr sc sk cc ec m1 ftr m2 fen fcu) : wp_FI_hasEnd Post fr cr sc sk cc ec m1 ftr m2 fen fcu k0 := by
  rw [wp_FI_hasEnd]
  refine ⟨fun c => h0 (fun j hj e => ?_), fun c => ?_⟩
  · rw [e] at c
    exact nI_pos (by omega) c
  · obtain ⟨j, hj, e⟩ := nI_of c
    rw [hec, e]
    subst e
    refine pk_le n j (fun c2 => ?_) (fun c2 => ?_)
    · rw [← hec]
      refine h0 (fun i hi e => ?_)
      rw [nI_eq (by omega) (by omega)] at e
      omega
    · rw [← hec]
      exact h1 j c2 rfl
theorem sar14 {x : Nat} (h : x < 2 ^ 62) : lN x >>> ((14 : Int32).toInt64 &&& 63) = lN (x / 2 ^ 14) := pf_shr (by decide) h
theorem s_outcomeAt {Post : Int64 → Int32 → Int32 → Int32 → Int32 → Int32 → Int32 → Nat → (Nat → Int32) → Nat → (Nat → Int64) → (Nat → Int32) → Prop} {fr : Int32} {na co : Nat → Nat} {k a e j : Nat} {cr sc sk cc ec : Int32} {m1 : Nat} {ftr : Nat → Int32} {m2 : Nat} {fen : Nat → Int64} {fcu : Nat → Int32} (hF : FC na co k a e cr sc sk cc ec m1 ftr m2 fen fcu) (hj : j < eN na co k)
    (h : Post (lN (wC na co k j / 2 ^ 14)) fr cr sc sk cc ec m1 ftr m2 fen fcu) : wp_FI_outcomeAt Post fr cr sc sk cc ec m1 ftr m2 fen fcu (nI j) := by
  have h12 := eN_le na co k
  have hlt := (wC_lt hj).1
  obtain ⟨⟨_, _, _, hm2⟩, _, _, ⟨_, hle, hfe⟩, _, _⟩ := hF
  rw [wp_FI_outcomeAt, nI_clamp (by omega), hfe j hj, sar14 (by omega)]
  refine ⟨vp_in_nI (by omega) ?_, h⟩
  rw [hm2]
  exact E1_lt e
theorem lN_toI {m : Nat} (h : m < 2 ^ 63) : (lN m).toInt = (m : Int) := pk_lT h
theorem s_hasOutcome {Post : Int32 → Int32 → Int32 → Int32 → Int32 → Int32 → Int32 → Nat → (Nat → Int32) → Nat → (Nat → Int64) → (Nat → Int32) → Prop} {fr : Int32} {na co : Nat → Nat} {k a e : Nat} {cr sc sk cc ec : Int32} {m1 : Nat} {ftr : Nat → Int32} {m2 : Nat} {fen : Nat → Int64} {fcu : Nat → Int32} {oc : Int64} (hPN : PN na co) (hF : FC na co k a e cr sc sk cc ec m1 ftr m2 fen fcu)
    (h1 : (∃ j, j < eN na co k ∧ lN (wC na co k j / 2 ^ 14) = oc) → Post 1 fr cr sc sk cc ec m1 ftr m2 fen fcu) (h0 : ¬ (∃ j, j < eN na co k ∧ lN (wC na co k j / 2 ^ 14) = oc) → Post 0 fr cr sc sk cc ec m1 ftr m2 fen fcu) : wp_FI_hasOutcome Post fr cr sc sk cc ec m1 ftr m2 fen fcu oc := by
  have h12 := eN_le na co k
  have hec : ec = nI (eN na co k) := hF.2.2.2.1.1
  have hti : ∀ j, j < eN na co k → (lN (wC na co k j / 2 ^ 14)).toInt = ((wC na co k j / 2 ^ 14 : Nat) : Int) := fun j hj => lN_toI (by have := (wC_lt hj).1; omega)
  have heq : ∀ j, j < eN na co k → (lN (wC na co k j / 2 ^ 14) = oc ↔ ((wC na co k j / 2 ^ 14 : Nat) : Int) = oc.toInt) := fun j hj => by rw [← hti j hj, Int64.toInt_inj]
  have hinc : ∀ i j, i < j → j < eN na co k → ((wC na co k i / 2 ^ 14 : Nat) : Int) < ((wC na co k j / 2 ^ 14 : Nat) : Int) := fun i j hij hj => by
    have := wC_inc hPN hij hj
    omega
  subst hec
  have fin : ∀ lo, lo ≤ eN na co k → (∀ j, j < lo → ((wC na co k j / 2 ^ 14 : Nat) : Int) < oc.toInt) → (∀ j, lo ≤ j → j < eN na co k → oc.toInt ≤ ((wC na co k j / 2 ^ 14 : Nat) : Int)) → ((nI (eN na co k) ≤ nI lo → Post 0 fr cr sc sk cc (nI (eN na co k)) m1 ftr m2 fen fcu) ∧ (¬ nI (eN na co k) ≤ nI lo → wp_FI_outcomeAt (fun (r1 : Int64) (u2 : Int32) (u3 : Int32) (u4 : Int32) (u5 : Int32) (u6 : Int32) (u7 : Int32) (u8 : Nat) (u9 : Nat → Int32) (u10 : Nat) (u11 : Nat → Int64) (u12 : Nat → Int32) => ((¬ (lg_cmp r1 oc) = 0 → Post 0 u2 u3 u4 u5 u6 u7 u8 u9 u10 u11 u12) ∧ ((lg_cmp r1 oc) = 0 → Post 1 u2 u3 u4 u5 u6 u7 u8 u9 u10 u11 u12))) fr cr sc sk cc (nI (eN na co k)) m1 ftr m2 fen fcu (nI lo))) := by
    intro lo hlo z1 z2
    refine pk_le (eN na co k) lo (fun c => h0 (fun ⟨j, hj, e⟩ => ?_)) (fun c => ?_)
    · rw [heq j hj] at e
      have := z1 j (by omega)
      omega
    · refine s_outcomeAt hF c ?_
      rw [lg_cmp_eq]
      refine ⟨fun e => h0 (fun ⟨j, hj, e2⟩ => ?_), fun e => h1 ⟨lo, c, e⟩⟩
      rw [heq j hj] at e2
      rcases Nat.lt_trichotomy j lo with x | x | x
      · have := z1 j x
        omega
      · subst x
        exact e ((heq j hj).mpr e2)
      · have a1 := hinc lo j x hj
        have a2 := z2 lo (Nat.le_refl _) c
        omega
  have key : ∀ u lo hi, hi - lo ≤ u → lo ≤ hi → hi ≤ eN na co k → (∀ j, j < lo → ((wC na co k j / 2 ^ 14 : Nat) : Int) < oc.toInt) → (∀ j, hi ≤ j → j < eN na co k → oc.toInt ≤ ((wC na co k j / 2 ^ 14 : Nat) : Int)) → wp_FI_hasOutcome_8 Post (u + 1) fr cr sc sk cc (nI (eN na co k)) m1 ftr m2 fen fcu oc (nI lo) (nI hi) := by
    intro u
    induction u with
    | zero =>
      intro lo hi hu hlh hh z1 z2
      have : lo = hi := by omega
      subst this
      rw [wp_FI_hasOutcome_8]
      exact pk_le lo lo (fun _ => fin lo hh z1 z2) (fun c => by omega)
    | succ u ih =>
      intro lo hi hu hlh hh z1 z2
      rw [wp_FI_hasOutcome_8]
      refine pk_le hi lo (fun c => ?_) (fun c => ?_)
      · have : lo = hi := by omega
        subst this
        exact fin lo hh z1 z2
      · intro x15 e15
        rw [nI_add, show (2 : Int32) = nI 2 from rfl, pk_div (by omega) (by decide) (by decide)] at e15
        subst e15
        have hmid : (lo + hi) / 2 < eN na co k := by omega
        refine s_outcomeAt hF hmid ?_
        rw [lg_cmp_ge, Int64.le_iff_toInt_le, hti _ hmid]
        refine ⟨fun c2 => ?_, fun c2 x30 e30 => ?_⟩
        · rw [wp_FI_hasOutcome_45]
          refine ih lo ((lo + hi) / 2) (by omega) (by omega) (by omega) z1 (fun j hj hjn => ?_)
          by_cases x : j = (lo + hi) / 2
          · rw [x]
            exact c2
          · have := hinc ((lo + hi) / 2) j (by omega) hjn
            omega
        · rw [nI_1] at e30
          rw [wp_FI_hasOutcome_45, e30]
          refine ih ((lo + hi) / 2 + 1) hi (by omega) (by omega) hh (fun j hj => ?_) z2
          by_cases x : j = (lo + hi) / 2
          · rw [x]
            omega
          · have := hinc j ((lo + hi) / 2) (by omega) hmid
            omega
  exact ⟨eN na co k + 1, key (eN na co k) 0 (eN na co k) (by omega) (by omega) (by omega) (fun j hj => by omega) (fun j a b => by omega)⟩
/-- back along the row -/
def bk (F : Nat × (Nat → Nat × Nat) × (Nat → Nat × Nat × Nat) × Bool) (s : Nat) : Nat → Nat
  | 0 => s
  | m + 1 => (xtr F (bk F s m)).1
theorem bk_p {na : Nat → Nat} {k i s : Nat} {F : Nat × (Nat → Nat × Nat) × (Nat → Nat × Nat × Nat) × Bool} (hX : XI na k F i) (hs : s < xn F) : ∀ m, m ≤ xd F s → bk F s m < xn F ∧ xd F (bk F s m) + m = xd F s := by
  intro m
  induction m with
  | zero => intro _; exact ⟨hs, rfl⟩
  | succ m ih =>
    intro hm
    obtain ⟨a, b⟩ := ih (by omega)
    obtain ⟨x0, x1⟩ := hX.2.2.2.2.2.2.1
    have hne : bk F s m ≠ 0 := fun e => by
      rw [e, x0] at b
      omega
    obtain ⟨y1, y2, y3⟩ := x1 (bk F s m) (by omega) a
    show (xtr F (bk F s m)).1 < xn F ∧ xd F (xtr F (bk F s m)).1 + (m + 1) = xd F s
    exact ⟨by omega, by omega⟩
theorem bk_z {na : Nat → Nat} {k i s : Nat} {F : Nat × (Nat → Nat × Nat) × (Nat → Nat × Nat × Nat) × Bool} (hX : XI na k F i) (hs : s < xn F) {m : Nat} (hm : m ≤ xd F s) : bk F s m = 0 ↔ m = xd F s := by
  obtain ⟨a, b⟩ := bk_p hX hs m hm
  obtain ⟨x0, x1⟩ := hX.2.2.2.2.2.2.1
  constructor
  · intro e
    rw [e, x0] at b
    omega
  · intro e
    by_cases c : bk F s m = 0
    · exact c
    · have := (x1 (bk F s m) (by omega) a).2.2
      omega
/-- the row's step -/
def rwS (F : Nat × (Nat → Nat × Nat) × (Nat → Nat × Nat × Nat) × Bool) (s i : Nat) : Int32 := if i < xd F s then nI (xtr F (bk F s (xd F s - 1 - i))).2.1 else -1
theorem s_stepOfRow {Post : Int32 → Int32 → Int32 → Int32 → Int32 → Int32 → Int32 → Nat → (Nat → Int32) → Nat → (Nat → Int64) → (Nat → Int32) → Prop} {fr : Int32} {na co : Nat → Nat} {k a e kk i : Nat} {cr sc sk cc ec : Int32} {m1 : Nat} {ftr : Nat → Int32} {m2 : Nat} {fen : Nat → Int64} {fcu : Nat → Int32} (hPN : PN na co) (hF : FC na co k a e cr sc sk cc ec m1 ftr m2 fen fcu) (hkk : kk < eN na co k) (hi : i < 2 ^ 31)
    (h : Post (rwS (xF na co k) (wC na co k kk % 2 ^ 14) i) fr cr sc sk cc ec m1 ftr m2 fen fcu) : wp_FI_stepOfRow Post fr cr sc sk cc ec m1 ftr m2 fen fcu (nI kk) (nI i) := by
  have h12 := eN_le na co k
  have hlt := (wC_lt hkk).1
  have hX := XI_F (k := k) hPN
  have hs : wC na co k kk % 2 ^ 14 < xn (xF na co k) := Nat.lt_of_lt_of_le (wC_lt hkk).2 (iE_xn hPN)
  have hn12 := hX.2.1
  obtain ⟨⟨_, hm1, _, hm2⟩, _, ⟨_, hle1, hft⟩, ⟨_, hle, hfe⟩, _, _⟩ := hF
  have hN1 : m1 < 2 ^ 31 := by rw [hm1]; exact (N1_lt a).1
  have hE1 : m2 < 2 ^ 31 := by rw [hm2]; exact E1_lt e
  have hd40 := xd_le hPN.1 hX hs
  rw [wp_FI_stepOfRow, nI_clamp (by omega), hfe kk hkk, lN_i, nI_mask (k := 14) (by decide) (by decide)]
  refine ⟨vp_in_nI (by omega) hE1, fun x1 e1 => ?_⟩
  subst e1
  generalize hse : wC na co k kk % 2 ^ 14 = s at *
  generalize hFe : xF na co k = F at *
  have hst : ∀ m, m < xd F s → bk F s m < xn F ∧ (xtr F (bk F s m)).1 < 12000 ∧ (xtr F (bk F s m)).2.1 < 24 ∧ bk F s m ≠ 0 := fun m hm => by
    obtain ⟨a1, b1⟩ := bk_p hX hs m (by omega)
    have hne : bk F s m ≠ 0 := fun e => by
      have := (bk_z hX hs (show m ≤ xd F s by omega)).mp e
      omega
    have := hX.2.2.2.2.2.2.1.2 (bk F s m) (by omega) a1
    exact ⟨a1, by omega, this.2.1, hne⟩
  have hbf : ∀ m, m < xd F s → ∀ P : Int32 → Int32 → Int32 → Int32 → Int32 → Int32 → Int32 → Nat → (Nat → Int32) → Nat → (Nat → Int64) → (Nat → Int32) → Prop, P (nI (bk F s (m + 1))) fr cr sc sk cc ec m1 ftr m2 fen fcu → wp_FI_before P fr cr sc sk cc ec m1 ftr m2 fen fcu (nI (bk F s m)) := by
    intro m hm P hp
    obtain ⟨a1, a2, a3, a4⟩ := hst m hm
    rw [wp_FI_before, nI_clamp (by omega), hft _ a1, pk_shrN (by omega) _ 5 (by decide), show (32 * (xtr F (bk F s m)).1 + (xtr F (bk F s m)).2.1) / 2 ^ 5 = (xtr F (bk F s m)).1 by omega]
    exact ⟨vp_in_nI (by omega) hN1, hp⟩
  have k61 : i < xd F s → ∀ u m, i + u + m + 1 = xd F s → wp_FI_stepOfRow_61 Post (u + 1) fr cr sc sk cc ec m1 ftr m2 fen fcu (nI i) (nI (bk F s m)) (nI (i + u)) := by
    intro hix u
    induction u with
    | zero =>
      intro m hm
      obtain ⟨a1, a2, a3, a4⟩ := hst m (by omega)
      rw [wp_FI_stepOfRow_61]
      refine pk_le (i + 0) i (fun _ => ?_) (fun c => by omega)
      rw [nI_clamp (by omega), hft _ a1, nI_mask (k := 5) (by decide) (by decide), show (32 * (xtr F (bk F s m)).1 + (xtr F (bk F s m)).2.1) % 2 ^ 5 = (xtr F (bk F s m)).2.1 by omega]
      refine ⟨vp_in_nI (by omega) hN1, ?_⟩
      simp only [rwS] at h
      rw [if_pos hix, show xd F s - 1 - i = m by omega] at h
      exact h
    | succ u ih =>
      intro m hm
      rw [wp_FI_stepOfRow_61]
      refine pk_le (i + (u + 1)) i (fun c => by omega) (fun _ => ?_)
      refine hbf m (by omega) _ (fun x32 e32 => ?_)
      rw [← Int32.sub_eq_add_neg, show (1 : Int32) = nI 1 from rfl, pk_sub (by omega), show i + (u + 1) - 1 = i + u by omega] at e32
      rw [e32]
      exact ih (m + 1) (by omega)
  have k44 : wp_FI_stepOfRow_44 Post fr cr sc sk cc ec m1 ftr m2 fen fcu (nI i) (nI s) (nI (xd F s)) := by
    rw [wp_FI_stepOfRow_44]
    refine pk_lt i (xd F s) (fun c x17 e17 => ⟨xd F s - 1 - i + 1, ?_⟩) (fun c => ?_)
    · rw [show (1 : Int32) = nI 1 from rfl, pk_sub (by omega), show xd F s - 1 = i + (xd F s - 1 - i) by omega] at e17
      rw [e17]
      exact k61 c (xd F s - 1 - i) 0 (by omega)
    · simp only [rwS] at h
      rw [if_neg (by omega)] at h
      exact h
  have k18 : ∀ u m, u + m = xd F s → wp_FI_stepOfRow_18 Post (u + 1) fr cr sc sk cc ec m1 ftr m2 fen fcu (nI i) (nI s) (nI m) (nI (bk F s m)) := by
    intro u
    induction u with
    | zero =>
      intro m hm
      have hm2 : m = xd F s := by omega
      rw [wp_FI_stepOfRow_18, (bk_z hX hs (show m ≤ xd F s by omega)).mpr hm2, hm2]
      exact ⟨fun _ => k44, fun c => absurd (show nI 0 ≤ 0 by decide) c⟩
    | succ u ih =>
      intro m hm
      obtain ⟨a1, a2, a3, a4⟩ := hst m (by omega)
      rw [wp_FI_stepOfRow_18]
      refine ⟨fun c => absurd c (nI_nle (by omega) (by omega)), fun _ => pk_le 40 m (fun c => by omega) (fun _ x2 e2 => ?_)⟩
      rw [nI_1] at e2
      rw [e2]
      exact hbf m (by omega) _ (ih (m + 1) (by omega))
  exact ⟨xd F s + 1, k18 (xd F s) 0 (by omega)⟩
theorem tk_le (g : Nat → Nat) : ∀ m, tk g m ≤ m := by
  intro m
  induction m with
  | zero => exact Nat.le_refl _
  | succ m ih =>
    simp only [tk]
    split <;> omega
theorem tk_mono (g : Nat → Nat) {a b : Nat} (h : a ≤ b) : tk g a ≤ tk g b := by
  induction b with
  | zero => rw [show a = 0 by omega]; exact Nat.le_refl _
  | succ b ih =>
    by_cases e : a = b + 1
    · rw [e]
      exact Nat.le_refl _
    · exact Nat.le_trans (ih (by omega)) (Nat.le_add_right _ _)
theorem s_cutAt {Post : Int32 → Int32 → Int32 → Int32 → Int32 → Int32 → Int32 → Nat → (Nat → Int32) → Nat → (Nat → Int64) → (Nat → Int32) → Prop} {fr cr sc sk cc ec : Int32} {m1 : Nat} {ftr : Nat → Int32} {m2 : Nat} {fen : Nat → Int64} {fcu : Nat → Int32} {g : Nat → Nat} {kk : Nat} (hC : CI g fcu cc) (hk : kk < tk g 256)
    (h : ∀ c, c < 256 → g c ≠ 0 → tk g c = kk → Post (nI c) fr cr sc sk cc ec m1 ftr m2 fen fcu) : wp_FI_cutAt Post fr cr sc sk cc ec m1 ftr m2 fen fcu (nI kk) := by
  have h256 := tk_le g 256
  have key : ∀ u c, u + c = 256 → tk g c ≤ kk → wp_FI_cutAt_4 Post (u + 1) fr cr sc sk cc ec m1 ftr m2 fen fcu (nI (kk - tk g c)) (nI c) := by
    intro u
    induction u with
    | zero =>
      intro c hc ht
      rw [show c = 256 by omega] at ht
      omega
    | succ u ih =>
      intro c hc ht
      have hs : tk g (c + 1) = tk g c + (if g c = 0 then 0 else 1) := rfl
      have h41 := hC.2.1 c (by omega)
      rw [wp_FI_cutAt_4, nI_clamp (by omega), hC.1 c (by omega)]
      refine pk_le 256 c (fun x => by omega) (fun _ => ⟨vp_in_nI (by omega) (by decide), fun c1 => ?_, fun c1 => ?_⟩)
      · have g0 : g c = 0 := by
          by_cases x : g c = 0
          · exact x
          · rw [if_neg x] at c1
            exact absurd c1 (nI_nem1 (by omega))
        rw [if_pos g0] at hs
        rw [wp_FI_cutAt_30]
        intro x2 e2
        rw [nI_1] at e2
        rw [e2, show kk - tk g c = kk - tk g (c + 1) by omega]
        exact ih (c + 1) (by omega) (by omega)
      · have g0 : ¬ g c = 0 := fun x => by
          rw [if_pos x] at c1
          exact c1 rfl
        rw [if_neg g0] at hs
        rw [nI_z0 (by omega)]
        refine ⟨fun c2 x1 e1 => ?_, fun c2 => h c (by omega) g0 (by omega)⟩
        rw [← Int32.sub_eq_add_neg, show (1 : Int32) = nI 1 from rfl, pk_sub (by omega), show kk - tk g c - 1 = kk - tk g (c + 1) by omega] at e1
        rw [wp_FI_cutAt_30, e1]
        intro x2 e2
        rw [nI_1] at e2
        rw [e2]
        exact ih (c + 1) (by omega) (by omega)
  exact ⟨257, key 256 0 (by omega) (Nat.zero_le _)⟩
theorem s_fewestSteps {Post : Int32 → Int32 → Int32 → Int32 → Int32 → Int32 → Int32 → Nat → (Nat → Int32) → Nat → (Nat → Int64) → (Nat → Int32) → Prop} {fr cr sc sk cc ec : Int32} {m1 : Nat} {ftr : Nat → Int32} {m2 : Nat} {fen : Nat → Int64} {fcu : Nat → Int32} {g : Nat → Nat} {p v : Nat} (hC : CI g fcu cc) (hp : p < 4) (hv : v < 4)
    (h : Post (oI (mn g p v 256)) fr cr sc sk cc ec m1 ftr m2 fen fcu) : wp_FI_fewestSteps Post fr cr sc sk cc ec m1 ftr m2 fen fcu (nI p) (nI v) := by
  have hmn : ∀ m d, m ≤ 256 → mn g p v m = some d → d < 100 := fun m d hm e => by
    obtain ⟨⟨c, a1, a2, a3⟩, _⟩ := mn_some m e
    have := hC.2.1 c (by omega)
    omega
  have hsh : ((nI (2 * (3 - p)) &&& 31).toBitVec.smod 32).toNat = 2 * (3 - p) := by
    rcases (show p = 0 ∨ p = 1 ∨ p = 2 ∨ p = 3 by omega) with rfl | rfl | rfl | rfl <;> decide
  have key : ∀ u c, u + c = 256 → wp_FI_fewestSteps_5 Post (u + 1) fr cr sc sk cc ec m1 ftr m2 fen fcu (nI p) (nI v) (oI (mn g p v c)) (nI c) := by
    intro u
    induction u with
    | zero =>
      intro c hc
      rw [wp_FI_fewestSteps_5]
      refine pk_le 256 c (fun _ => ?_) (fun x => by omega)
      rw [show c = 256 by omega]
      exact h
    | succ u ih =>
      intro c hc
      have h41 := hC.2.1 c (by omega)
      have ih1 := ih (c + 1) (by omega)
      simp only [mn] at ih1
      rw [wp_FI_fewestSteps_5, nI_clamp (by omega), hC.1 c (by omega)]
      refine pk_le 256 c (fun x => by omega) (fun _ => ⟨vp_in_nI (by omega) (by decide), fun x1 e1 => ⟨fun c1 => ?_, fun c1 => ?_⟩⟩)
      · have g0 : g c = 0 := by
          by_cases x : g c = 0
          · exact x
          · rw [e1, if_neg x] at c1
            exact absurd c1 (nI_nem1 (by omega))
        rw [if_neg (fun x => x.1 g0)] at ih1
        rw [wp_FI_fewestSteps_58]
        intro x3 e3
        rw [nI_1] at e3
        rw [e3]
        exact ih1
      · have g0 : ¬ g c = 0 := fun x => by
          rw [e1, if_pos x] at c1
          exact c1 rfl
        rw [if_neg g0] at e1
        refine s_placeShift hp ?_
        rw [pk_shrN (by omega) _ (2 * (3 - p)) hsh, nI_mask (k := 2) (by decide) (by decide), show c / 2 ^ (2 * (3 - p)) % 2 ^ 2 = FD c (2 * (3 - p)) 2 from rfl, nI_eq (by have := fd_lt c (2 * (3 - p)) 2; omega) (by omega)]
        refine ⟨fun c2 => ?_, fun c2 => ?_⟩
        · rw [if_neg (fun x => c2 x.2)] at ih1
          rw [wp_FI_fewestSteps_58]
          intro x3 e3
          rw [nI_1] at e3
          rw [e3]
          exact ih1
        · rw [if_pos ⟨g0, c2⟩] at ih1
          rcases hm : mn g p v c with _ | d
          · rw [hm] at ih1
            refine ⟨fun c3 => absurd rfl c3, fun _ => ?_⟩
            rw [wp_FI_fewestSteps_57, wp_FI_fewestSteps_58]
            intro x3 e3
            rw [nI_1] at e3
            rw [e3, e1]
            exact ih1
          · rw [hm] at ih1
            have hd := hmn c d (by omega) hm
            refine ⟨fun _ => ?_, fun c3 => absurd c3 (nI_nem1 (by omega))⟩
            rw [wp_FI_fewestSteps_57, wp_FI_fewestSteps_58]
            intro x3 e3
            rw [nI_1] at e3
            rw [e3, e1, show (if nI (g c - 1) < oI (some d) then nI (g c - 1) else oI (some d)) = oI (some (min d (g c - 1))) from by
              show (if nI (g c - 1) < nI d then nI (g c - 1) else nI d) = nI (min d (g c - 1))
              by_cases x : g c - 1 < d
              · rw [if_pos (nI_lt x (by omega)), Nat.min_eq_right (by omega)]
              · rw [if_neg (nI_nlt (by omega) (by omega)), Nat.min_eq_left (by omega)]]
            exact ih1
  exact ⟨257, key 256 0 (by omega)⟩
