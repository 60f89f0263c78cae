/-! the reference's packed numbers -/
def fa (w : Nat) (g : Nat → Nat) (v : Nat) : Nat → Nat
  | 0 => v
  | m + 1 => fa w g v m * 2 ^ w + g m
theorem fa_div {w : Nat} {g : Nat → Nat} {v m : Nat} (h : ∀ j, j < m → g j < 2 ^ w) : fa w g v m / 2 ^ (w * m) = v := by
  induction m with
  | zero =>
    rw [Nat.mul_zero, Nat.pow_zero, Nat.div_one]
    rfl
  | succ m ih =>
    rw [fa, show w * (m + 1) = w + w * m by rw [Nat.mul_add, Nat.mul_one, Nat.add_comm], Nat.pow_add, ← Nat.div_div_eq_div_mul, Nat.mul_comm (fa w g v m), Nat.mul_add_div (Nat.two_pow_pos w), Nat.div_eq_of_lt (h m (by omega)), Nat.add_zero]
    exact ih (fun j hj => h j (by omega))
theorem fa_dig {w : Nat} {g : Nat → Nat} {v m : Nat} (h : ∀ j, j < m → g j < 2 ^ w) {j : Nat} (hj : j < m) : fa w g v m / 2 ^ (w * (m - 1 - j)) % 2 ^ w = g j := by
  induction m with
  | zero => omega
  | succ m ih =>
    have hm := h m (by omega)
    by_cases e : j = m
    · subst e
      rw [fa, show j + 1 - 1 - j = 0 by omega, Nat.mul_zero, Nat.pow_zero, Nat.div_one, Nat.add_comm, Nat.add_mul_mod_self_right, Nat.mod_eq_of_lt hm]
    · rw [fa, show m + 1 - 1 - j = (m - 1 - j) + 1 by omega, show w * (m - 1 - j + 1) = w + w * (m - 1 - j) by rw [Nat.mul_add, Nat.mul_one, Nat.add_comm], Nat.pow_add, ← Nat.div_div_eq_div_mul, Nat.mul_comm (fa w g v m), Nat.mul_add_div (Nat.two_pow_pos w), Nat.div_eq_of_lt hm, Nat.add_zero]
      exact ih (fun j hj => h j (by omega)) (by omega)
theorem fa_lt {w : Nat} {g : Nat → Nat} {v m V : Nat} (h : ∀ j, j < m → g j < 2 ^ w) (hv : v < 2 ^ V) : fa w g v m < 2 ^ (V + w * m) := by
  have h1 := fa_div (v := v) h
  by_cases c : fa w g v m < 2 ^ (V + w * m)
  · exact c
  · exfalso
    have h2 : 2 ^ V ≤ fa w g v m / 2 ^ (w * m) := by
      rw [Nat.le_div_iff_mul_le (Nat.two_pow_pos _), ← Nat.pow_add]
      omega
    omega
def dnF (M t : Nat) : Nat := FD M (40 + 3 * t) 3
def rgF (M r : Nat) : Nat := FD M (2 * (19 - r)) 2
def mmF (M p : Nat) : Nat := FD M (2 * (3 - p)) 2
def v0F (M : Nat) : Nat := fa 3 (dnF M) 0 4
def v1F (M : Nat) : Nat := fa 2 (rgF M) (v0F M) 16
def pF (M : Nat) : Nat := fa 2 (mmF M) (v1F M) 4
theorem dn_lt (M j : Nat) : dnF M j < 2 ^ 3 := fd_lt _ _ 3
theorem rg_lt (M j : Nat) : rgF M j < 2 ^ 2 := fd_lt _ _ 2
theorem mm_lt (M j : Nat) : mmF M j < 2 ^ 2 := fd_lt _ _ 2
theorem v0_lt (M : Nat) : v0F M < 2 ^ 12 := fa_lt (V := 0) (fun j _ => dn_lt M j) (by decide)
theorem v1_lt (M : Nat) : v1F M < 2 ^ 44 := fa_lt (V := 12) (fun j _ => rg_lt M j) (v0_lt M)
theorem pF_lt (M : Nat) : pF M < 2 ^ 52 := fa_lt (V := 44) (fun j _ => mm_lt M j) (v1_lt M)
theorem pF_mm (M : Nat) {p : Nat} (hp : p < 4) : pF M / 2 ^ (6 - 2 * p) % 2 ^ 2 = mmF M p := by
  rw [← fa_dig (w := 2) (g := mmF M) (v := v1F M) (m := 4) (fun j _ => mm_lt M j) hp, show 2 * (4 - 1 - p) = 6 - 2 * p by omega]
  rfl
theorem pF_v1 (M : Nat) : pF M / 2 ^ 8 = v1F M := fa_div (w := 2) (m := 4) (fun j _ => mm_lt M j)
theorem v1_v0 (M : Nat) : v1F M / 2 ^ 32 = v0F M := fa_div (w := 2) (m := 16) (fun j _ => rg_lt M j)
theorem pF_rg (M : Nat) {r : Nat} (hr : r < 16) : pF M / 2 ^ (38 - 2 * r) % 2 ^ 2 = rgF M r := by
  rw [← fa_dig (w := 2) (g := rgF M) (v := v0F M) (m := 16) (fun j _ => rg_lt M j) hr, show 38 - 2 * r = 8 + 2 * (16 - 1 - r) by omega, Nat.pow_add, ← Nat.div_div_eq_div_mul, pF_v1]
  rfl
theorem pF_dn (M : Nat) {t : Nat} (ht : t < 4) : pF M / 2 ^ (49 - 3 * t) % 2 ^ 3 = dnF M t := by
  rw [← fa_dig (w := 3) (g := dnF M) (v := 0) (m := 4) (fun j _ => dn_lt M j) ht, show 49 - 3 * t = 8 + (32 + 3 * (4 - 1 - t)) by omega, Nat.pow_add, ← Nat.div_div_eq_div_mul, pF_v1, Nat.pow_add, ← Nat.div_div_eq_div_mul, v1_v0]
  rfl
/-- a buffer as the reference packs it -/
def ent (E e : Nat) : Nat := if e < sz5 E then en5 E e - 16 else 0
def blk (E : Nat) : Nat := ((sz5 E * 16 + ent E 0) * 16 + ent E 1) * 16 + ent E 2
def bkF (B b : Nat) : Nat := blk (FD B (15 * b) 15)
def pB (B : Nat) : Nat := fa 14 (bkF B) 0 4
theorem sz_le (E : Nat) : sz5 E ≤ 3 := by
  rcases sz_c E with ⟨_, e⟩ | ⟨_, _, e⟩ | ⟨_, _, e⟩ | ⟨_, e⟩ <;> omega
theorem ent_lt (E e : Nat) : ent E e < 16 := by
  have := en5_lt E e
  simp only [ent]
  split <;> omega
theorem blk_lt (E : Nat) : blk E < 2 ^ 14 := by
  have h0 := ent_lt E 0
  have h1 := ent_lt E 1
  have h2 := ent_lt E 2
  have h3 := sz_le E
  simp only [blk]
  omega
theorem pB_lt (B : Nat) : pB B < 2 ^ 56 := fa_lt (V := 0) (fun j _ => blk_lt _) (by decide)
theorem pB_bk (B : Nat) {b : Nat} (hb : b < 4) : pB B / 2 ^ (42 - 14 * b) % 2 ^ 14 = bkF B b := by
  rw [← fa_dig (w := 14) (g := bkF B) (v := 0) (m := 4) (fun j _ => blk_lt _) hb, show 14 * (4 - 1 - b) = 42 - 14 * b by omega]
  rfl
/-- an entry that is there is 16 or more -/
theorem v5_en {E e : Nat} (h : V5 E) (he : e < sz5 E) : 16 ≤ en5 E e ∧ e < 3 := by
  obtain ⟨h0, h1, h2, h3⟩ := h
  have hz := sz_le E
  have hc := sz_c E
  rcases (show e = 0 ∨ e = 1 ∨ e = 2 by omega) with rfl | rfl | rfl
  · exact ⟨h1 (by omega), by omega⟩
  · exact ⟨h2 (by omega), by omega⟩
  · exact ⟨h3 (by omega), by omega⟩
theorem v5_no {E e : Nat} (h : V5 E) (he : ¬ e < sz5 E) (h3 : e < 3) : en5 E e = 0 := by
  have hc := sz_c E
  have h0 := h.1
  simp only [en5]
  rcases (show e = 0 ∨ e = 1 ∨ e = 2 by omega) with rfl | rfl | rfl <;> omega
theorem blk_inj {E E' : Nat} (h : V5 E) (h' : V5 E') (hb : blk E = blk E') : E = E' := by
  have a0 := ent_lt E 0
  have a1 := ent_lt E 1
  have a2 := ent_lt E 2
  have b0 := ent_lt E' 0
  have b1 := ent_lt E' 1
  have b2 := ent_lt E' 2
  simp only [blk] at hb
  have es : sz5 E = sz5 E' := by omega
  have e0 : ent E 0 = ent E' 0 := by omega
  have e1 : ent E 1 = ent E' 1 := by omega
  have e2 : ent E 2 = ent E' 2 := by omega
  have key : ∀ e, e < 3 → ent E e = ent E' e → en5 E e = en5 E' e := by
    intro e he hh
    simp only [ent] at hh
    by_cases c : e < sz5 E
    · have c' : e < sz5 E' := by omega
      rw [if_pos c, if_pos c'] at hh
      have := (v5_en h c).1
      have := (v5_en h' c').1
      omega
    · rw [v5_no h c he, v5_no h' (by omega) he]
  have k0 := key 0 (by omega) e0
  have k1 := key 1 (by omega) e1
  have k2 := key 2 (by omega) e2
  have l1 := h.1
  have l2 := h'.1
  simp only [en5] at k0 k1 k2
  omega
theorem fields_ext {x y N : Nat} (hx : x < 2 ^ N) (hy : y < 2 ^ N) (h : ∀ i, i < N → ∃ sh w, sh ≤ i ∧ i < sh + w ∧ FD x sh w = FD y sh w) : x = y := by
  apply Nat.eq_of_testBit_eq
  intro i
  by_cases c : i < N
  · obtain ⟨sh, w, h1, h2, h3⟩ := h i c
    have a := fd_bit x sh w (i - sh)
    have b := fd_bit y sh w (i - sh)
    rw [h3, b] at a
    simp only [show i - sh < w by omega, decide_true, Bool.true_and, show sh + (i - sh) = i by omega] at a
    exact a.symm
  · rw [Nat.testBit_lt_two_pow (Nat.lt_of_lt_of_le hx (Nat.pow_le_pow_right (by decide) (by omega))), Nat.testBit_lt_two_pow (Nat.lt_of_lt_of_le hy (Nat.pow_le_pow_right (by decide) (by omega)))]
theorem pF_inj {M M' : Nat} (h : M < 2 ^ 52) (h' : M' < 2 ^ 52) (e : pF M = pF M') : M = M' := by
  refine fields_ext h h' (fun i hi => ?_)
  by_cases c : i < 8
  · refine ⟨2 * (3 - (3 - i / 2)), 2, by omega, by omega, ?_⟩
    have a := pF_mm M (p := 3 - i / 2) (by omega)
    rw [e, pF_mm M' (by omega)] at a
    exact a.symm
  · by_cases c2 : i < 40
    · refine ⟨2 * (19 - (19 - i / 2)), 2, by omega, by omega, ?_⟩
      have a := pF_rg M (r := 19 - i / 2) (by omega)
      rw [e, pF_rg M' (by omega)] at a
      exact a.symm
    · refine ⟨40 + 3 * ((i - 40) / 3), 3, by omega, by omega, ?_⟩
      have a := pF_dn M (t := (i - 40) / 3) (by omega)
      rw [e, pF_dn M' (by omega)] at a
      exact a.symm
theorem pB_inj {B B' : Nat} (h : B < 2 ^ 60) (h' : B' < 2 ^ 60) (hv : ∀ b, b < 4 → V5 (FD B (15 * b) 15)) (hv' : ∀ b, b < 4 → V5 (FD B' (15 * b) 15)) (e : pB B = pB B') : B = B' := by
  refine fields_ext h h' (fun i hi => ⟨15 * (i / 15), 15, by omega, by omega, ?_⟩)
  have a := pB_bk B (b := i / 15) (by omega)
  rw [e, pB_bk B' (by omega)] at a
  exact (blk_inj (hv' _ (by omega)) (hv _ (by omega)) a).symm
/-- the reference's arrays hold the state -/
def RA (hdone hregister hmemory hsize hplace hvalue : Nat → Int32) (M B : Nat) : Prop :=
  (∀ t, t < 4 → hdone t = nI (dnF M t)) ∧ (∀ r, r < 16 → hregister r = nI (rgF M r)) ∧ (∀ p, p < 4 → hmemory p = nI (mmF M p)) ∧
  (∀ b, b < 4 → hsize b = nI (sz5 (FD B (15 * b) 15))) ∧ ∀ b, b < 4 → ∀ e, e < sz5 (FD B (15 * b) 15) → hplace (3 * b + e) = nI (en5 (FD B (15 * b) 15) e / 4 - 4) ∧ hvalue (3 * b + e) = nI (en5 (FD B (15 * b) 15) e % 4)
theorem shl_or {v w d : Nat} {W : Int32} (hW : W = nI w) (hw : w < 64) (hd : d < 2 ^ w) (hd2 : d < 2 ^ 31) (h : v * 2 ^ w + d < 2 ^ 63) : (lN v <<< (W.toInt64 &&& 63)) ||| (nI d).toInt64 = lN (v * 2 ^ w + d) := by
  rw [hW, wb_shl v hw, nI_l hd2, g_or rfl hd (by omega)]
theorem s_packFront {Post : Int64 → Int32 → (Nat → Int32) → (Nat → Int32) → (Nat → Int32) → Prop} {th : Int32} {hdone hregister hmemory : Nat → Int32} {M : Nat}
    (h1 : ∀ t, t < 4 → hdone t = nI (dnF M t)) (h2 : ∀ r, r < 16 → hregister r = nI (rgF M r)) (h3 : ∀ p, p < 4 → hmemory p = nI (mmF M p)) (h : Post (lN (pF M)) th hdone hregister hmemory) : wp_MO_packFront Post th hdone hregister hmemory := by
  have k3 : ∀ u t, u + t = 4 → wp_MO_packFront_55 Post (u + 1) th hdone hregister hmemory (lN (fa 2 (mmF M) (v1F M) t)) (nI t) := by
    intro u
    induction u with
    | zero =>
      intro t ht
      rw [wp_MO_packFront_55]
      refine pk_le 4 t (fun _ => ?_) (fun c => by omega)
      rw [show t = 4 by omega]
      exact h
    | succ u ih =>
      intro t ht
      rw [wp_MO_packFront_55]
      refine pk_le 4 t (fun c => by omega) (fun c => ⟨vp_in_nI c (by decide), fun x5 e5 x6 e6 => ?_⟩)
      have hb := fa_lt (V := 44) (m := t + 1) (fun j _ => mm_lt M j) (v1_lt M)
      have hb2 : 2 ^ (44 + 2 * (t + 1)) ≤ 2 ^ 52 := Nat.pow_le_pow_right (by decide) (by omega)
      rw [fa] at hb
      have hm := mm_lt M t
      rw [nI_clamp (by omega), h3 t c, shl_or (W := 2) (w := 2) rfl (by omega) hm (by omega) (by omega)] at e5
      rw [nI_1] at e6
      rw [e5, e6]
      exact ih (t + 1) (by omega)
  have k2 : ∀ u t, u + t = 16 → wp_MO_packFront_29 Post (u + 1) th hdone hregister hmemory (lN (fa 2 (rgF M) (v0F M) t)) (nI t) := by
    intro u
    induction u with
    | zero =>
      intro t ht
      rw [wp_MO_packFront_29]
      refine pk_le 16 t (fun _ => ⟨5, ?_⟩) (fun c => by omega)
      rw [show t = 16 by omega]
      exact k3 4 0 rfl
    | succ u ih =>
      intro t ht
      rw [wp_MO_packFront_29]
      refine pk_le 16 t (fun c => by omega) (fun c => ⟨vp_in_nI c (by decide), fun x5 e5 x6 e6 => ?_⟩)
      have hb := fa_lt (V := 12) (m := t + 1) (fun j _ => rg_lt M j) (v0_lt M)
      have hb2 : 2 ^ (12 + 2 * (t + 1)) ≤ 2 ^ 52 := Nat.pow_le_pow_right (by decide) (by omega)
      rw [fa] at hb
      have hm := rg_lt M t
      rw [nI_clamp (by omega), h2 t c, shl_or (W := 2) (w := 2) rfl (by omega) hm (by omega) (by omega)] at e5
      rw [nI_1] at e6
      rw [e5, e6]
      exact ih (t + 1) (by omega)
  have k1 : ∀ u t, u + t = 4 → wp_MO_packFront_4 Post (u + 1) th hdone hregister hmemory (lN (fa 3 (dnF M) 0 t)) (nI t) := by
    intro u
    induction u with
    | zero =>
      intro t ht
      rw [wp_MO_packFront_4]
      refine pk_le 4 t (fun _ => ⟨17, ?_⟩) (fun c => by omega)
      rw [show t = 4 by omega]
      exact k2 16 0 rfl
    | succ u ih =>
      intro t ht
      rw [wp_MO_packFront_4]
      refine pk_le 4 t (fun c => by omega) (fun c => ⟨vp_in_nI c (by decide), fun x5 e5 x6 e6 => ?_⟩)
      have hb := fa_lt (V := 0) (v := 0) (m := t + 1) (fun j _ => dn_lt M j) (by decide)
      have hb2 : 2 ^ (0 + 3 * (t + 1)) ≤ 2 ^ 52 := Nat.pow_le_pow_right (by decide) (by omega)
      rw [fa] at hb
      have hm := dn_lt M t
      rw [nI_clamp (by omega), h1 t c, shl_or (W := 3) (w := 3) rfl (by omega) hm (by omega) (by omega)] at e5
      rw [nI_1] at e6
      rw [e5, e6]
      exact ih (t + 1) (by omega)
  rw [wp_MO_packFront]
  exact ⟨5, k1 4 0 rfl⟩
/-- the block's digits -/
def bks (E : Nat) : Nat → Nat
  | 0 => sz5 E
  | e + 1 => bks E e * 16 + ent E e
theorem bks_3 (E : Nat) : bks E 3 = blk E := rfl
theorem bks_lt (E e : Nat) : bks E e < 2 ^ (2 + 4 * e) := by
  induction e with
  | zero =>
    have := sz_le E
    simp only [bks]
    omega
  | succ e ih =>
    have := ent_lt E e
    have hp : 2 ^ (2 + 4 * (e + 1)) = 2 ^ (2 + 4 * e) * 16 := by
      rw [show 2 + 4 * (e + 1) = (2 + 4 * e) + 4 by omega, Nat.pow_add]
    simp only [bks]
    omega
theorem s_packBehind {Post : Int64 → Int32 → (Nat → Int32) → (Nat → Int32) → (Nat → Int32) → Prop} {th : Int32} {hsize hplace hvalue : Nat → Int32} {B : Nat} (hV : ∀ b, b < 4 → V5 (FD B (15 * b) 15))
    (h1 : ∀ b, b < 4 → hsize b = nI (sz5 (FD B (15 * b) 15))) (h2 : ∀ b, b < 4 → ∀ e, e < sz5 (FD B (15 * b) 15) → hplace (3 * b + e) = nI (en5 (FD B (15 * b) 15) e / 4 - 4) ∧ hvalue (3 * b + e) = nI (en5 (FD B (15 * b) 15) e % 4)) (h : Post (lN (pB B)) th hsize hplace hvalue) : wp_MO_packBehind Post th hsize hplace hvalue := by
  have k1 : ∀ u b, u + b = 4 → wp_MO_packBehind_4 Post (u + 1) th hsize hplace hvalue (lN (fa 14 (bkF B) 0 b)) (nI b) := by
    intro u
    induction u with
    | zero =>
      intro b hb
      rw [wp_MO_packBehind_4]
      refine pk_le 4 b (fun _ => ?_) (fun c => by omega)
      rw [show b = 4 by omega]
      exact h
    | succ u ih =>
      intro b hub
      rw [wp_MO_packBehind_4]
      refine pk_le 4 b (fun c => by omega) (fun c => ⟨vp_in_nI c (by decide), fun x1 e1 => ⟨4, ?_⟩⟩)
      have hb := fa_lt (w := 14) (g := bkF B) (V := 0) (v := 0) (m := b) (fun j _ => blk_lt _) (by decide)
      have hb2 : 2 ^ (0 + 14 * b) ≤ 2 ^ 42 := Nat.pow_le_pow_right (by decide) (by omega)
      have ih2 := ih (b + 1) (by omega)
      have efa : fa 14 (bkF B) 0 (b + 1) = fa 14 (bkF B) 0 b * 2 ^ 14 + blk (FD B (15 * b) 15) := rfl
      generalize fa 14 (bkF B) 0 b = v at hb efa e1
      have hsz := h1 b c
      have hen := h2 b c
      have hVb := hV b c
      generalize FD B (15 * b) 15 = E at hsz hen hVb efa
      have hE3 := sz_le E
      rw [nI_clamp (by omega), hsz, shl_or (W := 2) (w := 2) rfl (by omega) (by omega) (by omega) (by omega)] at e1
      have k2 : ∀ z e, z + e = 3 → wp_MO_packBehind_24 Post (fun (th : Int32) (hsize : Nat → Int32) (hplace : Nat → Int32) (hvalue : Nat → Int32) (L1 : Int64) (L3 : Int32) => wp_MO_packBehind_4 Post (u + 1) th hsize hplace hvalue L1 L3) (z + 1) th hsize hplace hvalue (lN (v * 2 ^ (2 + 4 * e) + bks E e)) (nI b) (nI e) := by
        intro z
        induction z with
        | zero =>
          intro e he
          rw [wp_MO_packBehind_24]
          refine pk_le 3 e (fun _ x2 e2 => ?_) (fun c => by omega)
          rw [nI_1] at e2
          rw [e2, show e = 3 by omega, bks_3, show v * 2 ^ (2 + 4 * 3) + blk E = fa 14 (bkF B) 0 (b + 1) by rw [efa]]
          exact ih2
        | succ z ihz =>
          intro e he
          rw [wp_MO_packBehind_24]
          refine pk_le 3 e (fun c => by omega) (fun c3 => ⟨vp_in_nI c (by decide), ?_⟩)
          have hbk := bks_lt E e
          have hbk2 : 2 ^ (2 + 4 * e) ≤ 2 ^ 10 := Nat.pow_le_pow_right (by decide) (by omega)
          have hvb : v * 2 ^ (2 + 4 * e) ≤ 2 ^ 42 * 2 ^ 10 := Nat.mul_le_mul (by omega) hbk2
          have hent := ent_lt E e
          have fin : ∀ y : Int32, y = nI (ent E e) → wp_MO_packBehind_73 Post (fun (th : Int32) (hsize : Nat → Int32) (hplace : Nat → Int32) (hvalue : Nat → Int32) (L1 : Int64) (L3 : Int32) => wp_MO_packBehind_4 Post (u + 1) th hsize hplace hvalue L1 L3) (fun (th : Int32) (hsize : Nat → Int32) (hplace : Nat → Int32) (hvalue : Nat → Int32) (L1 : Int64) (L3 : Int32) (L4 : Int32) => wp_MO_packBehind_24 Post (fun (th : Int32) (hsize : Nat → Int32) (hplace : Nat → Int32) (hvalue : Nat → Int32) (L1 : Int64) (L3 : Int32) => wp_MO_packBehind_4 Post (u + 1) th hsize hplace hvalue L1 L3) (z + 1) th hsize hplace hvalue L1 L3 L4) th hsize hplace hvalue (nI b) (nI e) y (lN (v * 2 ^ (2 + 4 * e) + bks E e) <<< ((4 : Int32).toInt64 &&& 63)) := by
            intro y hy
            rw [wp_MO_packBehind_73]
            intro x3 e3 x4 e4
            rw [hy, shl_or (W := 4) (w := 4) rfl (by omega) hent (by omega) (by omega)] at e3
            rw [nI_1] at e4
            have e5 : (v * 2 ^ (2 + 4 * e) + bks E e) * 2 ^ 4 + ent E e = v * 2 ^ (2 + 4 * (e + 1)) + bks E (e + 1) := by
              rw [bks, Nat.add_mul, Nat.mul_assoc, ← Nat.pow_add, show 2 + 4 * e + 4 = 2 + 4 * (e + 1) by omega, Nat.add_assoc]
            rw [e3, e4, e5]
            exact ihz (e + 1) (by omega)
          rw [nI_clamp (by omega), hsz]
          refine pk_le (sz5 E) e (fun c4 => ?_) (fun c4 => ?_)
          · exact fin 0 (by rw [ent, if_neg (by omega)]; rfl)
          · rw [show (3 : Int32) = nI 3 from rfl, pk_mul, nI_add, nI_clamp (by omega), (hen e c4).1, (hen e c4).2]
            refine ⟨vp_in_nI (by omega) (by decide), vp_in_nI (by omega) (by decide), ?_⟩
            have h16 := (v5_en hVb c4).1
            have h32 := en5_lt E e
            refine fin _ ?_
            rw [show (4 : Int32) = nI 4 from rfl, pk_mul, nI_add, ent, if_pos c4]
            congr 1
            omega
      rw [e1]
      exact k2 3 0 rfl
  rw [wp_MO_packBehind]
  exact ⟨5, k1 4 0 rfl⟩
