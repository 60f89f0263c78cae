/-! the reference unpacks -/
theorem jl_sar {x s k : Nat} (hx : x < 2 ^ 62) (hs : s < 64) (hk : k ≤ 32) {m : Int32} (hm : m.toBitVec.toNat = 2 ^ k - 1) : ((lN x >>> ((nI s).toInt64 &&& 63)).toInt32) &&& m = nI (x / 2 ^ s % 2 ^ k) := by
  rw [wb_c s hs, pf_shr (d := s) (by rw [wb_tb, wb_sm s hs, BitVec.toNat_ofNat, Nat.mod_eq_of_lt (by omega)]) hx, lN_i, nI_mask hk hm]
theorem blk_e {E e : Nat} (he : e < 3) : blk E / 2 ^ (8 - 4 * e) % 2 ^ 4 = ent E e := by
  have h0 := ent_lt E 0
  have h1 := ent_lt E 1
  have h2 := ent_lt E 2
  simp only [blk]
  rcases (show e = 0 ∨ e = 1 ∨ e = 2 by omega) with rfl | rfl | rfl <;> omega
theorem blk_s (E : Nat) : blk E / 2 ^ 12 = sz5 E := by
  have h0 := ent_lt E 0
  have h1 := ent_lt E 1
  have h2 := ent_lt E 2
  simp only [blk]
  omega
/-- the buffers below b are unpacked -/
def RB (b : Nat) (hsize hplace hvalue : Nat → Int32) (B : Nat) : Prop :=
  (∀ c, c < b → hsize c = nI (sz5 (FD B (15 * c) 15))) ∧ ∀ c, c < b → ∀ e, e < sz5 (FD B (15 * c) 15) → hplace (3 * c + e) = nI (en5 (FD B (15 * c) 15) e / 4 - 4) ∧ hvalue (3 * c + e) = nI (en5 (FD B (15 * c) 15) e % 4)
theorem s_unpack {Post : Int32 → (Nat → Int32) → (Nat → Int32) → (Nat → Int32) → (Nat → Int32) → (Nat → Int32) → (Nat → Int32) → Prop} {th : Int32} {hdone hregister hmemory hsize hplace hvalue : Nat → Int32} {M B : Nat} (hV : ∀ b, b < 4 → V5 (FD B (15 * b) 15))
    (h : ∀ d r m s p v, RA d r m s p v M B → Post th d r m s p v) : wp_MO_unpack Post th hdone hregister hmemory hsize hplace hvalue (lN (pF M)) (lN (pB B)) := by
  have hpF := pF_lt M
  have hpB := pB_lt B
  have k4 : ∀ u b hdone hregister hmemory hsize hplace hvalue, u + b = 4 → (∀ t, t < 4 → hdone t = nI (dnF M t)) → (∀ t, t < 16 → hregister t = nI (rgF M t)) → (∀ t, t < 4 → hmemory t = nI (mmF M t)) → RB b hsize hplace hvalue B →
      wp_MO_unpack_107 Post (u + 1) th hdone hregister hmemory hsize hplace hvalue (lN (pB B)) (nI b) := by
    intro u
    induction u with
    | zero =>
      intro b hdone hregister hmemory hsize hplace hvalue hub h1 h2 h3 h4
      rw [wp_MO_unpack_107]
      refine pk_le 4 b (fun _ => ?_) (fun c => by omega)
      rw [show b = 4 by omega] at h4
      exact h _ _ _ _ _ _ ⟨h1, h2, h3, h4.1, h4.2⟩
    | succ u ih =>
      intro b hdone hregister hmemory hsize hplace hvalue hub h1 h2 h3 h4
      rw [wp_MO_unpack_107]
      refine pk_le 4 b (fun c => by omega) (fun c x7 e7 => ?_)
      have hbk := blk_lt (FD B (15 * b) 15)
      rw [show (14 : Int32) = nI 14 from rfl, show (42 : Int32) = nI 42 from rfl, pk_mul, pk_sub (by omega), jl_sar (k := 14) (by omega) (by omega) (by decide) (by decide), pB_bk B c, bkF] at e7
      have hVb := hV b c
      refine ⟨vp_in_nI c (by decide), fun f8 e8 => ⟨4, ?_⟩⟩
      rw [nI_clamp (by omega), e7, pk_shrN (by omega) _ 12 (by decide), blk_s] at e8
      have ins : ∀ e : Nat, e < 3 → ∀ (hp hv : Nat → Int32) (Q : (Nat → Int32) → (Nat → Int32) → Prop), (∀ hp' hv', (∀ j, j ≠ 3 * b + e → hp' j = hp j ∧ hv' j = hv j) → (e < sz5 (FD B (15 * b) 15) → hp' (3 * b + e) = nI (en5 (FD B (15 * b) 15) e / 4 - 4) ∧ hv' (3 * b + e) = nI (en5 (FD B (15 * b) 15) e % 4)) → Q hp' hv') →
          ∀ x10 : Int32, x10 = nI (ent (FD B (15 * b) 15) e) → vp_in ((3 * nI b) + nI e) 12 ∧ ∀ f11 : Nat → Int32, f11 = upd hp ((3 * nI b) + nI e).toNatClampNeg (x10 / 4) → vp_in ((3 * nI b) + nI e) 12 ∧ ∀ f12 : Nat → Int32, f12 = upd hv ((3 * nI b) + nI e).toNatClampNeg (x10 - x10 / 4 * 4) → Q f11 f12 := by
        intro e he hp hv Q hQ x10 e10
        have hent := ent_lt (FD B (15 * b) 15) e
        rw [show (3 : Int32) = nI 3 from rfl, pk_mul, nI_add, nI_clamp (by omega)]
        refine ⟨vp_in_nI (by omega) (by decide), fun f11 e11 => ⟨vp_in_nI (by omega) (by decide), fun f12 e12 => ?_⟩⟩
        rw [e10, show (4 : Int32) = nI 4 from rfl, pk_div (by omega) (by decide) (by decide)] at e11
        rw [e10, show (4 : Int32) = nI 4 from rfl, pk_rem (by omega) (by decide) (by decide)] at e12
        refine hQ f11 f12 (fun j hj => ?_) (fun hs => ?_)
        · rw [e11, e12, pk_un hj, pk_un hj]
          exact ⟨rfl, rfl⟩
        · have h16 := (v5_en hVb hs).1
          rw [e11, e12, pk_us, pk_us, ent, if_pos hs]
          constructor
          · congr 1
            omega
          · congr 1
            omega
      have sh : ∀ e : Nat, e < 3 → ∀ L : Int32, L = nI e → (nI (blk (FD B (15 * b) 15)) >>> ((8 - (4 * L)) &&& 31)) &&& 15 = nI (ent (FD B (15 * b) 15) e) := by
        intro e he L hL
        rw [hL, pk_shrN (by omega) _ (8 - 4 * e) (by rcases (show e = 0 ∨ e = 1 ∨ e = 2 by omega) with rfl | rfl | rfl <;> decide), nI_mask (k := 4) (by decide) (by decide), blk_e he]
      rw [wp_MO_unpack_145]
      refine ⟨fun c => absurd c (by decide), fun _ x10 e10 => ?_⟩
      rw [e7, sh 0 (by omega) 0 rfl] at e10
      refine ins 0 (by omega) hplace hvalue _ (fun p0 v0 k0 l0 => ?_) x10 e10
      intro x13 e13
      rw [show x13 = nI 1 from e13, wp_MO_unpack_145]
      refine ⟨fun c => absurd c (by decide), fun _ x10 e10 => ?_⟩
      rw [e7, sh 1 (by omega) (nI 1) rfl] at e10
      refine ins 1 (by omega) p0 v0 _ (fun p1 v1 k1 l1 => ?_) x10 e10
      intro x13 e13
      rw [show x13 = nI 2 from e13, wp_MO_unpack_145]
      refine ⟨fun c => absurd c (by decide), fun _ x10 e10 => ?_⟩
      rw [e7, sh 2 (by omega) (nI 2) rfl] at e10
      refine ins 2 (by omega) p1 v1 _ (fun p2 v2 k2 l2 => ?_) x10 e10
      intro x13 e13
      rw [show x13 = nI 3 from e13, wp_MO_unpack_145]
      refine ⟨fun _ x9 e9 => ?_, fun c => absurd (by decide) c⟩
      rw [nI_1] at e9
      rw [e9]
      refine ih (b + 1) _ _ _ f8 p2 v2 (by omega) h1 h2 h3 ⟨fun c5 hc5 => ?_, fun c5 hc5 e he => ?_⟩
      · rw [e8]
        by_cases e : c5 = b
        · subst e
          rw [pk_us]
        · rw [pk_un e]
          exact h4.1 c5 (by omega)
      · have hz := sz_le (FD B (15 * c5) 15)
        by_cases ec : c5 = b
        · subst ec
          rcases (show e = 0 ∨ e = 1 ∨ e = 2 by omega) with rfl | rfl | rfl
          · rw [(k2 _ (by omega)).1, (k2 _ (by omega)).2, (k1 _ (by omega)).1, (k1 _ (by omega)).2]
            exact l0 he
          · rw [(k2 _ (by omega)).1, (k2 _ (by omega)).2]
            exact l1 he
          · exact l2 he
        · rw [(k2 _ (by omega)).1, (k2 _ (by omega)).2, (k1 _ (by omega)).1, (k1 _ (by omega)).2, (k0 _ (by omega)).1, (k0 _ (by omega)).2]
          exact h4.2 c5 (by omega) e he
  have k3 : ∀ u t hdone hregister hmemory, u + t = 4 → (∀ t, t < 4 → hdone t = nI (dnF M t)) → (∀ t, t < 16 → hregister t = nI (rgF M t)) → (∀ j, j < t → hmemory j = nI (mmF M j)) →
      wp_MO_unpack_73 Post (u + 1) th hdone hregister hmemory hsize hplace hvalue (lN (pF M)) (lN (pB B)) (nI t) := by
    intro u
    induction u with
    | zero =>
      intro t hdone hregister hmemory hub h1 h2 h3
      rw [wp_MO_unpack_73]
      refine pk_le 4 t (fun _ => ⟨5, ?_⟩) (fun c => by omega)
      rw [show t = 4 by omega] at h3
      exact k4 4 0 _ _ _ _ _ _ rfl h1 h2 h3 ⟨fun c hc => by omega, fun c hc => by omega⟩
    | succ u ih =>
      intro t hdone hregister hmemory hub h1 h2 h3
      rw [wp_MO_unpack_73]
      refine pk_le 4 t (fun c => by omega) (fun c => ⟨vp_in_nI c (by decide), fun f5 e5 x6 e6 => ?_⟩)
      rw [nI_clamp (by omega), show (2 : Int32) = nI 2 from rfl, show (6 : Int32) = nI 6 from rfl, pk_mul, pk_sub (by omega), jl_sar (k := 2) (by omega) (by omega) (by decide) (by decide), pF_mm M c] at e5
      rw [nI_1] at e6
      rw [e6]
      refine ih (t + 1) _ _ f5 (by omega) h1 h2 (fun j hj => ?_)
      rw [e5]
      by_cases e : j = t
      · subst e
        rw [pk_us]
      · rw [pk_un e]
        exact h3 j (by omega)
  have k2 : ∀ u t hdone hregister, u + t = 16 → (∀ t, t < 4 → hdone t = nI (dnF M t)) → (∀ j, j < t → hregister j = nI (rgF M j)) →
      wp_MO_unpack_38 Post (u + 1) th hdone hregister hmemory hsize hplace hvalue (lN (pF M)) (lN (pB B)) (nI t) := by
    intro u
    induction u with
    | zero =>
      intro t hdone hregister hub h1 h2
      rw [wp_MO_unpack_38]
      refine pk_le 16 t (fun _ => ⟨5, ?_⟩) (fun c => by omega)
      rw [show t = 16 by omega] at h2
      exact k3 4 0 _ _ _ rfl h1 h2 (fun j hj => by omega)
    | succ u ih =>
      intro t hdone hregister hub h1 h2
      rw [wp_MO_unpack_38]
      refine pk_le 16 t (fun c => by omega) (fun c => ⟨vp_in_nI c (by decide), fun f5 e5 x6 e6 => ?_⟩)
      rw [nI_clamp (by omega), show (2 : Int32) = nI 2 from rfl, show (38 : Int32) = nI 38 from rfl, pk_mul, pk_sub (by omega), jl_sar (k := 2) (by omega) (by omega) (by decide) (by decide), pF_rg M c] at e5
      rw [nI_1] at e6
      rw [e6]
      refine ih (t + 1) _ f5 (by omega) h1 (fun j hj => ?_)
      rw [e5]
      by_cases e : j = t
      · subst e
        rw [pk_us]
      · rw [pk_un e]
        exact h2 j (by omega)
  have k1 : ∀ u t hdone, u + t = 4 → (∀ j, j < t → hdone j = nI (dnF M j)) →
      wp_MO_unpack_3 Post (u + 1) th hdone hregister hmemory hsize hplace hvalue (lN (pF M)) (lN (pB B)) (nI t) := by
    intro u
    induction u with
    | zero =>
      intro t hdone hub h1
      rw [wp_MO_unpack_3]
      refine pk_le 4 t (fun _ => ⟨17, ?_⟩) (fun c => by omega)
      rw [show t = 4 by omega] at h1
      exact k2 16 0 _ _ rfl h1 (fun j hj => by omega)
    | succ u ih =>
      intro t hdone hub h1
      rw [wp_MO_unpack_3]
      refine pk_le 4 t (fun c => by omega) (fun c => ⟨vp_in_nI c (by decide), fun f5 e5 x6 e6 => ?_⟩)
      rw [nI_clamp (by omega), show (3 : Int32) = nI 3 from rfl, show (49 : Int32) = nI 49 from rfl, pk_mul, pk_sub (by omega), jl_sar (k := 3) (by omega) (by omega) (by decide) (by decide), pF_dn M c] at e5
      rw [nI_1] at e6
      rw [e6]
      refine ih (t + 1) f5 (by omega) (fun j hj => ?_)
      rw [e5]
      by_cases e : j = t
      · subst e
        rw [pk_us]
      · rw [pk_un e]
        exact h1 j (by omega)
  rw [wp_MO_unpack]
  exact ⟨5, k1 4 0 _ rfl (fun j hj => by omega)⟩
