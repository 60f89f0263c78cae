/-! the reference's step -/
def PGr (hactions hwhat hwhere hnumber : Nat → Int32) (na co : Nat → Nat) : Prop :=
  (∀ t, t < 4 → hactions t = nI (na t)) ∧ ∀ j, j < 20 → hwhat j = nI (co j / 16) ∧ hwhere j = nI (co j / 4 % 4) ∧ hnumber j = nI (co j % 4)
theorem RA_done {d r m s p v : Nat → Int32} {M B t x : Nat} (h : RA d r m s p v M B) (ht : t < 4) (hx : x < 2 ^ 3) : RA (upd d t (nI x)) r m s p v (FS M (40 + 3 * t) 3 x) B := by
  obtain ⟨h1, h2, h3, h4, h5⟩ := h
  refine ⟨fun u hu => ?_, fun u hu => ?_, fun u hu => ?_, h4, h5⟩
  · simp only [dnF]
    by_cases e : u = t
    · subst e
      rw [pk_us, fd_fs_same hx]
    · rw [pk_un e, fd_fs_ne hx (by omega)]
      exact h1 u hu
  · simp only [rgF]
    rw [fd_fs_ne hx (by omega)]
    exact h2 u hu
  · simp only [mmF]
    rw [fd_fs_ne hx (by omega)]
    exact h3 u hu
theorem RA_mem {d r m s p v : Nat → Int32} {M B t x : Nat} (h : RA d r m s p v M B) (ht : t < 4) (hx : x < 4) : RA d r (upd m t (nI x)) s p v (FS M (2 * (3 - t)) 2 x) B := by
  obtain ⟨h1, h2, h3, h4, h5⟩ := h
  have hx2 : x < 2 ^ 2 := hx
  refine ⟨fun u hu => ?_, fun u hu => ?_, fun u hu => ?_, h4, h5⟩
  · simp only [dnF]
    rw [fd_fs_ne hx2 (by omega)]
    exact h1 u hu
  · simp only [rgF]
    rw [fd_fs_ne hx2 (by omega)]
    exact h2 u hu
  · simp only [mmF]
    by_cases e : u = t
    · subst e
      rw [pk_us, fd_fs_same hx2]
    · rw [pk_un e, fd_fs_ne hx2 (by omega)]
      exact h3 u hu
theorem RA_reg {d r m s p v : Nat → Int32} {M B t n x : Nat} (h : RA d r m s p v M B) (ht : t < 4) (hn : n < 4) (hx : x < 4) : RA d (upd r (4 * t + n) (nI x)) m s p v (FS M (2 * (19 - 4 * t - n)) 2 x) B := by
  obtain ⟨h1, h2, h3, h4, h5⟩ := h
  have hx2 : x < 2 ^ 2 := hx
  refine ⟨fun u hu => ?_, fun u hu => ?_, fun u hu => ?_, h4, h5⟩
  · simp only [dnF]
    rw [fd_fs_ne hx2 (by omega)]
    exact h1 u hu
  · simp only [rgF]
    by_cases e : u = 4 * t + n
    · subst e
      rw [pk_us, show 19 - (4 * t + n) = 19 - 4 * t - n by omega, fd_fs_same hx2]
    · rw [pk_un e, fd_fs_ne hx2 (by omega)]
      exact h2 u hu
  · simp only [mmF]
    rw [fd_fs_ne hx2 (by omega)]
    exact h3 u hu
/-- a buffer changes -/
theorem RA_buf {d r m s p v s' p' v' : Nat → Int32} {M B b E : Nat} (h : RA d r m s p v M B) (hb : b < 4) (hE : E < 32768) (hs : ∀ c, c < 4 → s' c = if c = b then nI (sz5 E) else s c)
    (hp : ∀ c, c < 4 → c ≠ b → ∀ e, e < 3 → p' (3 * c + e) = p (3 * c + e) ∧ v' (3 * c + e) = v (3 * c + e)) (hn : ∀ e, e < sz5 E → p' (3 * b + e) = nI (en5 E e / 4 - 4) ∧ v' (3 * b + e) = nI (en5 E e % 4)) : RA d r m s' p' v' M (FS B (15 * b) 15 E) := by
  obtain ⟨h1, h2, h3, h4, h5⟩ := h
  have hE2 : E < 2 ^ 15 := hE
  refine ⟨h1, h2, h3, fun c hc => ?_, fun c hc e he => ?_⟩
  · rw [hs c hc]
    by_cases ec : c = b
    · subst ec
      rw [if_pos rfl, fd_fs_same hE2]
    · rw [if_neg ec, fd_fs_ne hE2 (by omega)]
      exact h4 c hc
  · by_cases ec : c = b
    · subst ec
      rw [fd_fs_same hE2] at he ⊢
      exact hn e he
    · rw [fd_fs_ne hE2 (by omega)] at he ⊢
      have := sz_le (FD B (15 * c) 15)
      rw [(hp c hc ec e (by omega)).1, (hp c hc ec e (by omega)).2]
      exact h5 c hc e he
theorem en_ad {E x j : Nat} (hE : E < 32768) (hs : E / 1024 = 0) (hx : x < 16) (hj : j ≤ sz5 E) : en5 (ad5 E (16 + x)) j = if j < sz5 E then en5 E j else 16 + x := by
  rcases sz_c E with ⟨a, e⟩ | ⟨a, b, e⟩ | ⟨a, b, e⟩ | ⟨a, e⟩
  · rw [e] at hj ⊢
    simp only [ad5, e, en5]
    rw [show j = 0 by omega, if_neg (by omega)]
    omega
  · rw [e] at hj ⊢
    simp only [ad5, e, en5]
    rcases (show j = 0 ∨ j = 1 by omega) with rfl | rfl
    · rw [if_pos (by omega)]
      omega
    · rw [if_neg (by omega)]
      omega
  · rw [e] at hj ⊢
    simp only [ad5, e, en5]
    rcases (show j = 0 ∨ j = 1 ∨ j = 2 by omega) with rfl | rfl | rfl
    · rw [if_pos (by omega)]
      omega
    · rw [if_pos (by omega)]
      omega
    · rw [if_neg (by omega)]
      omega
  · omega
theorem en_dr {E i j : Nat} (hE : E < 32768) (hi : i < 3) (hj : j < 2) : en5 (dr5 E i) j = if j < i then en5 E j else en5 E (j + 1) := by
  rcases (show i = 0 ∨ i = 1 ∨ i = 2 by omega) with rfl | rfl | rfl <;> rcases (show j = 0 ∨ j = 1 by omega) with rfl | rfl <;> simp only [dr5, en5] <;> simp <;> omega
/-- what a read sees -/
def nwU (E p m : Nat) : Nat → Nat
  | 0 => m
  | e + 1 => if en5 E e / 4 - 4 = p then en5 E e % 4 else nwU E p m e
theorem nwU_eq {E p m : Nat} (hV : V5 E) (hp : p < 4) : nwU E p m (sz5 E) = match nw5 E p with | some v => v | none => m := by
  have n0 : ∀ e, e < 3 → ¬ e < sz5 E → ¬ en5 E e / 4 = 4 + p := fun e he hs => by
    rw [v5_no hV hs he]
    omega
  have n1 : ∀ e, e < sz5 E → (en5 E e / 4 - 4 = p ↔ en5 E e / 4 = 4 + p) := fun e he => by
    have := (v5_en hV he).1
    omega
  have hs := sz_le E
  simp only [nw5]
  rcases (show sz5 E = 0 ∨ sz5 E = 1 ∨ sz5 E = 2 ∨ sz5 E = 3 by omega) with e | e | e | e
  · rw [if_neg (n0 2 (by omega) (by omega)), if_neg (n0 1 (by omega) (by omega)), if_neg (n0 0 (by omega) (by omega)), e]
    rfl
  · rw [if_neg (n0 2 (by omega) (by omega)), if_neg (n0 1 (by omega) (by omega)), e]
    simp only [nwU, n1 0 (by omega)]
    by_cases c : en5 E 0 / 4 = 4 + p <;> simp [c]
  · rw [if_neg (n0 2 (by omega) (by omega)), e]
    simp only [nwU, n1 0 (by omega), n1 1 (by omega)]
    by_cases c : en5 E 0 / 4 = 4 + p <;> by_cases c1 : en5 E 1 / 4 = 4 + p <;> simp [c, c1]
  · rw [e]
    simp only [nwU, n1 0 (by omega), n1 1 (by omega), n1 2 (by omega)]
    by_cases c : en5 E 0 / 4 = 4 + p <;> by_cases c1 : en5 E 1 / 4 = 4 + p <;> by_cases c2 : en5 E 2 / 4 = 4 + p <;> simp [c, c1, c2]
theorem nwU_lt {E p m : Nat} (hm : m < 4) (e : Nat) : nwU E p m e < 4 := by
  induction e with
  | zero => exact hm
  | succ e ih =>
    simp only [nwU]
    split
    · omega
    · exact ih
theorem s_seen {Post : Int32 → Int32 → (Nat → Int32) → (Nat → Int32) → (Nat → Int32) → (Nat → Int32) → Prop} {th : Int32} {d r hmemory hsize hplace hvalue : Nat → Int32} {M B b p : Nat} (hR : RA d r hmemory hsize hplace hvalue M B) (hV : V5 (FD B (15 * b) 15)) (hb : b < 4) (hp : p < 4)
    (h : Post (nI (match nw5 (FD B (15 * b) 15) p with | some v => v | none => FD M (2 * (3 - p)) 2)) th hmemory hsize hplace hvalue) : wp_MO_seen Post th hmemory hsize hplace hvalue (nI b) (nI p) := by
  obtain ⟨h1, h2, h3, h4, h5⟩ := hR
  rw [← nwU_eq hV hp] at h
  have hsz := h4 b hb
  have hen := h5 b hb
  generalize FD B (15 * b) 15 = E at hsz hen hV h
  have hz := sz_le E
  rw [wp_MO_seen]
  refine ⟨vp_in_nI hp (by decide), fun x1 e1 => ?_⟩
  rw [nI_clamp (by omega), h3 p hp] at e1
  rw [e1]
  have hm : mmF M p < 4 := mm_lt M p
  have key : ∀ u e, u + e = sz5 E → wp_MO_seen_10 Post (u + 1) th hmemory hsize hplace hvalue (nI b) (nI p) (nI (nwU E p (mmF M p) e)) (nI e) := by
    intro u
    induction u with
    | zero =>
      intro e he
      rw [wp_MO_seen_10, nI_clamp (by omega), hsz]
      refine ⟨vp_in_nI hb (by decide), pk_le (sz5 E) e (fun _ => ?_) (fun c => by omega)⟩
      rw [show e = sz5 E by omega]
      exact h
    | succ u ih =>
      intro e he
      rw [wp_MO_seen_10, nI_clamp (by omega), hsz, show (3 : Int32) = nI 3 from rfl, pk_mul, nI_add, nI_clamp (by omega), (hen e (by omega)).1, (hen e (by omega)).2]
      have h32 := en5_lt E e
      have ih2 := ih (e + 1) (by omega)
      simp only [nwU] at ih2
      refine ⟨vp_in_nI hb (by decide), pk_le (sz5 E) e (fun c => by omega) (fun _ => ⟨vp_in_nI (by omega) (by decide), ?_⟩)⟩
      rw [nI_eq (by omega) (by omega)]
      refine ⟨fun c => ?_, fun c => ⟨vp_in_nI (by omega) (by decide), ?_⟩⟩
      · rw [wp_MO_seen_51]
        intro x2 e2
        rw [nI_1] at e2
        rw [if_neg c] at ih2
        rw [e2]
        exact ih2
      · rw [wp_MO_seen_51]
        intro x2 e2
        rw [nI_1] at e2
        rw [if_pos c] at ih2
        rw [e2]
        exact ih2
  exact ⟨sz5 E + 1, key (sz5 E) 0 (by omega)⟩
theorem s_bufferOf {Post : Int32 → Int32 → Prop} {th : Int32} {k t : Nat} (hk : k < 4) (ht : t < 4) (h : Post (nI (bf k t)) th) : wp_MO_bufferOf Post th (nI k) (nI t) := by
  rw [wp_MO_bufferOf, nI_z3 (by omega)]
  refine ⟨fun c => ?_, fun c => ?_⟩
  · rw [show bf k t = t by simp [bf, c]] at h
    exact h
  · rw [show bf k t = t / 2 by simp [bf, c]] at h
    rw [show (2 : Int32) = nI 2 from rfl, pk_div (by omega) (by decide) (by decide)]
    exact h
theorem s_ract {Post : Int32 → Int32 → (Nat → Int32) → (Nat → Int32) → (Nat → Int32) → (Nat → Int32) → (Nat → Int32) → (Nat → Int32) → (Nat → Int32) → (Nat → Int32) → (Nat → Int32) → (Nat → Int32) → Prop} {th : Int32} {hactions hwhat hwhere hnumber d r m s p v : Nat → Int32} {na co : Nat → Nat} {k t M B : Nat}
    (hP : PGr hactions hwhat hwhere hnumber na co) (hPN : PN na co) (hk : k < 4) (ht : t < 4) (hV : VS na k (M, B)) (hR : RA d r m s p v M B)
    (h1 : ∀ M' B' d' r' m' s' p' v', actX na co k t M B = some (M', B') → RA d' r' m' s' p' v' M' B' → Post 1 th hactions hwhat hwhere hnumber d' r' m' s' p' v') (h0 : actX na co k t M B = none → ∀ d' r' m' s' p' v', Post 0 th hactions hwhat hwhere hnumber d' r' m' s' p' v') :
    wp_MO_act Post th hactions hwhat hwhere hnumber d r m s p v (nI k) (nI t) := by
  obtain ⟨⟨hM, hB, hV5⟩, hB0, hdn⟩ := hV
  simp only at hM hB hV5 hB0 hdn
  have hb : bf k t < 4 := bf_lt ht
  have hna := hPN.1 t ht
  have hd := fd_lt M (40 + 3 * t) 3
  rw [wp_MO_act, nI_clamp (by omega), hR.1 t ht, hP.1 t ht]
  refine ⟨vp_in_nI ht (by decide), vp_in_nI ht (by decide), ?_⟩
  have hdd : dnF M t = FD M (40 + 3 * t) 3 := rfl
  rw [hdd]
  refine pk_lt (FD M (40 + 3 * t) 3) (na t) (fun c => ?_) (fun c => ?_)
  · refine ⟨vp_in_nI ht (by decide), fun x1 e1 => ?_⟩
    simp only [actX] at h1 h0
    rw [if_pos c] at h1 h0
    have fin : ∀ (r' m' s' p' v' : Nat → Int32) (M' B' : Nat), (∀ d', RA d' r' m' s' p' v' M' B' → Post 1 th hactions hwhat hwhere hnumber d' r' m' s' p' v') → RA (upd d t (nI (FD M (40 + 3 * t) 3 + 1))) r' m' s' p' v' M' B' → wp_MO_act_222 Post th hactions hwhat hwhere hnumber d r' m' s' p' v' (nI t) := by
      intro r' m' s' p' v' M' B' hq hra
      rw [wp_MO_act_222, nI_clamp (by omega), hR.1 t ht, hdd, nI_1]
      refine ⟨vp_in_nI ht (by decide), vp_in_nI ht (by decide), fun f14 e14 => hq f14 ?_⟩
      rw [e14]
      exact hra
    have hRd := RA_done (x := FD M (40 + 3 * t) 3 + 1) hR ht (by omega)
    obtain ⟨hw1, hw2, hw3⟩ := hP.2 (5 * t + FD M (40 + 3 * t) 3) (by omega)
    have hq64 := hPN.2 (5 * t + FD M (40 + 3 * t) 3) (by omega)
    have hj20 : 5 * t + FD M (40 + 3 * t) 3 < 20 := by omega
    rw [show (5 : Int32) = nI 5 from rfl, pk_mul, nI_add] at e1
    generalize hje : 5 * t + FD M (40 + 3 * t) 3 = j at *
    generalize hqe : co j = q at *
    subst e1
    generalize hDe : FD M (40 + 3 * t) 3 + 1 = D at *
    refine s_bufferOf hk ht ?_
    refine ⟨vp_in_nI hb (by decide), ?_⟩
    have hsz := hR.2.2.2.1 _ hb
    have hVb := hV5 _ hb
    have hbuf := hR.2.2.2.2 _ hb
    rw [nI_clamp (by omega), hsz]
    have hz3 := sz_le (FD B (15 * bf k t) 15)
    have hzc := sz_c (FD B (15 * bf k t) 15)
    have main : ∀ S0 : Int32, (S0 = 0 ↔ ¬ sz5 (FD B (15 * bf k t) 15) = 0) → wp_MO_act_51 Post th hactions hwhat hwhere hnumber d r m s p v (nI k) (nI t) (nI j) (nI (bf k t)) S0 := by
      intro S0 hS0
      have a195 : (q / 16 = 2 → ∀ d', RA d' r m s p v (FS M (40 + 3 * t) 3 D) B → Post 1 th hactions hwhat hwhere hnumber d' r m s p v) → (¬ q / 16 = 2 → ∀ d' m', RA d' r m' s p v (FS (FS M (40 + 3 * t) 3 D) (2 * (3 - q / 4 % 4)) 2 (q % 4)) B → Post 1 th hactions hwhat hwhere hnumber d' r m' s p v) → wp_MO_act_195 Post th hactions hwhat hwhere hnumber d r m s p v (nI t) (nI j) := by
        intro g1 g2
        rw [wp_MO_act_195, nI_clamp (by omega), hw1, hw2, hw3, nI_z2 (by omega)]
        refine ⟨vp_in_nI hj20 (by decide), fun c2 => ?_, fun c2 => ⟨vp_in_nI hj20 (by decide), vp_in_nI hj20 (by decide), vp_in_nI (by omega) (by decide), fun f15 e15 => ?_⟩⟩
        · exact fin _ _ _ _ _ _ _ (g1 c2) hRd
        · rw [nI_clamp (by omega)] at e15
          refine fin _ _ _ _ _ _ _ (fun d' hd' => g2 c2 d' f15 hd') ?_
          rw [e15]
          exact RA_mem hRd (by omega) (by omega)
      rw [wp_MO_act_51, nI_clamp (by omega), hw1, hw2, hw3, nI_z1 (by omega), nI_z0 (by omega), nI_z0 (by omega)]
      refine ⟨vp_in_nI hj20 (by decide), fun cr => ⟨vp_in_nI hj20 (by decide), fun cw => ?_, fun cw => ⟨fun ck => ?_, fun ck => ⟨vp_in_nI hb (by decide), ?_⟩⟩⟩, fun cr => ⟨vp_in_nI hj20 (by decide), vp_in_nI hj20 (by decide), ?_⟩⟩
      · -- a fence, or a write through
        rw [wp_MO_act_179, nI_clamp (by omega), hw1, nI_z0 (by omega)]
        refine ⟨vp_in_nI hj20 (by decide), fun c => absurd c cw, fun _ => ⟨fun cs => ?_, fun cs => ?_⟩⟩
        · have hE0 : FD B (15 * bf k t) 15 = 0 := by
            have : sz5 (FD B (15 * bf k t) 15) = 0 := by
              by_cases e : sz5 (FD B (15 * bf k t) 15) = 0
              · exact e
              · exact absurd (hS0.mpr e) cs
            omega
          rw [if_neg cw, if_neg cr] at h1
          refine a195 (fun c2 d' hd' => ?_) (fun c2 d' m' hd' => ?_)
          · rw [if_pos c2, if_pos hE0] at h1
            exact h1 _ _ _ _ _ _ _ _ rfl hd'
          · rw [if_neg c2, if_pos hE0] at h1
            exact h1 _ _ _ _ _ _ _ _ rfl hd'
        · have hE0 : ¬ FD B (15 * bf k t) 15 = 0 := by
            have := hS0.mp cs
            omega
          rw [if_neg cw, if_neg cr, if_neg hE0, if_neg hE0, ite_self] at h0
          exact h0 rfl _ _ _ _ _ _
      · -- a write at once
        have hB00 := hB0 ck
        have hE0 : FD B (15 * bf k t) 15 / 1024 = 0 := by
          rw [hB00]
          simp [FD]
        rw [if_pos cw, if_pos hE0, if_pos ck] at h1
        rw [wp_MO_act_179, nI_clamp (by omega), hw1, nI_z0 (by omega)]
        refine ⟨vp_in_nI hj20 (by decide), fun _ => ?_, fun c => absurd cw c⟩
        exact a195 (fun c2 => by omega) (fun c2 d' m' hd' => h1 _ _ _ _ _ _ _ _ rfl hd')
      · -- a write into the buffer
        rw [nI_clamp (by omega), hsz, nI_z3 (by omega)]
        rw [if_pos cw] at h1 h0
        refine ⟨fun cs => ?_, fun cs => ?_⟩
        · have hE0 : FD B (15 * bf k t) 15 / 1024 = 0 := by omega
          rw [if_pos hE0, if_neg ck] at h1
          rw [show (3 : Int32) = nI 3 from rfl, pk_mul, nI_add, nI_clamp (by omega), nI_1]
          refine ⟨vp_in_nI hb (by decide), vp_in_nI hj20 (by decide), vp_in_nI (by omega) (by decide), fun f4 e4 => ⟨vp_in_nI hb (by decide), vp_in_nI hj20 (by decide), vp_in_nI (by omega) (by decide), fun f5 e5 => ⟨vp_in_nI hb (by decide), vp_in_nI hb (by decide), fun f6 e6 => ?_⟩⟩⟩
          refine fin _ _ _ _ _ _ _ (fun d' hd' => h1 _ _ _ _ _ _ _ _ rfl hd') ?_
          have hsa := sz_ad hVb.1 hE0 (show q % 16 < 16 by omega)
          have hla := (v5_ad hVb hE0 (show q % 16 < 16 by omega)).1
          refine RA_buf hRd hb hla (fun c hc => ?_) (fun c hc hcb e he => ?_) (fun e he => ?_)
          · rw [e6]
            by_cases ec : c = bf k t
            · rw [if_pos ec, ec, pk_us, hsa]
            · rw [if_neg ec, pk_un ec]
          · rw [e4, e5, pk_un (by omega), pk_un (by omega)]
            exact ⟨rfl, rfl⟩
          · rw [hsa] at he
            rw [en_ad hVb.1 hE0 (show q % 16 < 16 by omega) (by omega)]
            by_cases ee : e < sz5 (FD B (15 * bf k t) 15)
            · rw [if_pos ee, e4, e5, pk_un (by omega), pk_un (by omega)]
              exact hbuf e ee
            · have ee2 : e = sz5 (FD B (15 * bf k t) 15) := by omega
              rw [if_neg ee, e4, e5, ee2, pk_us, pk_us]
              constructor
              · congr 1
                omega
              · congr 1
                omega
        · have hE0 : ¬ FD B (15 * bf k t) 15 / 1024 = 0 := by omega
          rw [if_neg hE0] at h0
          exact h0 rfl _ _ _ _ _ _
      · -- a read
        have cw : ¬ q / 16 = 0 := by omega
        rw [if_neg cw, if_pos cr] at h1
        refine s_seen hR hVb hb (by omega) ?_
        rw [show (4 : Int32) = nI 4 from rfl, pk_mul, nI_add, nI_clamp (by omega)]
        refine ⟨vp_in_nI (by omega) (by decide), fun f13 e13 => ?_⟩
        refine fin _ _ _ _ _ _ _ (fun d' hd' => h1 _ _ _ _ _ _ _ _ rfl hd') ?_
        rw [e13]
        refine RA_reg hRd ht (by omega) ?_
        split
        · rename_i v hv
          exact nw5_lt hv
        · exact fd_lt M _ 2
    rw [nI_z0 (by omega)]
    exact ⟨fun c0 => main 0 ⟨fun _ => c0, fun _ => rfl⟩, fun c0 => main 1 ⟨fun c => absurd c (by decide), fun c => absurd c0 c⟩⟩
  · simp only [actX] at h0
    rw [if_neg (by omega)] at h0
    exact h0 rfl _ _ _ _ _ _
