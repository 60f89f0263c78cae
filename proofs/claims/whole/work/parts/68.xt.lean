/-! the exploration, in numbers alone: (how many states, the states, of each from where, by which step, how deep; crowded) -/
def xn (X : Nat × (Nat → Nat × Nat) × (Nat → Nat × Nat × Nat) × Bool) : Nat := X.1
def xq (X : Nat × (Nat → Nat × Nat) × (Nat → Nat × Nat × Nat) × Bool) : Nat → Nat × Nat := X.2.1
def xtr (X : Nat × (Nat → Nat × Nat) × (Nat → Nat × Nat × Nat) × Bool) : Nat → Nat × Nat × Nat := X.2.2.1
def xc (X : Nat × (Nat → Nat × Nat) × (Nat → Nat × Nat × Nat) × Bool) : Bool := X.2.2.2
def xd (X : Nat × (Nat → Nat × Nat) × (Nat → Nat × Nat × Nat) × Bool) (j : Nat) : Nat := (xtr X j).2.2
def isin (X : Nat × (Nat → Nat × Nat) × (Nat → Nat × Nat × Nat) × Bool) (x : Nat × Nat) : Prop := ∃ j, j < xn X ∧ xq X j = x
noncomputable def xadd (X : Nat × (Nat → Nat × Nat) × (Nat → Nat × Nat × Nat) × Bool) (x : Nat × Nat) (i s : Nat) : Nat × (Nat → Nat × Nat) × (Nat → Nat × Nat × Nat) × Bool :=
  haveI := Classical.propDecidable (isin X x)
  if isin X x then X else if xn X = 12000 then (xn X, xq X, xtr X, true) else (xn X + 1, upQ (xq X) (xn X) x, (fun j => if j = xn X then (i, s, xd X i + 1) else xtr X j), xc X)
theorem xadd_old {X : Nat × (Nat → Nat × Nat) × (Nat → Nat × Nat × Nat) × Bool} {x : Nat × Nat} {i s : Nat} (h : isin X x) : xadd X x i s = X := by
  simp only [xadd]
  rw [if_pos h]
theorem xadd_full {X : Nat × (Nat → Nat × Nat) × (Nat → Nat × Nat × Nat) × Bool} {x : Nat × Nat} {i s : Nat} (h : ¬ isin X x) (h2 : xn X = 12000) : xadd X x i s = (xn X, xq X, xtr X, true) := by
  simp only [xadd]
  rw [if_neg h, if_pos h2]
theorem xadd_new {X : Nat × (Nat → Nat × Nat) × (Nat → Nat × Nat × Nat) × Bool} {x : Nat × Nat} {i s : Nat} (h : ¬ isin X x) (h2 : xn X ≠ 12000) : xadd X x i s = (xn X + 1, upQ (xq X) (xn X) x, (fun j => if j = xn X then (i, s, xd X i + 1) else xtr X j), xc X) := by
  simp only [xadd]
  rw [if_neg h, if_neg h2]
noncomputable def xone (na co : Nat → Nat) (k : Nat) (X : Nat × (Nat → Nat × Nat) × (Nat → Nat × Nat × Nat) × Bool) (i s : Nat) : Nat × (Nat → Nat × Nat) × (Nat → Nat × Nat × Nat) × Bool :=
  if xc X = true ∨ xn X ≤ i then X else match stp na co k s (xq X i) with | none => X | some y => xadd X y i s
noncomputable def xt (na co : Nat → Nat) (k : Nat) : Nat → Nat × (Nat → Nat × Nat) × (Nat → Nat × Nat × Nat) × Bool
  | 0 => (1, (fun _ => (0, 0)), (fun _ => (0, 0, 0)), false)
  | t + 1 => xone na co k (xt na co k t) (t / 24) (t % 24)
theorem xt_succ (na co : Nat → Nat) (k i : Nat) {s : Nat} (hs : s < 24) : xt na co k (24 * i + (s + 1)) = xone na co k (xt na co k (24 * i + s)) i s := by
  rw [← Nat.add_assoc, xt, show (24 * i + s) / 24 = i by omega, show (24 * i + s) % 24 = s by omega]
/-- one after the other: what is there stays -/
def xle (X Y : Nat × (Nat → Nat × Nat) × (Nat → Nat × Nat × Nat) × Bool) : Prop := xn X ≤ xn Y ∧ (∀ j, j < xn X → xq Y j = xq X j ∧ xtr Y j = xtr X j) ∧ (xc X = true → xc Y = true)
theorem xle_refl (X : Nat × (Nat → Nat × Nat) × (Nat → Nat × Nat × Nat) × Bool) : xle X X := ⟨Nat.le_refl _, fun j hj => ⟨rfl, rfl⟩, fun h => h⟩
theorem xle_trans {X Y Z : Nat × (Nat → Nat × Nat) × (Nat → Nat × Nat × Nat) × Bool} (h1 : xle X Y) (h2 : xle Y Z) : xle X Z :=
  ⟨Nat.le_trans h1.1 h2.1, fun j hj => by
    have a := h1.2.1 j hj
    have b := h2.2.1 j (Nat.lt_of_lt_of_le hj h1.1)
    exact ⟨b.1.trans a.1, b.2.trans a.2⟩, fun h => h2.2.2 (h1.2.2 h)⟩
theorem xle_add (X : Nat × (Nat → Nat × Nat) × (Nat → Nat × Nat × Nat) × Bool) (x : Nat × Nat) (i s : Nat) : xle X (xadd X x i s) := by
  by_cases h : isin X x
  · rw [xadd_old h]
    exact xle_refl X
  · by_cases h2 : xn X = 12000
    · rw [xadd_full h h2]
      exact ⟨Nat.le_refl _, fun j hj => ⟨rfl, rfl⟩, fun _ => rfl⟩
    · rw [xadd_new h h2]
      exact ⟨Nat.le_succ _, fun j hj => ⟨upQ_n (by omega), if_neg (by omega)⟩, fun h => h⟩
theorem xle_one (na co : Nat → Nat) (k : Nat) (X : Nat × (Nat → Nat × Nat) × (Nat → Nat × Nat × Nat) × Bool) (i s : Nat) : xle X (xone na co k X i s) := by
  simp only [xone]
  split
  · exact xle_refl X
  · split
    · exact xle_refl X
    · exact xle_add X _ i s
theorem xle_t (na co : Nat → Nat) (k : Nat) {a b : Nat} (h : a ≤ b) : xle (xt na co k a) (xt na co k b) := by
  induction b with
  | zero =>
    rw [show a = 0 by omega]
    exact xle_refl _
  | succ b ih =>
    by_cases e : a = b + 1
    · rw [e]
      exact xle_refl _
    · exact xle_trans (ih (by omega)) (xle_one _ _ _ _ _ _)
/-! how far a state is: no more than 2 * done - (entries in the buffers) -/
def dsum (M : Nat) : Nat := FD M 40 3 + FD M 43 3 + FD M 46 3 + FD M 49 3
def ssum (B : Nat) : Nat := sz5 (FD B 0 15) + sz5 (FD B 15 15) + sz5 (FD B 30 15) + sz5 (FD B 45 15)
theorem ssum_set {B b E : Nat} (hb : b < 4) (hE : E < 2 ^ 15) : ssum (FS B (15 * b) 15 E) + sz5 (FD B (15 * b) 15) = ssum B + sz5 E := by
  simp only [ssum]
  rcases (show b = 0 ∨ b = 1 ∨ b = 2 ∨ b = 3 by omega) with rfl | rfl | rfl | rfl
  · rw [show 15 * 0 = 0 from rfl, fd_fs_same hE, fd_fs_ne hE (by omega), fd_fs_ne hE (by omega), fd_fs_ne hE (by omega)]
    omega
  · rw [show 15 * 1 = 15 from rfl, fd_fs_same hE, fd_fs_ne hE (by omega), fd_fs_ne hE (by omega), fd_fs_ne hE (by omega)]
    omega
  · rw [show 15 * 2 = 30 from rfl, fd_fs_same hE, fd_fs_ne hE (by omega), fd_fs_ne hE (by omega), fd_fs_ne hE (by omega)]
    omega
  · rw [show 15 * 3 = 45 from rfl, fd_fs_same hE, fd_fs_ne hE (by omega), fd_fs_ne hE (by omega), fd_fs_ne hE (by omega)]
    omega
theorem dsum_dig {M sh d : Nat} (hd : d < 4) (hs : sh + 2 ≤ 40) : dsum (FS M sh 2 d) = dsum M := by
  have h : ∀ t, FD (FS M sh 2 d) (40 + 3 * t) 3 = FD M (40 + 3 * t) 3 := fun t => done_fs hd hs
  simp only [dsum]
  rw [h 0, h 1, h 2, h 3]
theorem dsum_inc {M t : Nat} (ht : t < 4) (h : FD M (40 + 3 * t) 3 + 1 < 2 ^ 3) : dsum (FS M (40 + 3 * t) 3 (FD M (40 + 3 * t) 3 + 1)) = dsum M + 1 := by
  simp only [dsum]
  rcases (show t = 0 ∨ t = 1 ∨ t = 2 ∨ t = 3 by omega) with rfl | rfl | rfl | rfl
  · rw [show 40 + 3 * 0 = 40 from rfl] at h ⊢
    rw [fd_fs_same h, fd_fs_ne h (by omega), fd_fs_ne h (by omega), fd_fs_ne h (by omega)]
    omega
  · rw [show 40 + 3 * 1 = 43 from rfl] at h ⊢
    rw [fd_fs_same h, fd_fs_ne h (by omega), fd_fs_ne h (by omega), fd_fs_ne h (by omega)]
    omega
  · rw [show 40 + 3 * 2 = 46 from rfl] at h ⊢
    rw [fd_fs_same h, fd_fs_ne h (by omega), fd_fs_ne h (by omega), fd_fs_ne h (by omega)]
    omega
  · rw [show 40 + 3 * 3 = 49 from rfl] at h ⊢
    rw [fd_fs_same h, fd_fs_ne h (by omega), fd_fs_ne h (by omega), fd_fs_ne h (by omega)]
    omega
theorem sz_c (E : Nat) : (E = 0 ∧ sz5 E = 0) ∨ (E ≠ 0 ∧ E / 32 = 0 ∧ sz5 E = 1) ∨ (E / 32 ≠ 0 ∧ E / 1024 = 0 ∧ sz5 E = 2) ∨ (E / 1024 ≠ 0 ∧ sz5 E = 3) := by
  simp only [sz5]
  by_cases a : E = 0
  · exact Or.inl ⟨a, if_pos a⟩
  · by_cases b : E / 32 = 0
    · exact Or.inr (Or.inl ⟨a, b, by rw [if_neg a, if_pos b]⟩)
    · by_cases c : E / 1024 = 0
      · exact Or.inr (Or.inr (Or.inl ⟨b, c, by rw [if_neg a, if_neg b, if_pos c]⟩))
      · exact Or.inr (Or.inr (Or.inr ⟨c, by rw [if_neg a, if_neg b, if_neg c]⟩))
theorem sz_ad {E x : Nat} (hE : E < 32768) (hs : E / 1024 = 0) (hx : x < 16) : sz5 (ad5 E (16 + x)) = sz5 E + 1 := by
  rcases sz_c E with ⟨a, e⟩ | ⟨a, b, e⟩ | ⟨a, b, e⟩ | ⟨a, e⟩
  · simp only [ad5, e]
    rcases sz_c (E + (16 + x) * 2 ^ (5 * 0)) with ⟨a', e'⟩ | ⟨a', b', e'⟩ | ⟨a', b', e'⟩ | ⟨a', e'⟩ <;> rw [e'] <;> omega
  · simp only [ad5, e]
    rcases sz_c (E + (16 + x) * 2 ^ (5 * 1)) with ⟨a', e'⟩ | ⟨a', b', e'⟩ | ⟨a', b', e'⟩ | ⟨a', e'⟩ <;> rw [e'] <;> omega
  · simp only [ad5, e]
    rcases sz_c (E + (16 + x) * 2 ^ (5 * 2)) with ⟨a', e'⟩ | ⟨a', b', e'⟩ | ⟨a', b', e'⟩ | ⟨a', e'⟩ <;> rw [e'] <;> omega
  · omega
theorem sz_dr {E i : Nat} (hV : V5 E) (hi : i < 3) (hn : E / 2 ^ (5 * i) ≠ 0) : sz5 (dr5 E i) + 1 = sz5 E := by
  obtain ⟨h0, h1, h2, h3⟩ := hV
  simp only [en5] at h1 h2 h3
  rcases (show i = 0 ∨ i = 1 ∨ i = 2 by omega) with rfl | rfl | rfl
  · simp only [dr5]
    rcases sz_c E with ⟨a, e⟩ | ⟨a, b, e⟩ | ⟨a, b, e⟩ | ⟨a, e⟩ <;> rcases sz_c (E % 2 ^ (5 * 0) + E / 2 ^ (5 * 0 + 5) * 2 ^ (5 * 0)) with ⟨a', e'⟩ | ⟨a', b', e'⟩ | ⟨a', b', e'⟩ | ⟨a', e'⟩ <;> rw [e, e'] <;> omega
  · simp only [dr5]
    rcases sz_c E with ⟨a, e⟩ | ⟨a, b, e⟩ | ⟨a, b, e⟩ | ⟨a, e⟩ <;> rcases sz_c (E % 2 ^ (5 * 1) + E / 2 ^ (5 * 1 + 5) * 2 ^ (5 * 1)) with ⟨a', e'⟩ | ⟨a', b', e'⟩ | ⟨a', b', e'⟩ | ⟨a', e'⟩ <;> rw [e, e'] <;> omega
  · simp only [dr5]
    rcases sz_c E with ⟨a, e⟩ | ⟨a, b, e⟩ | ⟨a, b, e⟩ | ⟨a, e⟩ <;> rcases sz_c (E % 2 ^ (5 * 2) + E / 2 ^ (5 * 2 + 5) * 2 ^ (5 * 2)) with ⟨a', e'⟩ | ⟨a', b', e'⟩ | ⟨a', b', e'⟩ | ⟨a', e'⟩ <;> rw [e, e'] <;> omega
/-- each step goes up -/
theorem stp_mu {na co : Nat → Nat} {k s : Nat} {x y : Nat × Nat} (hP : PN na co) (hs : s < 24) (hV : VS na k x) (h : stp na co k s x = some y) : ∃ a : Nat, 1 ≤ a ∧ 2 * dsum y.1 + ssum x.2 = 2 * dsum x.1 + ssum y.2 + a := by
  obtain ⟨M, B⟩ := x
  obtain ⟨⟨hM, hB, h5⟩, h0, hd⟩ := hV
  simp only at hM hB h5 h0 hd
  have dr : ∀ b q, b < 4 → drX b q M B = some y → ∃ a : Nat, 1 ≤ a ∧ 2 * dsum y.1 + ssum B = 2 * dsum M + ssum y.2 + a := by
    intro b q hb h
    simp only [drX] at h
    split at h
    · cases h
    · rename_i i hf
      cases h
      have hi := fi5_lt hf
      have hv := v5_dr (h5 b hb) hi.1
      have a1 := ssum_set (B := B) hb hv.1
      have a2 := sz_dr (h5 b hb) hi.1 hi.2.1
      refine ⟨1, by omega, ?_⟩
      simp only
      rw [dsum_dig (Nat.mod_lt _ (by decide)) (by omega)]
      omega
  simp only [stp] at h
  repeat' split at h
  · rename_i ht
    have hna := hP.1 s ht
    simp only [actX] at h
    by_cases hlt : FD M (40 + 3 * s) 3 < na s
    · rw [if_pos hlt] at h
      have hq := hP.2 (5 * s + FD M (40 + 3 * s) 3) (by omega)
      generalize hqe : co (5 * s + FD M (40 + 3 * s) 3) = q at h hq
      have hd1 := dsum_inc (M := M) ht (by omega)
      generalize hM1e : FS M (40 + 3 * s) 3 (FD M (40 + 3 * s) 3 + 1) = M1 at h hd1
      have hb : bf k s < 4 := bf_lt ht
      by_cases c0 : q / 16 = 0
      · rw [if_pos c0] at h
        by_cases cs : FD B (15 * bf k s) 15 / 1024 = 0
        · rw [if_pos cs] at h
          by_cases ck : k = 0
          · rw [if_pos ck] at h
            cases h
            refine ⟨2, by omega, ?_⟩
            simp only
            rw [dsum_dig (by omega) (by omega)]
            omega
          · rw [if_neg ck] at h
            cases h
            have a1 := ssum_set (B := B) hb (v5_ad (h5 _ hb) cs (show q % 16 < 16 by omega)).1
            have a2 := sz_ad (h5 _ hb).1 cs (show q % 16 < 16 by omega)
            refine ⟨1, by omega, ?_⟩
            simp only
            omega
        · rw [if_neg cs] at h
          cases h
      · rw [if_neg c0] at h
        by_cases c1 : q / 16 = 1
        · rw [if_pos c1] at h
          cases h
          refine ⟨2, by omega, ?_⟩
          simp only
          rw [dsum_dig (by
            split
            · rename_i v hv
              exact nw5_lt hv
            · exact fd_lt M _ 2) (by omega)]
          omega
        · rw [if_neg c1] at h
          by_cases c2 : q / 16 = 2
          · rw [if_pos c2] at h
            by_cases cz : FD B (15 * bf k s) 15 = 0
            · rw [if_pos cz] at h
              cases h
              exact ⟨2, by omega, by simp only; omega⟩
            · rw [if_neg cz] at h
              cases h
          · rw [if_neg c2] at h
            by_cases cz : FD B (15 * bf k s) 15 = 0
            · rw [if_pos cz] at h
              cases h
              refine ⟨2, by omega, ?_⟩
              simp only
              rw [dsum_dig (by omega) (by omega)]
              omega
            · rw [if_neg cz] at h
              cases h
    · rw [if_neg hlt] at h
      cases h
  · cases h
  · exact dr _ _ (by omega) h
  · exact dr _ _ (by omega) h
  · cases h
/-- what always holds of the exploration, at the index i -/
def XI (na : Nat → Nat) (k : Nat) (X : Nat × (Nat → Nat × Nat) × (Nat → Nat × Nat × Nat) × Bool) (i : Nat) : Prop :=
  1 ≤ xn X ∧ xn X ≤ 12000 ∧ (xc X = true → xn X = 12000) ∧ (∀ j, j < xn X → VS na k (xq X j)) ∧ DQ (xn X) (xq X) ∧ xq X 0 = (0, 0) ∧
  (xd X 0 = 0 ∧ ∀ j, 1 ≤ j → j < xn X → (xtr X j).1 < j ∧ (xtr X j).2.1 < 24 ∧ xd X j = xd X (xtr X j).1 + 1) ∧
  (∀ a b, a ≤ b → b < xn X → xd X a ≤ xd X b) ∧ (i < xn X → ∀ j, j < xn X → xd X j ≤ xd X i + 1) ∧
  (∀ j, j < xn X → xd X j + ssum (xq X j).2 ≤ 2 * dsum (xq X j).1)
theorem XI_0 {na co : Nat → Nat} {k : Nat} : XI na k (xt na co k 0) 0 := by
  refine ⟨Nat.le_refl _, by show (1 : Nat) ≤ 12000; omega, fun h => (by cases h), fun j hj => ?_, fun i j h1 h2 => ?_, rfl, ⟨rfl, fun j h1 h2 => ?_⟩, fun a b h1 h2 => Nat.le_refl _, fun _ j hj => Nat.zero_le _, fun j hj => ?_⟩
  · have z : ∀ a b, FD 0 a b = 0 := fun a b => by simp [FD]
    refine ⟨⟨show (0 : Nat) < 2 ^ 52 by decide, show (0 : Nat) < 2 ^ 60 by decide, fun b hb => ?_⟩, fun _ => rfl, fun t ht => ?_⟩
    · show V5 (FD 0 _ _)
      rw [z]
      exact ⟨by decide, fun c => absurd rfl c, fun c => absurd rfl c, fun c => absurd rfl c⟩
    · show FD 0 _ _ ≤ _
      rw [z]
      omega
  · have : j < 1 := h2
    omega
  · have : j < 1 := h2
    omega
  · show 0 + ssum 0 ≤ 2 * dsum 0
    decide
theorem XI_up {na : Nat → Nat} {k : Nat} {X : Nat × (Nat → Nat × Nat) × (Nat → Nat × Nat × Nat) × Bool} {i : Nat} (h : XI na k X i) : XI na k X (i + 1) := by
  obtain ⟨h1, h2, h3, h4, h5, h6, h7, h8, h9, h10⟩ := h
  exact ⟨h1, h2, h3, h4, h5, h6, h7, h8, fun hi j hj => Nat.le_trans (h9 (by omega) j hj) (Nat.succ_le_succ (h8 i (i + 1) (by omega) hi)), h10⟩
theorem XI_one {na co : Nat → Nat} {k : Nat} {X : Nat × (Nat → Nat × Nat) × (Nat → Nat × Nat × Nat) × Bool} {i s : Nat} (hP : PN na co) (hs : s < 24) (h : XI na k X i) : XI na k (xone na co k X i s) i := by
  simp only [xone]
  split
  · exact h
  · rename_i hc
    split
    · exact h
    · rename_i y hy
      by_cases hi : isin X y
      · rw [xadd_old hi]
        exact h
      · by_cases hf : xn X = 12000
        · rw [xadd_full hi hf]
          obtain ⟨h1, h2, h3, h4, h5, h6, h7, h8, h9, h10⟩ := h
          exact ⟨h1, h2, fun _ => hf, h4, h5, h6, h7, h8, h9, h10⟩
        · rw [xadd_new hi hf]
          obtain ⟨h1, h2, h3, h4, h5, h6, h7, h8, h9, h10⟩ := h
          have hin : i < xn X := by omega
          have hVi := h4 i hin
          have hq : ∀ j, j ≠ xn X → upQ (xq X) (xn X) y j = xq X j := fun j hj => upQ_n hj
          generalize hYe : (xn X + 1, upQ (xq X) (xn X) y, (fun j => if j = xn X then (i, s, xd X i + 1) else xtr X j), xc X) = Y
          have en : xn Y = xn X + 1 := by rw [← hYe]; rfl
          have eq1 : xq Y = upQ (xq X) (xn X) y := by rw [← hYe]; rfl
          have et : xtr Y = fun j => if j = xn X then (i, s, xd X i + 1) else xtr X j := by rw [← hYe]; rfl
          have ec : xc Y = xc X := by rw [← hYe]; rfl
          have etn : xtr Y (xn X) = (i, s, xd X i + 1) := by rw [et]; exact if_pos rfl
          have eto : ∀ j, j ≠ xn X → xtr Y j = xtr X j := fun j hj => by rw [et]; exact if_neg hj
          have edn : xd Y (xn X) = xd X i + 1 := by rw [xd, etn]
          have edo : ∀ j, j ≠ xn X → xd Y j = xd X j := fun j hj => by rw [xd, eto j hj]; rfl
          refine ⟨by omega, by omega, fun c => ?_, fun j hj => ?_, fun a b hab hb => ?_, ?_, ⟨?_, fun j hj1 hj2 => ?_⟩, fun a b hab hb => ?_, fun _ j hj => ?_, fun j hj => ?_⟩
          · rw [ec] at c
            exact absurd (h3 c) hf
          · rw [eq1]
            by_cases e : j = xn X
            · subst e
              rw [upQ_s]
              exact stp_ok hP hs hVi hy
            · rw [hq j e]
              exact h4 j (by omega)
          · rw [eq1, hq a (by omega)]
            by_cases e : b = xn X
            · subst e
              rw [upQ_s]
              exact fun e2 => hi ⟨a, by omega, e2⟩
            · rw [hq b e]
              exact h5 a b hab (by omega)
          · rw [eq1, hq 0 (by omega)]
            exact h6
          · rw [edo 0 (by omega)]
            exact h7.1
          · by_cases e : j = xn X
            · subst e
              rw [etn, edn]
              exact ⟨hin, hs, by rw [edo i (by omega)]⟩
            · rw [eto j e, edo j e]
              have := h7.2 j hj1 (by omega)
              rw [edo _ (by omega)]
              exact this
          · by_cases ea : a = xn X
            · rw [show b = a by omega]
              exact Nat.le_refl _
            · rw [edo a ea]
              by_cases e : b = xn X
              · subst e
                rw [edn]
                exact h9 hin a (by omega)
              · rw [edo b e]
                exact h8 a b hab (by omega)
          · rw [edo i (by omega)]
            by_cases e : j = xn X
            · subst e
              rw [edn]
              exact Nat.le_refl _
            · rw [edo j e]
              exact h9 hin j (by omega)
          · rw [eq1]
            by_cases e : j = xn X
            · subst e
              rw [upQ_s, edn]
              obtain ⟨a, ha1, ha2⟩ := stp_mu hP hs hVi hy
              have := h10 i hin
              omega
            · rw [hq j e, edo j e]
              exact h10 j (by omega)
theorem XI_t {na co : Nat → Nat} {k : Nat} (hP : PN na co) : ∀ t, XI na k (xt na co k t) (t / 24) := by
  intro t
  induction t with
  | zero => exact XI_0
  | succ t ih =>
    rw [xt]
    have h := XI_one (s := t % 24) hP (by omega) ih
    by_cases c : (t + 1) / 24 = t / 24
    · rw [c]
      exact h
    · rw [show (t + 1) / 24 = t / 24 + 1 by omega]
      exact XI_up h
theorem XI_at {na co : Nat → Nat} {k : Nat} (hP : PN na co) (i s : Nat) (hs : s ≤ 24) : XI na k (xt na co k (24 * i + s)) i := by
  by_cases c : s = 24
  · subst c
    have h := XI_one (s := 23) (co := co) hP (by omega) (show XI na k (xt na co k (24 * i + 23)) i by
      have := XI_t (k := k) hP (24 * i + 23)
      rw [show (24 * i + 23) / 24 = i by omega] at this
      exact this)
    rw [← xt_succ na co k i (by omega)] at h
    exact h
  · have := XI_t (k := k) hP (24 * i + s)
    rw [show (24 * i + s) / 24 = i by omega] at this
    exact this
theorem xd_le {na : Nat → Nat} {k i j : Nat} {X : Nat × (Nat → Nat × Nat) × (Nat → Nat × Nat × Nat) × Bool} (hna : ∀ t, t < 4 → na t ≤ 5) (h : XI na k X i) (hj : j < xn X) : xd X j ≤ 40 := by
  have h1 := h.2.2.2.2.2.2.2.2.2 j hj
  have h2 := (h.2.2.2.1 j hj).2.2
  have a0 := h2 0 (by omega)
  have a1 := h2 1 (by omega)
  have a2 := h2 2 (by omega)
  have a3 := h2 3 (by omega)
  have b0 := hna 0 (by omega)
  have b1 := hna 1 (by omega)
  have b2 := hna 2 (by omega)
  have b3 := hna 3 (by omega)
  simp only [dsum] at h1
  simp only [Nat.mul_zero, Nat.add_zero, Nat.mul_one] at a0 a1
  rw [show 40 + 3 * 2 = 46 from rfl] at a2
  rw [show 40 + 3 * 3 = 49 from rfl] at a3
  rw [show 40 + 3 = 43 from rfl] at a1
  omega
/-- nothing goes on past the last state, or when it is crowded -/
theorem xt_stop {na co : Nat → Nat} {k t : Nat} (h : xc (xt na co k t) = true ∨ xn (xt na co k t) ≤ t / 24) : ∀ u, t ≤ u → xt na co k u = xt na co k t := by
  intro u hu
  induction u with
  | zero =>
    rw [show t = 0 by omega]
  | succ u ih =>
    by_cases e : t = u + 1
    · rw [e]
    · have e1 := ih (by omega)
      rw [xt, e1]
      simp only [xone]
      rw [if_pos]
      rcases h with h | h
      · exact Or.inl h
      · exact Or.inr (Nat.le_trans h (Nat.div_le_div_right (by omega)))
/-- steps from se on do nothing -/
theorem xt_se {na co : Nat → Nat} {k i s : Nat} {x : Nat × Nat} (hk : k < 4) (hi : i < xn (xt na co k (24 * i + s))) (hx : xq (xt na co k (24 * i + s)) i = x) (hs : se k x ≤ s) : ∀ u, s ≤ u → u ≤ 24 → xt na co k (24 * i + u) = xt na co k (24 * i + s) := by
  intro u h1 h2
  induction u with
  | zero =>
    rw [show s = 0 by omega]
  | succ u ih =>
    by_cases e : s = u + 1
    · rw [e]
    · rw [xt_succ na co k i (by omega), ih (by omega) (by omega)]
      simp only [xone]
      split
      · rfl
      · rw [hx, stp_none hk (by omega) (by omega)]
