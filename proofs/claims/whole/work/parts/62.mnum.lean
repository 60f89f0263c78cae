/-! the machine's small methods, in numbers -/
theorem s_bitsAt {Post : Int32 → Int32 → Int64 → Int64 → Int64 → Int64 → (Nat → Int32) → (Nat → Int32) → Prop} {mki : Int32} {M sh k : Nat} {mbu mnm mnb : Int64} {pc pl : Nat → Int32} {m : Int32} (hM : M < 2 ^ 63) (hs : sh < 64) (hk : k ≤ 32) (hm : m.toBitVec.toNat = 2 ^ k - 1) (h : Post (nI (FD M sh k)) mki (lN M) mbu mnm mnb pc pl) : wp_MA_bitsAt Post mki (lN M) mbu mnm mnb pc pl (nI sh) m := by
  rw [wp_MA_bitsAt, jl_get (by omega) hs hk hm]
  exact h
theorem s_doneShift {Post : Int32 → Prop} {t : Nat} (h : Post (nI (40 + 3 * t))) : wp_MA_doneShift Post (nI t) := by
  rw [wp_MA_doneShift, show (3 : Int32) = nI 3 from rfl, show (40 : Int32) = nI 40 from rfl, pk_mul, nI_add]
  exact h
theorem s_placeShift {Post : Int32 → Prop} {p : Nat} (hp : p < 4) (h : Post (nI (2 * (3 - p)))) : wp_MA_placeShift Post (nI p) := by
  rw [wp_MA_placeShift, show (3 : Int32) = nI 3 from rfl, show (2 : Int32) = nI 2 from rfl, pk_sub (by omega), pk_mul]
  exact h
theorem s_registerShift {Post : Int32 → Prop} {t r : Nat} (ht : t < 4) (hr : r < 4) (h : Post (nI (2 * (19 - 4 * t - r)))) : wp_MA_registerShift Post (nI t) (nI r) := by
  rw [wp_MA_registerShift, show (19 : Int32) = nI 19 from rfl, show (2 : Int32) = nI 2 from rfl, show (4 : Int32) = nI 4 from rfl, pk_mul, pk_sub (by omega), pk_sub (by omega), pk_mul]
  exact h
theorem s_entriesOf {Post : Int32 → Int32 → Int64 → Int64 → Int64 → Int64 → (Nat → Int32) → (Nat → Int32) → Prop} {mki : Int32} {B b : Nat} {mme mnm mnb : Int64} {pc pl : Nat → Int32} (hB : B < 2 ^ 63) (hb : b < 4) (h : Post (nI (FD B (15 * b) 15)) mki mme (lN B) mnm mnb pc pl) : wp_MA_entriesOf Post mki mme (lN B) mnm mnb pc pl (nI b) := by
  rw [wp_MA_entriesOf, show (15 : Int32) = nI 15 from rfl, pk_mul, Nat.mul_comm b 15, jl_get (k := 15) (by omega) (by omega) (by decide) (by decide)]
  exact h
theorem s_setDigit {Post : Int32 → Int64 → Int64 → Int64 → Int64 → (Nat → Int32) → (Nat → Int32) → Prop} {mki : Int32} {N sh d : Nat} {mme mbu mnb : Int64} {pc pl : Nat → Int32} (hN : N < 2 ^ 63) (hs : sh + 2 ≤ 63) (hd : d < 4) (h : Post mki mme mbu (lN (FS N sh 2 d)) mnb pc pl) : wp_MA_setDigit Post mki mme mbu (lN N) mnb pc pl (nI sh) (nI d) := by
  rw [wp_MA_setDigit]
  intro x1 e1
  rw [show (3 : Int64) = lN (2 ^ 2 - 1) from rfl, nI_l (show d < 2 ^ 31 by omega), jl_set hN hs (show d < 2 ^ 2 by omega)] at e1
  rw [e1]
  exact h
theorem s_setEntries {Post : Int32 → Int64 → Int64 → Int64 → Int64 → (Nat → Int32) → (Nat → Int32) → Prop} {mki : Int32} {B b E : Nat} {mme mnm mnb : Int64} {pc pl : Nat → Int32} (hB : B < 2 ^ 63) (hb : b < 4) (hE : E < 32768) (h : Post mki mme (lN B) mnm (lN (FS B (15 * b) 15 E)) pc pl) : wp_MA_setEntries Post mki mme (lN B) mnm mnb pc pl (nI b) (nI E) := by
  rw [wp_MA_setEntries]
  intro x1 e1 x2 e2
  rw [show (15 : Int32) = nI 15 from rfl, pk_mul, Nat.mul_comm b 15] at e1
  rw [e1, show (32767 : Int64) = lN (2 ^ 15 - 1) from rfl, nI_l (show E < 2 ^ 31 by omega), jl_set hB (show 15 * b + 15 ≤ 63 by omega) (show E < 2 ^ 15 by omega)] at e2
  rw [e2]
  exact h
/-- entry i of a buffer's 15 bits -/
def en5 (E i : Nat) : Nat := E / 2 ^ (5 * i) % 32
theorem en5_lt (E i : Nat) : en5 E i < 32 := Nat.mod_lt _ (by decide)
/-- the number of the newest entry for a place -/
def nw5 (E p : Nat) : Option Nat := if en5 E 2 / 4 = 4 + p then some (en5 E 2 % 4) else if en5 E 1 / 4 = 4 + p then some (en5 E 1 % 4) else if en5 E 0 / 4 = 4 + p then some (en5 E 0 % 4) else none
theorem sh5 {E : Nat} (hE : E < 32768) {s : Int32} (k : Nat) (hs : (s.toBitVec.smod 32).toNat = k) : nI E >>> s = nI (E / 2 ^ k) := pk_shrN (by omega) s k hs
theorem m31 {x : Nat} : nI x &&& 31 = nI (x % 32) := nI_mask (k := 5) (by decide) (by decide)
theorem en5_at {E : Nat} (hE : E < 32768) {s : Int32} (i : Nat) (hs : (s.toBitVec.smod 32).toNat = 5 * i) : (nI E >>> s) &&& 31 = nI (en5 E i) := by
  rw [sh5 hE _ hs, m31]
  rfl
theorem q4 {x : Nat} (hx : x < 32) : nI x / 4 = nI (x / 4) := pk_div (by omega) (by decide) (by decide)
theorem r4 {x : Nat} (hx : x < 32) : nI x - nI x / 4 * 4 = nI (x % 4) := pk_rem (by omega) (by decide) (by decide)
theorem s_newestFor {Post : Int32 → Prop} {E p : Nat} (hE : E < 32768) (hp : p < 4) (h : Post (match nw5 E p with | some v => nI v | none => -1)) : wp_MA_newestFor Post (nI E) (nI p) := by
  have key : ∀ i : Nat, (nI (en5 E i) / 4 = 4 + nI p) ↔ en5 E i / 4 = 4 + p := by
    intro i
    have := en5_lt E i
    rw [q4 this, show (4 : Int32) = nI 4 from rfl, nI_add]
    exact nI_eq (by omega) (by omega)
  rw [wp_MA_newestFor]
  refine ⟨4, ?_⟩
  rw [wp_MA_newestFor_2]
  refine ⟨fun c => absurd c (by decide), fun _ x1 e1 => ?_⟩
  rw [en5_at hE 2 (by decide)] at e1
  subst e1
  refine ⟨fun c2 x2 e2 => ?_, fun c2 => ?_⟩
  · subst e2
    rw [key] at c2
    rw [wp_MA_newestFor_2]
    refine ⟨fun c => absurd c (by decide), fun _ x1 e1 => ?_⟩
    rw [en5_at hE 1 (by decide)] at e1
    subst e1
    refine ⟨fun c1 x2 e2 => ?_, fun c1 => ?_⟩
    · subst e2
      rw [key] at c1
      rw [wp_MA_newestFor_2]
      refine ⟨fun c => absurd c (by decide), fun _ x1 e1 => ?_⟩
      rw [en5_at hE 0 (by decide)] at e1
      subst e1
      refine ⟨fun c0 x2 e2 => ?_, fun c0 => ?_⟩
      · subst e2
        rw [key] at c0
        rw [wp_MA_newestFor_2]
        refine ⟨fun _ => ?_, fun c => absurd (by decide) c⟩
        simpa [nw5, c2, c1, c0] using h
      · rw [key] at c0
        rw [r4 (en5_lt _ _)]
        simpa [nw5, c2, c1, c0] using h
    · rw [key] at c1
      rw [r4 (en5_lt _ _)]
      simpa [nw5, c2, c1] using h
  · rw [key] at c2
    rw [r4 (en5_lt _ _)]
    simpa [nw5, c2] using h
