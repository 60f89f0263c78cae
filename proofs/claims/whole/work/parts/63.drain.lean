/-! a buffer's 15 bits: how many entries, one more, one less -/
def sz5 (E : Nat) : Nat := if E = 0 then 0 else if E / 32 = 0 then 1 else if E / 1024 = 0 then 2 else 3
/-- entries stand without a gap, and each is 16 + 4 place + number -/
def V5 (E : Nat) : Prop := E < 32768 ∧ (E / 1 ≠ 0 → 16 ≤ en5 E 0) ∧ (E / 32 ≠ 0 → 16 ≤ en5 E 1) ∧ (E / 1024 ≠ 0 → 16 ≤ en5 E 2)
def ad5 (E x : Nat) : Nat := E + x * 2 ^ (5 * sz5 E)
def dr5 (E i : Nat) : Nat := E % 2 ^ (5 * i) + E / 2 ^ (5 * i + 5) * 2 ^ (5 * i)
theorem nI_or (a b : Nat) : nI a ||| nI b = nI (a ||| b) := by
  apply Int32.toBitVec_inj.mp
  rw [Int32.toBitVec_or]
  show BitVec.ofNat 32 a ||| BitVec.ofNat 32 b = BitVec.ofNat 32 (a ||| b)
  apply BitVec.eq_of_getLsbD_eq
  intro i hi
  rw [BitVec.getLsbD_or, BitVec.getLsbD_ofNat, BitVec.getLsbD_ofNat, BitVec.getLsbD_ofNat, Nat.testBit_or]
  simp [hi]
theorem or5 {a x k : Nat} (ha : a < 2 ^ k) {s : Int32} (hs : (s.toBitVec.smod 32).toNat = k) (hx : x * 2 ^ k < 2 ^ 32) : nI a ||| (nI x <<< s) = nI (a + x * 2 ^ k) := by
  rw [pk_shlN s k hs hx, nI_or, Nat.or_comm, Nat.mul_comm x, ← Nat.two_pow_add_eq_or_of_lt ha, Nat.add_comm]
theorem s_withNewest {Post : Int32 → Prop} {E x : Nat} (hE : E < 32768) (hx : x < 32) (h : Post (if sz5 E < 3 then nI (ad5 E x) else nI E)) : wp_MA_withNewest Post (nI E) (nI x) := by
  have z : ∀ y : Nat, y < 32768 → (nI y = 0 ↔ y = 0) := fun y hy => by
    rw [← nI_0]
    exact nI_eq (by omega) (by omega)
  rw [wp_MA_withNewest]
  refine ⟨4, ?_⟩
  rw [wp_MA_withNewest_2]
  refine ⟨fun c => absurd c (by decide), fun _ => ?_⟩
  rw [sh5 hE 0 (by decide), z _ (by omega)]
  refine ⟨fun c0 x1 e1 => ?_, fun c0 => ?_⟩
  · subst e1
    rw [wp_MA_withNewest_2]
    refine ⟨fun c => absurd c (by decide), fun _ => ?_⟩
    rw [sh5 hE 5 (by decide), z _ (by omega)]
    refine ⟨fun c1 x1 e1 => ?_, fun c1 => ?_⟩
    · subst e1
      rw [wp_MA_withNewest_2]
      refine ⟨fun c => absurd c (by decide), fun _ => ?_⟩
      rw [sh5 hE 10 (by decide), z _ (by omega)]
      refine ⟨fun c2 x1 e1 => ?_, fun c2 => ?_⟩
      · subst e1
        rw [wp_MA_withNewest_2]
        refine ⟨fun _ => ?_, fun c => absurd (by decide) c⟩
        have hs : sz5 E = 3 := by
          simp only [sz5]
          rw [if_neg (by omega), if_neg (by omega), if_neg (by omega)]
        rw [hs] at h
        exact h
      · have hs : sz5 E = 2 := by
          simp only [sz5]
          rw [if_neg (by omega), if_neg (by omega), if_pos (by omega)]
        rw [or5 (k := 10) (by omega) (by decide) (by omega)]
        rw [if_pos (by omega), ad5, hs] at h
        exact h
    · have hs : sz5 E = 1 := by
        simp only [sz5]
        rw [if_neg (by omega), if_pos (by omega)]
      rw [or5 (k := 5) (by omega) (by decide) (by omega)]
      rw [if_pos (by omega), ad5, hs] at h
      exact h
  · have hs : sz5 E = 0 := by
      simp only [sz5]
      rw [if_pos (by omega)]
    rw [or5 (k := 0) (by omega) (by decide) (by omega)]
    rw [if_pos (by omega), ad5, hs] at h
    exact h
/-- does entry i serve a drain of the place q (none: any) -/
def ht5 (E i : Nat) (q : Option Nat) : Prop := match q with | none => True | some p => en5 E i / 4 = 4 + p
/-- which entry a drain takes -/
noncomputable def fi5 (E : Nat) (q : Option Nat) : Option Nat :=
  if E = 0 then none else
  haveI := Classical.propDecidable (ht5 E 0 q)
  haveI := Classical.propDecidable (ht5 E 1 q)
  haveI := Classical.propDecidable (ht5 E 2 q)
  if ht5 E 0 q then some 0 else if E / 32 = 0 then none else if ht5 E 1 q then some 1 else if E / 1024 = 0 then none else if ht5 E 2 q then some 2 else none
def qI (q : Option Nat) : Int32 := match q with | none => -1 | some p => nI p
theorem s_drain {Post : Int32 → Int32 → Int64 → Int64 → Int64 → Int64 → (Nat → Int32) → (Nat → Int32) → Prop} {mki : Int32} {M B b : Nat} {pc pl : Nat → Int32} {q : Option Nat} (hM : M < 2 ^ 63) (hB : B < 2 ^ 63) (hb : b < 4) (hq : ∀ p, q = some p → p < 4) (hV : V5 (FD B (15 * b) 15))
    (h : match fi5 (FD B (15 * b) 15) q with | none => Post 0 mki (lN M) (lN B) (lN M) (lN B) pc pl | some i => Post 1 mki (lN M) (lN B) (lN (FS M (2 * (3 - (en5 (FD B (15 * b) 15) i / 4 - 4))) 2 (en5 (FD B (15 * b) 15) i % 4))) (lN (FS B (15 * b) 15 (dr5 (FD B (15 * b) 15) i))) pc pl) :
    wp_MA_drain Post mki (lN M) (lN B) (lN M) (lN B) pc pl (nI b) (qI q) := by
  generalize hEe : FD B (15 * b) 15 = E at hV h
  have hE : E < 32768 := hV.1
  have z : ∀ y : Nat, y < 32768 → (nI y = 0 ↔ y = 0) := fun y hy => by
    rw [← nI_0]
    exact nI_eq (by omega) (by omega)
  -- the end of the loop: entry i is taken
  have fin : ∀ (i : Nat) (L4 : Int32), i < 3 → (((L4 * 5) &&& 31).toBitVec.smod 32).toNat = 5 * i → (((1 : Int32) <<< ((L4 * 5) &&& 31)) - 1).toBitVec.toNat = 2 ^ (5 * i) - 1 → 16 ≤ en5 E i → Post 1 mki (lN M) (lN B) (lN (FS M (2 * (3 - (en5 E i / 4 - 4))) 2 (en5 E i % 4))) (lN (FS B (15 * b) 15 (dr5 E i))) pc pl →
      wp_MA_drain_56 Post mki (lN M) (lN B) (lN M) (lN B) pc pl (nI b) (nI E) L4 (nI (E / 2 ^ (5 * i))) (nI (en5 E i)) (nI (en5 E i / 4 - 4)) := by
    intro i L4 hi h1 h2 h3 h4
    have he := en5_lt E i
    have hdiv : E / 2 ^ (5 * i) / 2 ^ 5 * 2 ^ (5 * i) ≤ E := by
      have a1 := Nat.div_mul_le_self E (2 ^ (5 * i))
      have a2 := Nat.div_le_self (E / 2 ^ (5 * i)) (2 ^ 5)
      exact Nat.le_trans (Nat.mul_le_mul_right _ a2) a1
    have hdr : dr5 E i < 32768 := by
      rcases (show i = 0 ∨ i = 1 ∨ i = 2 by omega) with rfl | rfl | rfl <;> simp only [dr5] <;> omega
    rw [wp_MA_drain_56]
    intro x13 e13
    rw [nI_mask (k := 5 * i) (by omega) h2] at e13
    subst e13
    rw [pk_shrN (n := E / 2 ^ (5 * i)) (Nat.lt_of_le_of_lt (Nat.div_le_self _ _) (by omega)) _ 5 (by decide), or5 (k := 5 * i) (Nat.mod_lt _ (Nat.two_pow_pos _)) h1 (by omega)]
    rw [show E % 2 ^ (5 * i) + E / 2 ^ (5 * i) / 2 ^ 5 * 2 ^ (5 * i) = dr5 E i by rw [dr5, Nat.div_div_eq_div_mul, ← Nat.pow_add]]
    refine s_setEntries hB hb hdr ?_
    refine s_placeShift (by omega) ?_
    rw [r4 he]
    exact s_setDigit hM (by omega) (Nat.mod_lt _ (by decide)) h4
  have ent : ∀ i : Nat, 16 ≤ en5 E i → nI (en5 E i) / 4 - 4 = nI (en5 E i / 4 - 4) := fun i h3 => by
    have he := en5_lt E i
    rw [q4 he, show (4 : Int32) = nI 4 from rfl, pk_sub (by omega)]
  have hitA : qI q = -1 ↔ q = none := by
    cases q with
    | none => simp [qI]
    | some p =>
      have := hq p rfl
      simp only [qI, reduceCtorEq, iff_false]
      intro e
      have e2 := congrArg Int32.toInt e
      rw [nI_toInt (by omega)] at e2
      have e3 : ((-1 : Int32)).toInt = -1 := by decide
      omega
  have hitB : ∀ (i : Nat), 16 ≤ en5 E i → q ≠ none → (nI (en5 E i / 4 - 4) = qI q ↔ ht5 E i q) := by
    intro i h3 hn
    have he := en5_lt E i
    cases q with
    | none => exact absurd rfl hn
    | some p =>
      have := hq p rfl
      simp only [qI, ht5]
      rw [nI_eq (by omega) (by omega)]
      omega
  rw [wp_MA_drain]
  refine s_entriesOf hB hb ?_
  rw [hEe]
  refine ⟨4, ?_⟩
  rw [wp_MA_drain_9]
  refine ⟨fun c => absurd c (by decide), fun _ x9 e9 => ?_⟩
  rw [sh5 hE 0 (by decide)] at e9
  subst e9
  rw [z _ (by omega)]
  refine ⟨fun c0 x10 e10 x11 e11 => ?_, fun c0 => ?_⟩
  · have h3 := hV.2.1 (by omega)
    rw [m31, show E / 2 ^ 0 % 32 = en5 E 0 from rfl] at e10
    subst e10
    rw [ent 0 h3] at e11
    subst e11
    refine ⟨fun ca => ?_, fun ca => ⟨fun cb x12 e12 => ?_, fun cb => ?_⟩⟩
    · refine fin 0 0 (by decide) (by decide) (by decide) h3 ?_
      have hf : fi5 E q = some 0 := by
        rw [hitA] at ca
        subst ca
        simp only [fi5]
        rw [if_neg (by omega), if_pos (show ht5 E 0 none from trivial)]
      rw [hf] at h
      exact h
    · subst e12
      have hn : q ≠ none := fun e => ca (hitA.mpr e)
      rw [hitB 0 h3 hn] at cb
      rw [wp_MA_drain_9]
      refine ⟨fun c => absurd c (by decide), fun _ x9 e9 => ?_⟩
      rw [sh5 hE 5 (by decide)] at e9
      subst e9
      rw [z _ (by omega)]
      refine ⟨fun c1 x10 e10 x11 e11 => ?_, fun c1 => ?_⟩
      · have h3 := hV.2.2.1 (by omega)
        rw [m31, show E / 2 ^ 5 % 32 = en5 E 1 from rfl] at e10
        subst e10
        rw [ent 1 h3] at e11
        subst e11
        refine ⟨fun cc => absurd cc ca, fun _ => ⟨fun cd x12 e12 => ?_, fun cd => ?_⟩⟩
        · subst e12
          rw [hitB 1 h3 hn] at cd
          rw [wp_MA_drain_9]
          refine ⟨fun c => absurd c (by decide), fun _ x9 e9 => ?_⟩
          rw [sh5 hE 10 (by decide)] at e9
          subst e9
          rw [z _ (by omega)]
          refine ⟨fun c2 x10 e10 x11 e11 => ?_, fun c2 => ?_⟩
          · have h3 := hV.2.2.2 (by omega)
            rw [m31, show E / 2 ^ 10 % 32 = en5 E 2 from rfl] at e10
            subst e10
            rw [ent 2 h3] at e11
            subst e11
            refine ⟨fun cc => absurd cc ca, fun _ => ⟨fun ce x12 e12 => ?_, fun ce => ?_⟩⟩
            · subst e12
              rw [hitB 2 h3 hn] at ce
              rw [wp_MA_drain_9]
              refine ⟨fun _ => ?_, fun c => absurd (by decide) c⟩
              have hf : fi5 E q = none := by
                simp only [fi5]
                rw [if_neg (by omega), if_neg cb, if_neg (by omega), if_neg cd, if_neg (by omega), if_neg ce]
              rw [hf] at h
              exact h
            · rw [hitB 2 h3 hn] at ce
              refine fin 2 _ (by decide) (by decide) (by decide) h3 ?_
              have hf : fi5 E q = some 2 := by
                simp only [fi5]
                rw [if_neg (by omega), if_neg cb, if_neg (by omega), if_neg cd, if_neg (by omega), if_pos ce]
              rw [hf] at h
              exact h
          · have hf : fi5 E q = none := by
              simp only [fi5]
              rw [if_neg (by omega), if_neg cb, if_neg (by omega), if_neg cd, if_pos (by omega)]
            rw [hf] at h
            exact h
        · rw [hitB 1 h3 hn] at cd
          refine fin 1 _ (by decide) (by decide) (by decide) h3 ?_
          have hf : fi5 E q = some 1 := by
            simp only [fi5]
            rw [if_neg (by omega), if_neg cb, if_neg (by omega), if_pos cd]
          rw [hf] at h
          exact h
      · have hf : fi5 E q = none := by
          simp only [fi5]
          rw [if_neg (by omega), if_neg cb, if_pos (by omega)]
        rw [hf] at h
        exact h
    · have hn : q ≠ none := fun e => ca (hitA.mpr e)
      rw [hitB 0 h3 hn] at cb
      refine fin 0 0 (by decide) (by decide) (by decide) h3 ?_
      have hf : fi5 E q = some 0 := by
        simp only [fi5]
        rw [if_neg (by omega), if_pos cb]
      rw [hf] at h
      exact h
  · have hf : fi5 E q = none := by
      simp only [fi5]
      rw [if_pos (by omega)]
    rw [hf] at h
    exact h
