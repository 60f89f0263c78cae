/-! the findings' arrays: levels of the trail and of the ends -/
def tl (n : Nat) : Nat := if n ≤ 256 then 0 else if n ≤ 2048 then 1 else 2
def TS (a : Nat) : Nat := if a = 0 then 0 else if a = 1 then 2048 else 14048
def el (c : Nat) : Nat := if c ≤ 16 then 0 else if c ≤ 128 then 1 else if c ≤ 1024 then 2 else if c ≤ 8192 then 3 else 4
def E1 (e : Nat) : Nat := if e = 0 then 16 else if e = 1 then 128 else if e = 2 then 1024 else if e = 3 then 8192 else 12000
def ES (e : Nat) : Nat := if e = 0 then 0 else if e = 1 then 128 else if e = 2 then 1152 else if e = 3 then 9344 else 21344
theorem tl_c (n : Nat) : (tl n = 0 ∧ n ≤ 256) ∨ (tl n = 1 ∧ 256 < n ∧ n ≤ 2048) ∨ (tl n = 2 ∧ 2048 < n) := by
  simp only [tl]
  repeat' split
  all_goals omega
theorem el_c (n : Nat) : (el n = 0 ∧ n ≤ 16) ∨ (el n = 1 ∧ 16 < n ∧ n ≤ 128) ∨ (el n = 2 ∧ 128 < n ∧ n ≤ 1024) ∨ (el n = 3 ∧ 1024 < n ∧ n ≤ 8192) ∨ (el n = 4 ∧ 8192 < n) := by
  simp only [el]
  repeat' split
  all_goals omega
theorem N1_c {a : Nat} (h : a ≤ 2) : (a = 0 ∧ N1 a = 256 ∧ TS a = 0 ∧ RS a = 0) ∨ (a = 1 ∧ N1 a = 2048 ∧ TS a = 2048 ∧ RS a = 8192) ∨ (a = 2 ∧ N1 a = 12000 ∧ TS a = 14048 ∧ RS a = 64960) := by
  rcases (show a = 0 ∨ a = 1 ∨ a = 2 by omega) with rfl | rfl | rfl
  · exact Or.inl ⟨rfl, rfl, rfl, rfl⟩
  · exact Or.inr (Or.inl ⟨rfl, rfl, rfl, rfl⟩)
  · exact Or.inr (Or.inr ⟨rfl, rfl, rfl, rfl⟩)
theorem E1_c {e : Nat} (h : e ≤ 4) : (e = 0 ∧ E1 e = 16 ∧ ES e = 0) ∨ (e = 1 ∧ E1 e = 128 ∧ ES e = 128) ∨ (e = 2 ∧ E1 e = 1024 ∧ ES e = 1152) ∨ (e = 3 ∧ E1 e = 8192 ∧ ES e = 9344) ∨ (e = 4 ∧ E1 e = 12000 ∧ ES e = 21344) := by
  rcases (show e = 0 ∨ e = 1 ∨ e = 2 ∨ e = 3 ∨ e = 4 by omega) with rfl | rfl | rfl | rfl | rfl
  · exact Or.inl ⟨rfl, rfl, rfl⟩
  · exact Or.inr (Or.inl ⟨rfl, rfl, rfl⟩)
  · exact Or.inr (Or.inr (Or.inl ⟨rfl, rfl, rfl⟩))
  · exact Or.inr (Or.inr (Or.inr (Or.inl ⟨rfl, rfl, rfl⟩)))
  · exact Or.inr (Or.inr (Or.inr (Or.inr ⟨rfl, rfl, rfl⟩)))
/-- the trail holds from where and by which step -/
def TI (a n : Nat) (tr : Nat → Nat × Nat × Nat) (m1 : Nat) (ftr : Nat → Int32) (sc : Int32) : Prop :=
  a ≤ 2 ∧ tl n ≤ a ∧ m1 = N1 a ∧ sc = nI n ∧ ∀ j, j < n → ftr j = nI (32 * (tr j).1 + (tr j).2.1)
theorem s_addState {Post : Int32 → Int32 → Int32 → Int32 → Int32 → Int32 → Nat → (Nat → Int32) → Nat → (Nat → Int64) → (Nat → Int32) → Prop} {mc ms : Nat} {fr cr sc sk cc ec : Int32} {m1 : Nat} {ftr : Nat → Int32} {m2 : Nat} {fen : Nat → Int64} {fcu : Nat → Int32} {a n i s : Nat} {tr : Nat → Nat × Nat × Nat}
    (hT : TI a n tr m1 ftr sc) (hn : n < 12000) (hi : i < 12000) (hs : s < 32) (hmc : max a (tl (n + 1)) - a ≤ mc) (hms : TS (max a (tl (n + 1))) - TS a ≤ ms)
    (h : ∀ m1' ftr', m1' = N1 (max a (tl (n + 1))) → (∀ j, j < n → ftr' j = nI (32 * (tr j).1 + (tr j).2.1)) → ftr' n = nI (32 * i + s) → Post fr cr (nI (n + 1)) sk cc ec m1' ftr' m2 fen fcu) :
    wp_FI_addState Post mc ms fr cr sc sk cc ec m1 ftr m2 fen fcu (nI i) (nI s) := by
  obtain ⟨ha, htl, em1, esc, hf⟩ := hT
  subst em1 esc
  have hN := N1_lt a
  have val : (nI i <<< ((5 : Int32) &&& 31)) ||| nI s = nI (32 * i + s) := by
    rw [pk_shlN ((5 : Int32) &&& 31) 5 (by decide) (by omega), nI_or, Nat.mul_comm i, ← Nat.two_pow_add_eq_or_of_lt (show s < 2 ^ 5 by omega)]
  have fin : ∀ (m1 : Nat) (ftr : Nat → Int32) (ca sa : Nat), n < m1 → m1 < 2 ^ 20 → m1 = N1 (max a (tl (n + 1))) → (∀ j, j < n → ftr j = nI (32 * (tr j).1 + (tr j).2.1)) → ca ≤ mc → sa ≤ ms → wp_FI_addState_37 Post mc ms fr cr (nI n) sk cc ec m1 ftr m2 fen fcu (nI i) (nI s) ca sa := by
    intro m1 ftr ca sa h1 h2 h3 h4 h5 h6
    rw [wp_FI_addState_37]
    refine pk_le m1 n (fun c => by omega) (fun c => ⟨vp_in_nI h1 (by omega), fun f8 e8 x9 e9 => ⟨h5, h6, ?_⟩⟩)
    rw [nI_clamp (by omega), val] at e8
    rw [nI_1] at e9
    rw [e9]
    refine h m1 f8 h3 (fun j hj => ?_) ?_
    · rw [e8, pk_un (by omega)]
      exact h4 j hj
    · rw [e8, pk_us]
  rw [wp_FI_addState]
  refine pk_lt n (N1 a) (fun c => ?_) (fun c => ?_)
  · have e : max a (tl (n + 1)) = a := by
      rcases N1_c ha with ⟨e, e1, _⟩ | ⟨e, e1, _⟩ | ⟨e, e1, _⟩ <;> rcases tl_c (n + 1) with ⟨e', a'⟩ | ⟨e', a'⟩ | ⟨e', a'⟩ <;> rw [e'] <;> omega
    exact fin (N1 a) ftr 0 0 c (by omega) (by rw [e]) hf (by omega) (by omega)
  · have e : max a (tl (n + 1)) = a + 1 ∧ N1 a < N1 (a + 1) ∧ n < N1 (a + 1) ∧ TS (a + 1) = TS a + N1 (a + 1) ∧ a < 2 ∧ n ≤ N1 a := by
      have t1 := tl_c n
      have t2 := tl_c (n + 1)
      rcases (show a = 0 ∨ a = 1 ∨ a = 2 by omega) with rfl | rfl | rfl <;> simp only [N1, TS] at c ⊢ <;> simp at c ⊢ <;> omega
    obtain ⟨e1, e2, e3, e4, e5, e6⟩ := e
    rw [e1] at hmc hms fin
    have hN2 := N1_lt (a + 1)
    refine ⟨by omega, by omega, 1, N1 (a + 1), by omega, by omega, ?_⟩
    have hx : (if Int32.ofNat (N1 a) * 8 < 12000 then Int32.ofNat (N1 a) * 8 else (12000 : Int32)) = nI (N1 (a + 1)) := by
      rcases (show a = 0 ∨ a = 1 by omega) with rfl | rfl <;> decide
    rw [hx]
    refine s_copyI e2 (by omega) (Nat.le_refl _) (Nat.le_refl _) (fun g hg => ?_)
    exact fin (N1 (a + 1)) g _ _ e3 (by omega) rfl (fun j hj => by rw [hg j (by omega)]; exact hf j hj) (by omega) (by omega)
/-- the ends' array holds the list's numbers -/
def EI (e : Nat) (L : List Nat) (m2 : Nat) (fen : Nat → Int64) (ec : Int32) : Prop :=
  e ≤ 4 ∧ el L.length ≤ e ∧ m2 = E1 e ∧ ec = nI L.length ∧ L.length ≤ 12000 ∧ ∀ j, j < L.length → fen j = lN (L.getD j 0)
theorem s_addEnd {Post : Int32 → Int32 → Int32 → Int32 → Int32 → Int32 → Nat → (Nat → Int32) → Nat → (Nat → Int64) → (Nat → Int32) → Prop} {mc ms : Nat} {fr cr sc sk cc ec : Int32} {m1 : Nat} {ftr : Nat → Int32} {m2 : Nat} {fen : Nat → Int64} {fcu : Nat → Int32} {e i o : Nat} {L : List Nat}
    (hE : EI e L m2 fen ec) (hn : L.length < 12000) (hi : i < 12000) (ho : o < 2 ^ 40) (hmc : max e (el (L.length + 1)) - e ≤ mc) (hms : ES (max e (el (L.length + 1))) - ES e ≤ ms)
    (h : ∀ m2' fen' ec', EI (max e (el (L.length + 1))) (L ++ [o * 2 ^ 14 + i]) m2' fen' ec' → Post fr cr sc sk cc ec' m1 ftr m2' fen' fcu) :
    wp_FI_addEnd Post mc ms fr cr sc sk cc ec m1 ftr m2 fen fcu (lN o) (nI i) := by
  obtain ⟨he, hel, em2, eec, hl, hf⟩ := hE
  subst em2 eec
  have val : (lN o <<< (((14 : Int32)).toInt64 &&& 63)) ||| (nI i).toInt64 = lN (o * 2 ^ 14 + i) := by
    rw [show (14 : Int32) = nI 14 from rfl, wb_shl o (show 14 < 64 by omega), nI_l (by omega), wb_or (by omega) (by omega), Nat.mul_comm o, ← Nat.two_pow_add_eq_or_of_lt (show i < 2 ^ 14 by omega)]
  have hll : (L ++ [o * 2 ^ 14 + i]).length = L.length + 1 := by simp
  generalize hle : L.length = n at *
  have fin : ∀ (m2 : Nat) (fen : Nat → Int64) (ca sa : Nat), n < m2 → m2 < 2 ^ 20 → m2 = E1 (max e (el (n + 1))) → (∀ j, j < n → fen j = lN (L.getD j 0)) → max e (el (n + 1)) ≤ 4 → ca ≤ mc → sa ≤ ms → wp_FI_addEnd_37 Post mc ms fr cr sc sk cc (nI n) m1 ftr m2 fen fcu (lN o) (nI i) ca sa := by
    intro m2 fen ca sa h1 h2 h3 h4 h4b h5 h6
    rw [wp_FI_addEnd_37]
    refine pk_le m2 n (fun c => by omega) (fun c => ⟨vp_in_nI h1 (by omega), fun f8 e8 x9 e9 => ⟨h5, h6, ?_⟩⟩)
    rw [nI_clamp (by omega), val] at e8
    rw [nI_1] at e9
    rw [e9]
    refine h m2 f8 _ ⟨h4b, by rw [hll]; omega, h3, by rw [hll], by rw [hll]; omega, fun j hj => ?_⟩
    rw [hll] at hj
    rw [e8]
    by_cases ej : j = n
    · subst ej
      rw [pk_uLs]
      congr 1
      rw [List.getD_eq_getElem?_getD, List.getElem?_append_right (by omega), hle]
      simp
    · rw [pk_uLn ej, h4 j (by omega)]
      congr 1
      rw [List.getD_eq_getElem?_getD, List.getD_eq_getElem?_getD, List.getElem?_append_left (by omega)]
  have hE1 : E1 e < 2 ^ 20 ∧ E1 e < 2 ^ 31 := by
    rcases E1_c he with ⟨_, e1, _⟩ | ⟨_, e1, _⟩ | ⟨_, e1, _⟩ | ⟨_, e1, _⟩ | ⟨_, e1, _⟩ <;> omega
  rw [wp_FI_addEnd]
  refine pk_lt n (E1 e) (fun c => ?_) (fun c => ?_)
  · have ee : max e (el (n + 1)) = e := by
      rcases E1_c he with ⟨e0, e1, _⟩ | ⟨e0, e1, _⟩ | ⟨e0, e1, _⟩ | ⟨e0, e1, _⟩ | ⟨e0, e1, _⟩ <;> rcases el_c (n + 1) with ⟨e', a'⟩ | ⟨e', a'⟩ | ⟨e', a'⟩ | ⟨e', a'⟩ | ⟨e', a'⟩ <;> rw [e'] <;> omega
    exact fin (E1 e) fen 0 0 c (by omega) (by rw [ee]) hf (by omega) (by omega) (by omega)
  · have ee : max e (el (n + 1)) = e + 1 ∧ E1 e < E1 (e + 1) ∧ n < E1 (e + 1) ∧ ES (e + 1) = ES e + E1 (e + 1) ∧ e < 4 ∧ n ≤ E1 e := by
      have t1 := el_c n
      have t2 := el_c (n + 1)
      rcases (show e = 0 ∨ e = 1 ∨ e = 2 ∨ e = 3 ∨ e = 4 by omega) with rfl | rfl | rfl | rfl | rfl <;> simp only [E1, ES] at c ⊢ <;> simp at c ⊢ <;> omega
    obtain ⟨e1, e2, e3, e4, e5, e6⟩ := ee
    rw [e1] at hmc hms fin
    have hE2 : E1 (e + 1) < 2 ^ 20 := by
      rcases E1_c (show e + 1 ≤ 4 by omega) with ⟨_, e1, _⟩ | ⟨_, e1, _⟩ | ⟨_, e1, _⟩ | ⟨_, e1, _⟩ | ⟨_, e1, _⟩ <;> omega
    refine ⟨by omega, by omega, 1, E1 (e + 1), by omega, by omega, ?_⟩
    have hx : (if Int32.ofNat (E1 e) * 8 < 12000 then Int32.ofNat (E1 e) * 8 else (12000 : Int32)) = nI (E1 (e + 1)) := by
      rcases (show e = 0 ∨ e = 1 ∨ e = 2 ∨ e = 3 by omega) with rfl | rfl | rfl | rfl <;> decide
    rw [hx]
    refine s_copyJ e2 hE2 (Nat.le_refl _) (Nat.le_refl _) (fun g hg => ?_)
    exact fin (E1 (e + 1)) g _ _ e3 (by omega) rfl (fun j hj => by rw [hg j (by omega)]; exact hf j hj) (by omega) (by omega) (by omega)
/-- the cuts: of each one more than the fewest steps, 0 where there is none -/
def CI (g : Nat → Nat) (fcu : Nat → Int32) (cc : Int32) : Prop := (∀ c, c < 256 → fcu c = if g c = 0 then -1 else nI (g c - 1)) ∧ (∀ c, c < 256 → g c ≤ 41) ∧ cc = nI (tk g 256)
def ctN (g : Nat → Nat) (c d : Nat) : Nat → Nat := if g c = 0 then upN g c (d + 1) else g
theorem s_addCut {Post : Int32 → Int32 → Int32 → Int32 → Int32 → Int32 → Nat → (Nat → Int32) → Nat → (Nat → Int64) → (Nat → Int32) → Prop} {fr cr sc sk cc ec : Int32} {m1 : Nat} {ftr : Nat → Int32} {m2 : Nat} {fen : Nat → Int64} {fcu : Nat → Int32} {g : Nat → Nat} {c d : Nat}
    (hC : CI g fcu cc) (hc : c < 256) (hd : d ≤ 40) (h : ∀ fcu' cc', CI (ctN g c d) fcu' cc' → Post fr cr sc sk cc' ec m1 ftr m2 fen fcu') :
    wp_FI_addCut Post fr cr sc sk cc ec m1 ftr m2 fen fcu (nI c) (nI d) := by
  obtain ⟨h1, h2, h3⟩ := hC
  rw [wp_FI_addCut, nI_clamp (by omega), h1 c hc]
  refine ⟨vp_in_nI hc (by decide), ?_⟩
  by_cases e : g c = 0
  · rw [if_pos e]
    refine ⟨fun c => absurd rfl c, fun _ => ⟨vp_in_nI hc (by decide), fun f1 e1 x2 e2 => h f1 x2 ?_⟩⟩
    have hg : ctN g c d = upN g c (d + 1) := if_pos e
    rw [hg]
    refine ⟨fun j hj => ?_, fun j hj => ?_, ?_⟩
    · rw [e1]
      by_cases ej : j = c
      · subst ej
        rw [pk_us, upN_s, if_neg (by omega)]
        rfl
      · rw [pk_un ej, upN_n ej]
        exact h1 j hj
    · by_cases ej : j = c
      · subst ej
        rw [upN_s]
        omega
      · rw [upN_n ej]
        exact h2 j hj
    · rw [tk_in hc e (by omega), e2, h3, nI_1]
  · rw [if_neg e]
    have := h2 c hc
    refine ⟨fun _ => h fcu cc ?_, fun c => absurd c (nI_nem1 (by omega))⟩
    have hg : ctN g c d = g := if_neg e
    rw [hg]
    exact ⟨h1, h2, h3⟩
