/-- what OrderMachines$Findings.leastOfOne(LOrderMachines$Findings;LOrderMachines$Findings;)J leaves -/
abbrev jQ_FI_leastOfOne (dC : Nat → ClassId) (dI : Nat → Nat → Nat) (cI cJ cZ cQ : ClassId) (A : Nat → Prop) (a_fa a_facu a_fb a_fbcu : Nat) (Post : Int64 → Int32 → Int32 → Int32 → Int32 → Int32 → Int32 → Nat → (Nat → Int32) → Nat → (Nat → Int64) → (Nat → Int32) → Int32 → Int32 → Int32 → Int32 → Int32 → Int32 → Nat → (Nat → Int32) → Nat → (Nat → Int64) → (Nat → Int32) → Prop) : Array Value → State → Outcome → State → Prop := va_Ql (fun (r : Int64) (u : Int32 × Int32 × Int32 × Int32 × Int32 × Int32 × Nat × (Nat → Int32) × Nat × (Nat → Int64) × (Nat → Int32) × Int32 × Int32 × Int32 × Int32 × Int32 × Int32 × Nat × (Nat → Int32) × Nat × (Nat → Int64) × (Nat → Int32)) => Post r u.1 u.2.1 u.2.2.1 u.2.2.2.1 u.2.2.2.2.1 u.2.2.2.2.2.1 u.2.2.2.2.2.2.1 u.2.2.2.2.2.2.2.1 u.2.2.2.2.2.2.2.2.1 u.2.2.2.2.2.2.2.2.2.1 u.2.2.2.2.2.2.2.2.2.2.1 u.2.2.2.2.2.2.2.2.2.2.2.1 u.2.2.2.2.2.2.2.2.2.2.2.2.1 u.2.2.2.2.2.2.2.2.2.2.2.2.2.1 u.2.2.2.2.2.2.2.2.2.2.2.2.2.2.1 u.2.2.2.2.2.2.2.2.2.2.2.2.2.2.2.1 u.2.2.2.2.2.2.2.2.2.2.2.2.2.2.2.2.1 u.2.2.2.2.2.2.2.2.2.2.2.2.2.2.2.2.2.1 u.2.2.2.2.2.2.2.2.2.2.2.2.2.2.2.2.2.2.1 u.2.2.2.2.2.2.2.2.2.2.2.2.2.2.2.2.2.2.2.1 u.2.2.2.2.2.2.2.2.2.2.2.2.2.2.2.2.2.2.2.2.1 u.2.2.2.2.2.2.2.2.2.2.2.2.2.2.2.2.2.2.2.2.2) (fun (u : Int32 × Int32 × Int32 × Int32 × Int32 × Int32 × Nat × (Nat → Int32) × Nat × (Nat → Int64) × (Nat → Int32) × Int32 × Int32 × Int32 × Int32 × Int32 × Int32 × Nat × (Nat → Int32) × Nat × (Nat → Int64) × (Nat → Int32)) (t : State) => match u with
  | (frA, crA, scA, skA, ccA, ecA, m1A, ftrA, m2A, fenA, fcuA, frB, crB, scB, skB, ccB, ecB, m1B, ftrB, m2B, fenB, fcuB) => ∃ (a_fatr a_faen a_fbtr a_fben : Nat), jPost (dC, dI) (jT cI cJ cZ cQ) A [(a_fa, .inr (3, [.int frA, .int crA, .int scA, .int skA, .int ccA, .int ecA, .ref a_fatr, .ref a_faen, .ref a_facu])), (a_fatr, .inl (cI, m1A, .inl ftrA)), (a_faen, .inl (cJ, m2A, .inr (.inl fenA))), (a_facu, .inl (cI, 256, .inl fcuA)), (a_fb, .inr (3, [.int frB, .int crB, .int scB, .int skB, .int ccB, .int ecB, .ref a_fbtr, .ref a_fben, .ref a_fbcu])), (a_fbtr, .inl (cI, m1B, .inl ftrB)), (a_fben, .inl (cJ, m2B, .inr (.inl fenB))), (a_fbcu, .inl (cI, 256, .inl fcuB))] t) A
def wp_FI_leastOfOne_65 (Post : Int64 → Int32 → Int32 → Int32 → Int32 → Int32 → Int32 → Nat → (Nat → Int32) → Nat → (Nat → Int64) → (Nat → Int32) → Int32 → Int32 → Int32 → Int32 → Int32 → Int32 → Nat → (Nat → Int32) → Nat → (Nat → Int64) → (Nat → Int32) → Prop)  (frA crA scA skA ccA ecA : Int32) (m1A : Nat) (ftrA : Nat → Int32) (m2A : Nat) (fenA : Nat → Int64) (fcuA : Nat → Int32) (frB crB scB skB ccB ecB : Int32) (m1B : Nat) (ftrB : Nat → Int32) (m2B : Nat) (fenB : Nat → Int64) (fcuB : Nat → Int32) (L2 : Int32) : Prop :=
    wp_FI_outcomeAt (fun (r86 : Int64) (u87 : Int32) (u88 : Int32) (u89 : Int32) (u90 : Int32) (u91 : Int32) (u92 : Int32) (u93 : Nat) (u94 : Nat → Int32) (u95 : Nat) (u96 : Nat → Int64) (u97 : Nat → Int32) => Post r86 u87 u88 u89 u90 u91 u92 u93 u94 u95 u96 u97 frB crB scB skB ccB ecB m1B ftrB m2B fenB fcuB) frA crA scA skA ccA ecA m1A ftrA m2A fenA fcuA L2
def wp_FI_leastOfOne_29 (Post : Int64 → Int32 → Int32 → Int32 → Int32 → Int32 → Int32 → Nat → (Nat → Int32) → Nat → (Nat → Int64) → (Nat → Int32) → Int32 → Int32 → Int32 → Int32 → Int32 → Int32 → Nat → (Nat → Int32) → Nat → (Nat → Int64) → (Nat → Int32) → Prop) (K2 : Int32 → Int32 → Int32 → Int32 → Int32 → Int32 → Nat → (Nat → Int32) → Nat → (Nat → Int64) → (Nat → Int32) → Int32 → Int32 → Int32 → Int32 → Int32 → Int32 → Nat → (Nat → Int32) → Nat → (Nat → Int64) → (Nat → Int32) → Int32 → Prop) (frA crA scA skA ccA ecA : Int32) (m1A : Nat) (ftrA : Nat → Int32) (m2A : Nat) (fenA : Nat → Int64) (fcuA : Nat → Int32) (frB crB scB skB ccB ecB : Int32) (m1B : Nat) (ftrB : Nat → Int32) (m2B : Nat) (fenB : Nat → Int64) (fcuB : Nat → Int32) (L2 : Int32) : Prop :=
    ((L2 < ecA → ((ecB ≤ L2 → wp_FI_leastOfOne_65 Post frA crA scA skA ccA ecA m1A ftrA m2A fenA fcuA frB crB scB skB ccB ecB m1B ftrB m2B fenB fcuB L2) ∧
    (¬ ecB ≤ L2 → wp_FI_outcomeAt (fun (r1 : Int64) (u2 : Int32) (u3 : Int32) (u4 : Int32) (u5 : Int32) (u6 : Int32) (u7 : Int32) (u8 : Nat) (u9 : Nat → Int32) (u10 : Nat) (u11 : Nat → Int64) (u12 : Nat → Int32) => wp_FI_outcomeAt (fun (r15 : Int64) (u16 : Int32) (u17 : Int32) (u18 : Int32) (u19 : Int32) (u20 : Int32) (u21 : Int32) (u22 : Nat) (u23 : Nat → Int32) (u24 : Nat) (u25 : Nat → Int64) (u26 : Nat → Int32) => ((0 ≤ (lg_cmp r1 r15) → wp_FI_outcomeAt (fun (r29 : Int64) (u30 : Int32) (u31 : Int32) (u32 : Int32) (u33 : Int32) (u34 : Int32) (u35 : Int32) (u36 : Nat) (u37 : Nat → Int32) (u38 : Nat) (u39 : Nat → Int64) (u40 : Nat → Int32) => wp_FI_outcomeAt (fun (r43 : Int64) (u44 : Int32) (u45 : Int32) (u46 : Int32) (u47 : Int32) (u48 : Int32) (u49 : Int32) (u50 : Nat) (u51 : Nat → Int32) (u52 : Nat) (u53 : Nat → Int64) (u54 : Nat → Int32) => (((lg_cmp r29 r43) ≤ 0 → ∀ x57 : Int32, x57 = L2 + 1 → K2 u30 u31 u32 u33 u34 u35 u36 u37 u38 u39 u40 u44 u45 u46 u47 u48 u49 u50 u51 u52 u53 u54 x57) ∧
        (¬ (lg_cmp r29 r43) ≤ 0 → wp_FI_outcomeAt (fun (r58 : Int64) (u59 : Int32) (u60 : Int32) (u61 : Int32) (u62 : Int32) (u63 : Int32) (u64 : Int32) (u65 : Nat) (u66 : Nat → Int32) (u67 : Nat) (u68 : Nat → Int64) (u69 : Nat → Int32) => Post r58 u30 u31 u32 u33 u34 u35 u36 u37 u38 u39 u40 u59 u60 u61 u62 u63 u64 u65 u66 u67 u68 u69) u44 u45 u46 u47 u48 u49 u50 u51 u52 u53 u54 L2))) u16 u17 u18 u19 u20 u21 u22 u23 u24 u25 u26 L2) u2 u3 u4 u5 u6 u7 u8 u9 u10 u11 u12 L2) ∧
      (¬ 0 ≤ (lg_cmp r1 r15) → wp_FI_leastOfOne_65 Post u2 u3 u4 u5 u6 u7 u8 u9 u10 u11 u12 u16 u17 u18 u19 u20 u21 u22 u23 u24 u25 u26 L2))) frB crB scB skB ccB ecB m1B ftrB m2B fenB fcuB L2) frA crA scA skA ccA ecA m1A ftrA m2A fenA fcuA L2))) ∧
  (¬ L2 < ecA → wp_FI_outcomeAt (fun (r72 : Int64) (u73 : Int32) (u74 : Int32) (u75 : Int32) (u76 : Int32) (u77 : Int32) (u78 : Int32) (u79 : Nat) (u80 : Nat → Int32) (u81 : Nat) (u82 : Nat → Int64) (u83 : Nat → Int32) => Post r72 frA crA scA skA ccA ecA m1A ftrA m2A fenA fcuA u73 u74 u75 u76 u77 u78 u79 u80 u81 u82 u83) frB crB scB skB ccB ecB m1B ftrB m2B fenB fcuB L2))
def wp_FI_leastOfOne_2 (Post : Int64 → Int32 → Int32 → Int32 → Int32 → Int32 → Int32 → Nat → (Nat → Int32) → Nat → (Nat → Int64) → (Nat → Int32) → Int32 → Int32 → Int32 → Int32 → Int32 → Int32 → Nat → (Nat → Int32) → Nat → (Nat → Int64) → (Nat → Int32) → Prop)  : Nat → Int32 → Int32 → Int32 → Int32 → Int32 → Int32 → Nat → (Nat → Int32) → Nat → (Nat → Int64) → (Nat → Int32) → Int32 → Int32 → Int32 → Int32 → Int32 → Int32 → Nat → (Nat → Int32) → Nat → (Nat → Int64) → (Nat → Int32) → Int32 → Prop
  | 0, _, _, _, _, _, _, _, _, _, _, _, _, _, _, _, _, _, _, _, _, _, _, _ => False
  | n_2 + 1, frA, crA, scA, skA, ccA, ecA, m1A, ftrA, m2A, fenA, fcuA, frB, crB, scB, skB, ccB, ecB, m1B, ftrB, m2B, fenB, fcuB, L2 =>
    ((12000 ≤ L2 → Post (-1) frA crA scA skA ccA ecA m1A ftrA m2A fenA fcuA frB crB scB skB ccB ecB m1B ftrB m2B fenB fcuB) ∧
    (¬ 12000 ≤ L2 → ((L2 < ecA → wp_FI_leastOfOne_29 Post (fun (frA : Int32) (crA : Int32) (scA : Int32) (skA : Int32) (ccA : Int32) (ecA : Int32) (m1A : Nat) (ftrA : Nat → Int32) (m2A : Nat) (fenA : Nat → Int64) (fcuA : Nat → Int32) (frB : Int32) (crB : Int32) (scB : Int32) (skB : Int32) (ccB : Int32) (ecB : Int32) (m1B : Nat) (ftrB : Nat → Int32) (m2B : Nat) (fenB : Nat → Int64) (fcuB : Nat → Int32) (L2 : Int32) => wp_FI_leastOfOne_2 Post n_2 frA crA scA skA ccA ecA m1A ftrA m2A fenA fcuA frB crB scB skB ccB ecB m1B ftrB m2B fenB fcuB L2) frA crA scA skA ccA ecA m1A ftrA m2A fenA fcuA frB crB scB skB ccB ecB m1B ftrB m2B fenB fcuB L2) ∧
      (¬ L2 < ecA → ((L2 < ecB → wp_FI_leastOfOne_29 Post (fun (frA : Int32) (crA : Int32) (scA : Int32) (skA : Int32) (ccA : Int32) (ecA : Int32) (m1A : Nat) (ftrA : Nat → Int32) (m2A : Nat) (fenA : Nat → Int64) (fcuA : Nat → Int32) (frB : Int32) (crB : Int32) (scB : Int32) (skB : Int32) (ccB : Int32) (ecB : Int32) (m1B : Nat) (ftrB : Nat → Int32) (m2B : Nat) (fenB : Nat → Int64) (fcuB : Nat → Int32) (L2 : Int32) => wp_FI_leastOfOne_2 Post n_2 frA crA scA skA ccA ecA m1A ftrA m2A fenA fcuA frB crB scB skB ccB ecB m1B ftrB m2B fenB fcuB L2) frA crA scA skA ccA ecA m1A ftrA m2A fenA fcuA frB crB scB skB ccB ecB m1B ftrB m2B fenB fcuB L2) ∧
        (¬ L2 < ecB → Post (-1) frA crA scA skA ccA ecA m1A ftrA m2A fenA fcuA frB crB scB skB ccB ecB m1B ftrB m2B fenB fcuB))))))
/-- OrderMachines$Findings.leastOfOne(LOrderMachines$Findings;LOrderMachines$Findings;)J -/
def wp_FI_leastOfOne (Post : Int64 → Int32 → Int32 → Int32 → Int32 → Int32 → Int32 → Nat → (Nat → Int32) → Nat → (Nat → Int64) → (Nat → Int32) → Int32 → Int32 → Int32 → Int32 → Int32 → Int32 → Nat → (Nat → Int32) → Nat → (Nat → Int64) → (Nat → Int32) → Prop) (frA crA scA skA ccA ecA : Int32) (m1A : Nat) (ftrA : Nat → Int32) (m2A : Nat) (fenA : Nat → Int64) (fcuA : Nat → Int32) (frB crB scB skB ccB ecB : Int32) (m1B : Nat) (ftrB : Nat → Int32) (m2B : Nat) (fenB : Nat → Int64) (fcuB : Nat → Int32) : Prop :=
  (∃ n_2 : Nat, wp_FI_leastOfOne_2 Post n_2 frA crA scA skA ccA ecA m1A ftrA m2A fenA fcuA frB crB scB skB ccB ecB m1B ftrB m2B fenB fcuB 0)
set_option maxHeartbeats 4000000 in
set_option maxRecDepth 100000 in
theorem l_FI_leastOfOne_65 {p : Program} {l : Launch} {e : Env} {s : State} {m : MethodId} {args : Array Value} {below : List Frame} {meth : Method} {c : Code} {dC : Nat → ClassId} {dI : Nat → Nat → Nat} {cI cJ cZ cQ : ClassId} {a_fa a_facu a_fb a_fbcu : Nat} {A : Nat → Prop} {Post : Int64 → Int32 → Int32 → Int32 → Int32 → Int32 → Int32 → Nat → (Nat → Int32) → Nat → (Nat → Int64) → (Nat → Int32) → Int32 → Int32 → Int32 → Int32 → Int32 → Int32 → Nat → (Nat → Int32) → Nat → (Nat → Int64) → (Nat → Int32) → Prop} (C0 : jC p l s m args meth c b_FI_leastOfOne (some .long) 3 R_FI (dC, dI) cI cJ cZ cQ A)  : ∀ (frA crA scA skA ccA ecA : Int32) (m1A : Nat) (ftrA : Nat → Int32) (m2A : Nat) (fenA : Nat → Int64) (fcuA : Nat → Int32) (frB crB scB skB ccB ecB : Int32) (m1B : Nat) (ftrB : Nat → Int32) (m2B : Nat) (fenB : Nat → Int64) (fcuB : Nat → Int32) (L2 : Int32), ∀ (a_fatr a_faen a_fbtr a_fben : Nat), ∀ (H : Heap) (locs : List Loc) (ls : Array Slot), wp_FI_leastOfOne_65 Post  frA crA scA skA ccA ecA m1A ftrA m2A fenA fcuA frB crB scB skB ccB ecB m1B ftrB m2B fenB fcuB L2 → va_P (dC, dI) vwCl [(a_fa, .inr (3, [.int frA, .int crA, .int scA, .int skA, .int ccA, .int ecA, .ref a_fatr, .ref a_faen, .ref a_facu])), (a_fatr, .inl (cI, m1A, .inl ftrA)), (a_faen, .inl (cJ, m2A, .inr (.inl fenA))), (a_facu, .inl (cI, 256, .inl fcuA)), (a_fb, .inr (3, [.int frB, .int crB, .int scB, .int skB, .int ccB, .int ecB, .ref a_fbtr, .ref a_fben, .ref a_fbcu])), (a_fbtr, .inl (cI, m1B, .inl ftrB)), (a_fben, .inl (cJ, m2B, .inr (.inl fenB))), (a_fbcu, .inl (cI, 256, .inl fcuB))] H → va_D A [(a_fa, .inr (3, [.int frA, .int crA, .int scA, .int skA, .int ccA, .int ecA, .ref a_fatr, .ref a_faen, .ref a_facu])), (a_fatr, .inl (cI, m1A, .inl ftrA)), (a_faen, .inl (cJ, m2A, .inr (.inl fenA))), (a_facu, .inl (cI, 256, .inl fcuA)), (a_fb, .inr (3, [.int frB, .int crB, .int scB, .int skB, .int ccB, .int ecB, .ref a_fbtr, .ref a_fben, .ref a_fbcu])), (a_fbtr, .inl (cI, m1B, .inl ftrB)), (a_fben, .inl (cJ, m2B, .inr (.inl fenB))), (a_fbcu, .inl (cI, 256, .inl fcuB))] → va_S A s.heap H locs → lv_has ls 3 [(0, .ref a_fa), (2, .int L2)] → W p l e ({ frames := 11, cells := 0, slots := 0, locals := 171 } : Room) s m args below meth c H locs 0 0 (MQ below (jQ_FI_leastOfOne dC dI cI cJ cZ cQ A a_fa a_facu a_fb a_fbcu Post) args s 0 0 A) (F0 m 65 ls []) := by
  obtain ⟨hx, hb, hr, hml, hown, hts, hlocks, hK, hZ, hA, hst⟩ := id C0
  intro frA crA scA skA ccA ecA m1A ftrA m2A fenA fcuA frB crB scB skB ccB ecB m1B ftrB m2B fenB fcuB L2 a_fatr a_faen a_fbtr a_fben H locs ls h hP hD hS hl
  rw [wp_FI_leastOfOne_65] at h
  refine lv_aload_n hx hb d_FI_leastOfOne_65 rfl (lv_at hl 0 rfl) ?_
  refine lv_iload_n hx hb d_FI_leastOfOne_66 rfl (lv_at hl 1 rfl) ?_
  have hPc := hP.sub (ws' := [(a_fa, .inr (3, [.int frA, .int crA, .int scA, .int skA, .int ccA, .int ecA, .ref a_fatr, .ref a_faen, .ref a_facu])), (a_fatr, .inl (cI, m1A, .inl ftrA)), (a_faen, .inl (cJ, m2A, .inr (.inl fenA))), (a_facu, .inl (cI, 256, .inl fcuA))]) [0, 1, 2, 3] rfl
  have hDc := hD.sub (ws' := [(a_fa, .inr (3, [.int frA, .int crA, .int scA, .int skA, .int ccA, .int ecA, .ref a_fatr, .ref a_faen, .ref a_facu])), (a_fatr, .inl (cI, m1A, .inl ftrA)), (a_faen, .inl (cJ, m2A, .inr (.inl fenA))), (a_facu, .inl (cI, 256, .inl fcuA))]) [0, 1, 2, 3] (by decide) rfl
  have hFc := va_free (wc := [(a_fa, .inr (3, [.int frA, .int crA, .int scA, .int skA, .int ccA, .int ecA, .ref a_fatr, .ref a_faen, .ref a_facu])), (a_fatr, .inl (cI, m1A, .inl ftrA)), (a_faen, .inl (cJ, m2A, .inr (.inl fenA))), (a_facu, .inl (cI, 256, .inl fcuA))]) hD hS hA [0, 1, 2, 3] rfl
  refine va_calll (va_runV (As := [.int L2]) (rest := []) ⟨hx, hb, hml, hown, hts⟩ (c_FI_outcomeAt l dC dI cI cJ cZ cQ a_fa a_facu a_fatr a_faen H.size frA crA scA skA ccA ecA m1A ftrA m2A fenA fcuA L2 _  h) (cwV 1 hts (goodIn_app (jGl (List.forall_mem_cons.mpr ⟨mw_823, List.forall_mem_cons.mpr ⟨mw_767, List.forall_mem_cons.mpr ⟨mw_768, List.forall_mem_cons.mpr ⟨mw_6, fun _ h => absurd h List.not_mem_nil⟩⟩⟩⟩)) (jG mw_769)) rfl rfl rfl (by decide +kernel) ⟨Nat.le_of_ble_eq_true rfl, Nat.le_of_ble_eq_true rfl⟩) ⟨jPre_blind, va_recv hK hPc (ci := 3) (q0 := 0) rfl rfl, jPre_in hPc hK hDc hZ hS hFc hst⟩ rfl rfl hl.1 rfl (lv_room (Nat.le_of_ble_eq_true rfl)) d_FI_leastOfOne_67 ⟨(Nat.zero_le _), (Nat.zero_le _)⟩) hS (fun q _ h => hFc q h) hFc (fun r86 u t H1 locs ht hvm hw hB hz1 hk1 hS => ?_)
  obtain ⟨u87, u88, u89, u90, u91, u92, u93, u94, u95, u96, u97⟩ := u
  obtain ⟨q98, q99, hP1, hK1, hD1⟩ := hB
  rw [ht] at hP1
  have h := hw
  obtain ⟨hP, hD⟩ := va_join (wr := [(a_fb, .inr (3, [.int frB, .int crB, .int scB, .int skB, .int ccB, .int ecB, .ref a_fbtr, .ref a_fben, .ref a_fbcu])), (a_fbtr, .inl (cI, m1B, .inl ftrB)), (a_fben, .inl (cJ, m2B, .inr (.inl fenB))), (a_fbcu, .inl (cI, 256, .inl fcuB))]) (w1 := [(a_fa, .inr (3, [.int u87, .int u88, .int u89, .int u90, .int u91, .int u92, .ref q98, .ref q99, .ref a_facu])), (q98, .inl (cI, u93, .inl u94)), (q99, .inl (cJ, u95, .inr (.inl u96))), (a_facu, .inl (cI, 256, .inl u97))]) hP hD [0, 1, 2, 3] [4, 5, 6, 7] rfl rfl (by decide) (by decide) hk1 hFc hP1 hD1
  generalize H1 = H at hP hS ⊢
  have hP : va_P (dC, dI) vwCl [(a_fb, .inr (3, [.int frB, .int crB, .int scB, .int skB, .int ccB, .int ecB, .ref a_fbtr, .ref a_fben, .ref a_fbcu])), (a_fbtr, .inl (cI, m1B, .inl ftrB)), (a_fben, .inl (cJ, m2B, .inr (.inl fenB))), (a_fbcu, .inl (cI, 256, .inl fcuB)), (a_fa, .inr (3, [.int u87, .int u88, .int u89, .int u90, .int u91, .int u92, .ref q98, .ref q99, .ref a_facu])), (q98, .inl (cI, u93, .inl u94)), (q99, .inl (cJ, u95, .inr (.inl u96))), (a_facu, .inl (cI, 256, .inl u97))] H := hP
  have hD : va_D A [(a_fb, .inr (3, [.int frB, .int crB, .int scB, .int skB, .int ccB, .int ecB, .ref a_fbtr, .ref a_fben, .ref a_fbcu])), (a_fbtr, .inl (cI, m1B, .inl ftrB)), (a_fben, .inl (cJ, m2B, .inr (.inl fenB))), (a_fbcu, .inl (cI, 256, .inl fcuB)), (a_fa, .inr (3, [.int u87, .int u88, .int u89, .int u90, .int u91, .int u92, .ref q98, .ref q99, .ref a_facu])), (q98, .inl (cI, u93, .inl u94)), (q99, .inl (cJ, u95, .inr (.inl u96))), (a_facu, .inl (cI, 256, .inl u97))] := hD
  have hP9 := hP.sub (ws' := [(a_fa, .inr (3, [.int u87, .int u88, .int u89, .int u90, .int u91, .int u92, .ref q98, .ref q99, .ref a_facu])), (q98, .inl (cI, u93, .inl u94)), (q99, .inl (cJ, u95, .inr (.inl u96))), (a_facu, .inl (cI, 256, .inl u97)), (a_fb, .inr (3, [.int frB, .int crB, .int scB, .int skB, .int ccB, .int ecB, .ref a_fbtr, .ref a_fben, .ref a_fbcu])), (a_fbtr, .inl (cI, m1B, .inl ftrB)), (a_fben, .inl (cJ, m2B, .inr (.inl fenB))), (a_fbcu, .inl (cI, 256, .inl fcuB))]) [4, 5, 6, 7, 0, 1, 2, 3] rfl
  have hD9 := hD.sub (ws' := [(a_fa, .inr (3, [.int u87, .int u88, .int u89, .int u90, .int u91, .int u92, .ref q98, .ref q99, .ref a_facu])), (q98, .inl (cI, u93, .inl u94)), (q99, .inl (cJ, u95, .inr (.inl u96))), (a_facu, .inl (cI, 256, .inl u97)), (a_fb, .inr (3, [.int frB, .int crB, .int scB, .int skB, .int ccB, .int ecB, .ref a_fbtr, .ref a_fben, .ref a_fbcu])), (a_fbtr, .inl (cI, m1B, .inl ftrB)), (a_fben, .inl (cJ, m2B, .inr (.inl fenB))), (a_fbcu, .inl (cI, 256, .inl fcuB))]) [4, 5, 6, 7, 0, 1, 2, 3] (by decide) rfl
  exact W.lret (v := r86) hx hb hr (fun t ht hW => ⟨⟨r86, (u87, u88, u89, u90, u91, u92, u93, u94, u95, u96, u97, frB, crB, scB, skB, ccB, ecB, m1B, ftrB, m2B, fenB, fcuB), rfl, h, q98, q99, a_fbtr, a_fben, by rw [ht]; exact hP9, va_K.moved hW.alike hK, hD9⟩, hS.F ht⟩) hS.2.2 d_FI_leastOfOne_70
set_option maxHeartbeats 4000000 in
set_option maxRecDepth 100000 in
theorem l_FI_leastOfOne_29 {p : Program} {l : Launch} {e : Env} {s : State} {m : MethodId} {args : Array Value} {below : List Frame} {meth : Method} {c : Code} {dC : Nat → ClassId} {dI : Nat → Nat → Nat} {cI cJ cZ cQ : ClassId} {a_fa a_facu a_fb a_fbcu : Nat} {A : Nat → Prop} {Post : Int64 → Int32 → Int32 → Int32 → Int32 → Int32 → Int32 → Nat → (Nat → Int32) → Nat → (Nat → Int64) → (Nat → Int32) → Int32 → Int32 → Int32 → Int32 → Int32 → Int32 → Nat → (Nat → Int32) → Nat → (Nat → Int64) → (Nat → Int32) → Prop} (C0 : jC p l s m args meth c b_FI_leastOfOne (some .long) 3 R_FI (dC, dI) cI cJ cZ cQ A) (K2 : Int32 → Int32 → Int32 → Int32 → Int32 → Int32 → Nat → (Nat → Int32) → Nat → (Nat → Int64) → (Nat → Int32) → Int32 → Int32 → Int32 → Int32 → Int32 → Int32 → Nat → (Nat → Int32) → Nat → (Nat → Int64) → (Nat → Int32) → Int32 → Prop) (hK2 : ∀ (frA crA scA skA ccA ecA : Int32) (m1A : Nat) (ftrA : Nat → Int32) (m2A : Nat) (fenA : Nat → Int64) (fcuA : Nat → Int32) (frB crB scB skB ccB ecB : Int32) (m1B : Nat) (ftrB : Nat → Int32) (m2B : Nat) (fenB : Nat → Int64) (fcuB : Nat → Int32) (L2 : Int32), ∀ (a_fatr a_faen a_fbtr a_fben : Nat), ∀ (H : Heap) (locs : List Loc) (ls : Array Slot), K2 frA crA scA skA ccA ecA m1A ftrA m2A fenA fcuA frB crB scB skB ccB ecB m1B ftrB m2B fenB fcuB L2 → va_P (dC, dI) vwCl [(a_fa, .inr (3, [.int frA, .int crA, .int scA, .int skA, .int ccA, .int ecA, .ref a_fatr, .ref a_faen, .ref a_facu])), (a_fatr, .inl (cI, m1A, .inl ftrA)), (a_faen, .inl (cJ, m2A, .inr (.inl fenA))), (a_facu, .inl (cI, 256, .inl fcuA)), (a_fb, .inr (3, [.int frB, .int crB, .int scB, .int skB, .int ccB, .int ecB, .ref a_fbtr, .ref a_fben, .ref a_fbcu])), (a_fbtr, .inl (cI, m1B, .inl ftrB)), (a_fben, .inl (cJ, m2B, .inr (.inl fenB))), (a_fbcu, .inl (cI, 256, .inl fcuB))] H → va_D A [(a_fa, .inr (3, [.int frA, .int crA, .int scA, .int skA, .int ccA, .int ecA, .ref a_fatr, .ref a_faen, .ref a_facu])), (a_fatr, .inl (cI, m1A, .inl ftrA)), (a_faen, .inl (cJ, m2A, .inr (.inl fenA))), (a_facu, .inl (cI, 256, .inl fcuA)), (a_fb, .inr (3, [.int frB, .int crB, .int scB, .int skB, .int ccB, .int ecB, .ref a_fbtr, .ref a_fben, .ref a_fbcu])), (a_fbtr, .inl (cI, m1B, .inl ftrB)), (a_fben, .inl (cJ, m2B, .inr (.inl fenB))), (a_fbcu, .inl (cI, 256, .inl fcuB))] → va_S A s.heap H locs → lv_has ls 3 [(0, .ref a_fa), (1, .ref a_fb), (2, .int L2)] → W p l e ({ frames := 11, cells := 0, slots := 0, locals := 171 } : Room) s m args below meth c H locs 0 0 (MQ below (jQ_FI_leastOfOne dC dI cI cJ cZ cQ A a_fa a_facu a_fb a_fbcu Post) args s 0 0 A) (F0 m 2 ls [])) : ∀ (frA crA scA skA ccA ecA : Int32) (m1A : Nat) (ftrA : Nat → Int32) (m2A : Nat) (fenA : Nat → Int64) (fcuA : Nat → Int32) (frB crB scB skB ccB ecB : Int32) (m1B : Nat) (ftrB : Nat → Int32) (m2B : Nat) (fenB : Nat → Int64) (fcuB : Nat → Int32) (L2 : Int32), ∀ (a_fatr a_faen a_fbtr a_fben : Nat), ∀ (H : Heap) (locs : List Loc) (ls : Array Slot), wp_FI_leastOfOne_29 Post K2 frA crA scA skA ccA ecA m1A ftrA m2A fenA fcuA frB crB scB skB ccB ecB m1B ftrB m2B fenB fcuB L2 → va_P (dC, dI) vwCl [(a_fa, .inr (3, [.int frA, .int crA, .int scA, .int skA, .int ccA, .int ecA, .ref a_fatr, .ref a_faen, .ref a_facu])), (a_fatr, .inl (cI, m1A, .inl ftrA)), (a_faen, .inl (cJ, m2A, .inr (.inl fenA))), (a_facu, .inl (cI, 256, .inl fcuA)), (a_fb, .inr (3, [.int frB, .int crB, .int scB, .int skB, .int ccB, .int ecB, .ref a_fbtr, .ref a_fben, .ref a_fbcu])), (a_fbtr, .inl (cI, m1B, .inl ftrB)), (a_fben, .inl (cJ, m2B, .inr (.inl fenB))), (a_fbcu, .inl (cI, 256, .inl fcuB))] H → va_D A [(a_fa, .inr (3, [.int frA, .int crA, .int scA, .int skA, .int ccA, .int ecA, .ref a_fatr, .ref a_faen, .ref a_facu])), (a_fatr, .inl (cI, m1A, .inl ftrA)), (a_faen, .inl (cJ, m2A, .inr (.inl fenA))), (a_facu, .inl (cI, 256, .inl fcuA)), (a_fb, .inr (3, [.int frB, .int crB, .int scB, .int skB, .int ccB, .int ecB, .ref a_fbtr, .ref a_fben, .ref a_fbcu])), (a_fbtr, .inl (cI, m1B, .inl ftrB)), (a_fben, .inl (cJ, m2B, .inr (.inl fenB))), (a_fbcu, .inl (cI, 256, .inl fcuB))] → va_S A s.heap H locs → lv_has ls 3 [(0, .ref a_fa), (1, .ref a_fb), (2, .int L2)] → W p l e ({ frames := 11, cells := 0, slots := 0, locals := 171 } : Room) s m args below meth c H locs 0 0 (MQ below (jQ_FI_leastOfOne dC dI cI cJ cZ cQ A a_fa a_facu a_fb a_fbcu Post) args s 0 0 A) (F0 m 29 ls []) := by
  obtain ⟨hx, hb, hr, hml, hown, hts, hlocks, hK, hZ, hA, hst⟩ := id C0
  intro frA crA scA skA ccA ecA m1A ftrA m2A fenA fcuA frB crB scB skB ccB ecB m1B ftrB m2B fenB fcuB L2 a_fatr a_faen a_fbtr a_fben H locs ls h hP hD hS hl
  rw [wp_FI_leastOfOne_29] at h
  refine lv_iload_n hx hb d_FI_leastOfOne_29 rfl (lv_at hl 2 rfl) ?_
  refine lv_aload_n hx hb d_FI_leastOfOne_30 rfl (lv_at hl 0 rfl) ?_
  refine va_get (D := (dC, dI)) (ci := 3) (v := .int ecA) (C := R_FI) (T := T_FI) (N := 9) hx hb hts in_FI hown hK hP 0 rfl rfl 5 (by decide) (hts _ mw_137) (fun _ h9 => h9) rfl d_FI_leastOfOne_31 ?_
  refine lv_icmp_lt (tgt := 43) hx hb d_FI_leastOfOne_34 (by decide) (fun c34 => ?_) (fun c34 => ?_)
  · have h := h.1 c34
    refine lv_iload_n hx hb d_FI_leastOfOne_43 rfl (lv_at hl 2 rfl) ?_
    refine lv_aload_n hx hb d_FI_leastOfOne_44 rfl (lv_at hl 1 rfl) ?_
    refine va_get (D := (dC, dI)) (ci := 3) (v := .int ecB) (C := R_FI) (T := T_FI) (N := 9) hx hb hts in_FI hown hK hP 4 rfl rfl 5 (by decide) (hts _ mw_137) (fun _ h9 => h9) rfl d_FI_leastOfOne_45 ?_
    refine lv_icmp_ge (tgt := 65) hx hb d_FI_leastOfOne_48 (by decide) (fun c48 => ?_) (fun c48 => ?_)
    · have h := h.1 c48
      exact l_FI_leastOfOne_65 C0  frA crA scA skA ccA ecA m1A ftrA m2A fenA fcuA frB crB scB skB ccB ecB m1B ftrB m2B fenB fcuB L2 a_fatr a_faen a_fbtr a_fben H locs ls h hP hD hS (lv_sub hl [0, 2] rfl)
    · have h := h.2 c48
      refine lv_aload_n hx hb d_FI_leastOfOne_51 rfl (lv_at hl 0 rfl) ?_
      refine lv_iload_n hx hb d_FI_leastOfOne_52 rfl (lv_at hl 2 rfl) ?_
      have hPc := hP.sub (ws' := [(a_fa, .inr (3, [.int frA, .int crA, .int scA, .int skA, .int ccA, .int ecA, .ref a_fatr, .ref a_faen, .ref a_facu])), (a_fatr, .inl (cI, m1A, .inl ftrA)), (a_faen, .inl (cJ, m2A, .inr (.inl fenA))), (a_facu, .inl (cI, 256, .inl fcuA))]) [0, 1, 2, 3] rfl
      have hDc := hD.sub (ws' := [(a_fa, .inr (3, [.int frA, .int crA, .int scA, .int skA, .int ccA, .int ecA, .ref a_fatr, .ref a_faen, .ref a_facu])), (a_fatr, .inl (cI, m1A, .inl ftrA)), (a_faen, .inl (cJ, m2A, .inr (.inl fenA))), (a_facu, .inl (cI, 256, .inl fcuA))]) [0, 1, 2, 3] (by decide) rfl
      have hFc := va_free (wc := [(a_fa, .inr (3, [.int frA, .int crA, .int scA, .int skA, .int ccA, .int ecA, .ref a_fatr, .ref a_faen, .ref a_facu])), (a_fatr, .inl (cI, m1A, .inl ftrA)), (a_faen, .inl (cJ, m2A, .inr (.inl fenA))), (a_facu, .inl (cI, 256, .inl fcuA))]) hD hS hA [0, 1, 2, 3] rfl
      refine va_calll (va_runV (As := [.int L2]) (rest := []) ⟨hx, hb, hml, hown, hts⟩ (c_FI_outcomeAt l dC dI cI cJ cZ cQ a_fa a_facu a_fatr a_faen H.size frA crA scA skA ccA ecA m1A ftrA m2A fenA fcuA L2 _  h) (cwV 1 hts (goodIn_app (jGl (List.forall_mem_cons.mpr ⟨mw_823, List.forall_mem_cons.mpr ⟨mw_767, List.forall_mem_cons.mpr ⟨mw_768, List.forall_mem_cons.mpr ⟨mw_6, fun _ h => absurd h List.not_mem_nil⟩⟩⟩⟩)) (jG mw_769)) rfl rfl rfl (by decide +kernel) ⟨Nat.le_of_ble_eq_true rfl, Nat.le_of_ble_eq_true rfl⟩) ⟨jPre_blind, va_recv hK hPc (ci := 3) (q0 := 0) rfl rfl, jPre_in hPc hK hDc hZ hS hFc hst⟩ rfl rfl hl.1 rfl (lv_room (Nat.le_of_ble_eq_true rfl)) d_FI_leastOfOne_53 ⟨(Nat.zero_le _), (Nat.zero_le _)⟩) hS (fun q _ h => hFc q h) hFc (fun r1 u t H1 locs ht hvm hw hB hz1 hk1 hS => ?_)
      obtain ⟨u2, u3, u4, u5, u6, u7, u8, u9, u10, u11, u12⟩ := u
      obtain ⟨q13, q14, hP1, hK1, hD1⟩ := hB
      rw [ht] at hP1
      have h := hw
      obtain ⟨hP, hD⟩ := va_join (wr := [(a_fb, .inr (3, [.int frB, .int crB, .int scB, .int skB, .int ccB, .int ecB, .ref a_fbtr, .ref a_fben, .ref a_fbcu])), (a_fbtr, .inl (cI, m1B, .inl ftrB)), (a_fben, .inl (cJ, m2B, .inr (.inl fenB))), (a_fbcu, .inl (cI, 256, .inl fcuB))]) (w1 := [(a_fa, .inr (3, [.int u2, .int u3, .int u4, .int u5, .int u6, .int u7, .ref q13, .ref q14, .ref a_facu])), (q13, .inl (cI, u8, .inl u9)), (q14, .inl (cJ, u10, .inr (.inl u11))), (a_facu, .inl (cI, 256, .inl u12))]) hP hD [0, 1, 2, 3] [4, 5, 6, 7] rfl rfl (by decide) (by decide) hk1 hFc hP1 hD1
      generalize H1 = H at hP hS ⊢
      have hP : va_P (dC, dI) vwCl [(a_fb, .inr (3, [.int frB, .int crB, .int scB, .int skB, .int ccB, .int ecB, .ref a_fbtr, .ref a_fben, .ref a_fbcu])), (a_fbtr, .inl (cI, m1B, .inl ftrB)), (a_fben, .inl (cJ, m2B, .inr (.inl fenB))), (a_fbcu, .inl (cI, 256, .inl fcuB)), (a_fa, .inr (3, [.int u2, .int u3, .int u4, .int u5, .int u6, .int u7, .ref q13, .ref q14, .ref a_facu])), (q13, .inl (cI, u8, .inl u9)), (q14, .inl (cJ, u10, .inr (.inl u11))), (a_facu, .inl (cI, 256, .inl u12))] H := hP
      have hD : va_D A [(a_fb, .inr (3, [.int frB, .int crB, .int scB, .int skB, .int ccB, .int ecB, .ref a_fbtr, .ref a_fben, .ref a_fbcu])), (a_fbtr, .inl (cI, m1B, .inl ftrB)), (a_fben, .inl (cJ, m2B, .inr (.inl fenB))), (a_fbcu, .inl (cI, 256, .inl fcuB)), (a_fa, .inr (3, [.int u2, .int u3, .int u4, .int u5, .int u6, .int u7, .ref q13, .ref q14, .ref a_facu])), (q13, .inl (cI, u8, .inl u9)), (q14, .inl (cJ, u10, .inr (.inl u11))), (a_facu, .inl (cI, 256, .inl u12))] := hD
      refine lv_aload_n hx hb d_FI_leastOfOne_56 rfl (lv_at hl 1 rfl) ?_
      refine lv_iload_n hx hb d_FI_leastOfOne_57 rfl (lv_at hl 2 rfl) ?_
      have hPc := hP.sub (ws' := [(a_fb, .inr (3, [.int frB, .int crB, .int scB, .int skB, .int ccB, .int ecB, .ref a_fbtr, .ref a_fben, .ref a_fbcu])), (a_fbtr, .inl (cI, m1B, .inl ftrB)), (a_fben, .inl (cJ, m2B, .inr (.inl fenB))), (a_fbcu, .inl (cI, 256, .inl fcuB))]) [0, 1, 2, 3] rfl
      have hDc := hD.sub (ws' := [(a_fb, .inr (3, [.int frB, .int crB, .int scB, .int skB, .int ccB, .int ecB, .ref a_fbtr, .ref a_fben, .ref a_fbcu])), (a_fbtr, .inl (cI, m1B, .inl ftrB)), (a_fben, .inl (cJ, m2B, .inr (.inl fenB))), (a_fbcu, .inl (cI, 256, .inl fcuB))]) [0, 1, 2, 3] (by decide) rfl
      have hFc := va_free (wc := [(a_fb, .inr (3, [.int frB, .int crB, .int scB, .int skB, .int ccB, .int ecB, .ref a_fbtr, .ref a_fben, .ref a_fbcu])), (a_fbtr, .inl (cI, m1B, .inl ftrB)), (a_fben, .inl (cJ, m2B, .inr (.inl fenB))), (a_fbcu, .inl (cI, 256, .inl fcuB))]) hD hS hA [0, 1, 2, 3] rfl
      refine va_calll (va_runV (As := [.int L2]) (rest := [.long r1]) ⟨hx, hb, hml, hown, hts⟩ (c_FI_outcomeAt l dC dI cI cJ cZ cQ a_fb a_fbcu a_fbtr a_fben H.size frB crB scB skB ccB ecB m1B ftrB m2B fenB fcuB L2 _  h) (cwV 1 hts (goodIn_app (jGl (List.forall_mem_cons.mpr ⟨mw_823, List.forall_mem_cons.mpr ⟨mw_767, List.forall_mem_cons.mpr ⟨mw_768, List.forall_mem_cons.mpr ⟨mw_6, fun _ h => absurd h List.not_mem_nil⟩⟩⟩⟩)) (jG mw_769)) rfl rfl rfl (by decide +kernel) ⟨Nat.le_of_ble_eq_true rfl, Nat.le_of_ble_eq_true rfl⟩) ⟨jPre_blind, va_recv hK hPc (ci := 3) (q0 := 0) rfl rfl, jPre_in hPc hK hDc hZ hS hFc hst⟩ rfl rfl hl.1 rfl (lv_room (Nat.le_of_ble_eq_true rfl)) d_FI_leastOfOne_58 ⟨(Nat.zero_le _), (Nat.zero_le _)⟩) hS (fun q _ h => hFc q h) hFc (fun r15 u t H1 locs ht hvm hw hB hz1 hk1 hS => ?_)
      obtain ⟨u16, u17, u18, u19, u20, u21, u22, u23, u24, u25, u26⟩ := u
      obtain ⟨q27, q28, hP1, hK1, hD1⟩ := hB
      rw [ht] at hP1
      have h := hw
      obtain ⟨hP, hD⟩ := va_join (wr := [(a_fa, .inr (3, [.int u2, .int u3, .int u4, .int u5, .int u6, .int u7, .ref q13, .ref q14, .ref a_facu])), (q13, .inl (cI, u8, .inl u9)), (q14, .inl (cJ, u10, .inr (.inl u11))), (a_facu, .inl (cI, 256, .inl u12))]) (w1 := [(a_fb, .inr (3, [.int u16, .int u17, .int u18, .int u19, .int u20, .int u21, .ref q27, .ref q28, .ref a_fbcu])), (q27, .inl (cI, u22, .inl u23)), (q28, .inl (cJ, u24, .inr (.inl u25))), (a_fbcu, .inl (cI, 256, .inl u26))]) hP hD [0, 1, 2, 3] [4, 5, 6, 7] rfl rfl (by decide) (by decide) hk1 hFc hP1 hD1
      generalize H1 = H at hP hS ⊢
      have hP : va_P (dC, dI) vwCl [(a_fa, .inr (3, [.int u2, .int u3, .int u4, .int u5, .int u6, .int u7, .ref q13, .ref q14, .ref a_facu])), (q13, .inl (cI, u8, .inl u9)), (q14, .inl (cJ, u10, .inr (.inl u11))), (a_facu, .inl (cI, 256, .inl u12)), (a_fb, .inr (3, [.int u16, .int u17, .int u18, .int u19, .int u20, .int u21, .ref q27, .ref q28, .ref a_fbcu])), (q27, .inl (cI, u22, .inl u23)), (q28, .inl (cJ, u24, .inr (.inl u25))), (a_fbcu, .inl (cI, 256, .inl u26))] H := hP
      have hD : va_D A [(a_fa, .inr (3, [.int u2, .int u3, .int u4, .int u5, .int u6, .int u7, .ref q13, .ref q14, .ref a_facu])), (q13, .inl (cI, u8, .inl u9)), (q14, .inl (cJ, u10, .inr (.inl u11))), (a_facu, .inl (cI, 256, .inl u12)), (a_fb, .inr (3, [.int u16, .int u17, .int u18, .int u19, .int u20, .int u21, .ref q27, .ref q28, .ref a_fbcu])), (q27, .inl (cI, u22, .inl u23)), (q28, .inl (cJ, u24, .inr (.inl u25))), (a_fbcu, .inl (cI, 256, .inl u26))] := hD
      refine W.lcmp hx hb d_FI_leastOfOne_61 ?_
      refine lv_if_ge (tgt := 71) hx hb d_FI_leastOfOne_62 (by decide) (fun c62 => ?_) (fun c62 => ?_)
      · have h := h.1 c62
        refine lv_aload_n hx hb d_FI_leastOfOne_71 rfl (lv_at hl 0 rfl) ?_
        refine lv_iload_n hx hb d_FI_leastOfOne_72 rfl (lv_at hl 2 rfl) ?_
        have hPc := hP.sub (ws' := [(a_fa, .inr (3, [.int u2, .int u3, .int u4, .int u5, .int u6, .int u7, .ref q13, .ref q14, .ref a_facu])), (q13, .inl (cI, u8, .inl u9)), (q14, .inl (cJ, u10, .inr (.inl u11))), (a_facu, .inl (cI, 256, .inl u12))]) [0, 1, 2, 3] rfl
        have hDc := hD.sub (ws' := [(a_fa, .inr (3, [.int u2, .int u3, .int u4, .int u5, .int u6, .int u7, .ref q13, .ref q14, .ref a_facu])), (q13, .inl (cI, u8, .inl u9)), (q14, .inl (cJ, u10, .inr (.inl u11))), (a_facu, .inl (cI, 256, .inl u12))]) [0, 1, 2, 3] (by decide) rfl
        have hFc := va_free (wc := [(a_fa, .inr (3, [.int u2, .int u3, .int u4, .int u5, .int u6, .int u7, .ref q13, .ref q14, .ref a_facu])), (q13, .inl (cI, u8, .inl u9)), (q14, .inl (cJ, u10, .inr (.inl u11))), (a_facu, .inl (cI, 256, .inl u12))]) hD hS hA [0, 1, 2, 3] rfl
        refine va_calll (va_runV (As := [.int L2]) (rest := []) ⟨hx, hb, hml, hown, hts⟩ (c_FI_outcomeAt l dC dI cI cJ cZ cQ a_fa a_facu q13 q14 H.size u2 u3 u4 u5 u6 u7 u8 u9 u10 u11 u12 L2 _  h) (cwV 1 hts (goodIn_app (jGl (List.forall_mem_cons.mpr ⟨mw_823, List.forall_mem_cons.mpr ⟨mw_767, List.forall_mem_cons.mpr ⟨mw_768, List.forall_mem_cons.mpr ⟨mw_6, fun _ h => absurd h List.not_mem_nil⟩⟩⟩⟩)) (jG mw_769)) rfl rfl rfl (by decide +kernel) ⟨Nat.le_of_ble_eq_true rfl, Nat.le_of_ble_eq_true rfl⟩) ⟨jPre_blind, va_recv hK hPc (ci := 3) (q0 := 0) rfl rfl, jPre_in hPc hK hDc hZ hS hFc hst⟩ rfl rfl hl.1 rfl (lv_room (Nat.le_of_ble_eq_true rfl)) d_FI_leastOfOne_73 ⟨(Nat.zero_le _), (Nat.zero_le _)⟩) hS (fun q _ h => hFc q h) hFc (fun r29 u t H1 locs ht hvm hw hB hz1 hk1 hS => ?_)
        obtain ⟨u30, u31, u32, u33, u34, u35, u36, u37, u38, u39, u40⟩ := u
        obtain ⟨q41, q42, hP1, hK1, hD1⟩ := hB
        rw [ht] at hP1
        have h := hw
        obtain ⟨hP, hD⟩ := va_join (wr := [(a_fb, .inr (3, [.int u16, .int u17, .int u18, .int u19, .int u20, .int u21, .ref q27, .ref q28, .ref a_fbcu])), (q27, .inl (cI, u22, .inl u23)), (q28, .inl (cJ, u24, .inr (.inl u25))), (a_fbcu, .inl (cI, 256, .inl u26))]) (w1 := [(a_fa, .inr (3, [.int u30, .int u31, .int u32, .int u33, .int u34, .int u35, .ref q41, .ref q42, .ref a_facu])), (q41, .inl (cI, u36, .inl u37)), (q42, .inl (cJ, u38, .inr (.inl u39))), (a_facu, .inl (cI, 256, .inl u40))]) hP hD [0, 1, 2, 3] [4, 5, 6, 7] rfl rfl (by decide) (by decide) hk1 hFc hP1 hD1
        generalize H1 = H at hP hS ⊢
        have hP : va_P (dC, dI) vwCl [(a_fb, .inr (3, [.int u16, .int u17, .int u18, .int u19, .int u20, .int u21, .ref q27, .ref q28, .ref a_fbcu])), (q27, .inl (cI, u22, .inl u23)), (q28, .inl (cJ, u24, .inr (.inl u25))), (a_fbcu, .inl (cI, 256, .inl u26)), (a_fa, .inr (3, [.int u30, .int u31, .int u32, .int u33, .int u34, .int u35, .ref q41, .ref q42, .ref a_facu])), (q41, .inl (cI, u36, .inl u37)), (q42, .inl (cJ, u38, .inr (.inl u39))), (a_facu, .inl (cI, 256, .inl u40))] H := hP
        have hD : va_D A [(a_fb, .inr (3, [.int u16, .int u17, .int u18, .int u19, .int u20, .int u21, .ref q27, .ref q28, .ref a_fbcu])), (q27, .inl (cI, u22, .inl u23)), (q28, .inl (cJ, u24, .inr (.inl u25))), (a_fbcu, .inl (cI, 256, .inl u26)), (a_fa, .inr (3, [.int u30, .int u31, .int u32, .int u33, .int u34, .int u35, .ref q41, .ref q42, .ref a_facu])), (q41, .inl (cI, u36, .inl u37)), (q42, .inl (cJ, u38, .inr (.inl u39))), (a_facu, .inl (cI, 256, .inl u40))] := hD
        refine lv_aload_n hx hb d_FI_leastOfOne_76 rfl (lv_at hl 1 rfl) ?_
        refine lv_iload_n hx hb d_FI_leastOfOne_77 rfl (lv_at hl 2 rfl) ?_
        have hPc := hP.sub (ws' := [(a_fb, .inr (3, [.int u16, .int u17, .int u18, .int u19, .int u20, .int u21, .ref q27, .ref q28, .ref a_fbcu])), (q27, .inl (cI, u22, .inl u23)), (q28, .inl (cJ, u24, .inr (.inl u25))), (a_fbcu, .inl (cI, 256, .inl u26))]) [0, 1, 2, 3] rfl
        have hDc := hD.sub (ws' := [(a_fb, .inr (3, [.int u16, .int u17, .int u18, .int u19, .int u20, .int u21, .ref q27, .ref q28, .ref a_fbcu])), (q27, .inl (cI, u22, .inl u23)), (q28, .inl (cJ, u24, .inr (.inl u25))), (a_fbcu, .inl (cI, 256, .inl u26))]) [0, 1, 2, 3] (by decide) rfl
        have hFc := va_free (wc := [(a_fb, .inr (3, [.int u16, .int u17, .int u18, .int u19, .int u20, .int u21, .ref q27, .ref q28, .ref a_fbcu])), (q27, .inl (cI, u22, .inl u23)), (q28, .inl (cJ, u24, .inr (.inl u25))), (a_fbcu, .inl (cI, 256, .inl u26))]) hD hS hA [0, 1, 2, 3] rfl
        refine va_calll (va_runV (As := [.int L2]) (rest := [.long r29]) ⟨hx, hb, hml, hown, hts⟩ (c_FI_outcomeAt l dC dI cI cJ cZ cQ a_fb a_fbcu q27 q28 H.size u16 u17 u18 u19 u20 u21 u22 u23 u24 u25 u26 L2 _  h) (cwV 1 hts (goodIn_app (jGl (List.forall_mem_cons.mpr ⟨mw_823, List.forall_mem_cons.mpr ⟨mw_767, List.forall_mem_cons.mpr ⟨mw_768, List.forall_mem_cons.mpr ⟨mw_6, fun _ h => absurd h List.not_mem_nil⟩⟩⟩⟩)) (jG mw_769)) rfl rfl rfl (by decide +kernel) ⟨Nat.le_of_ble_eq_true rfl, Nat.le_of_ble_eq_true rfl⟩) ⟨jPre_blind, va_recv hK hPc (ci := 3) (q0 := 0) rfl rfl, jPre_in hPc hK hDc hZ hS hFc hst⟩ rfl rfl hl.1 rfl (lv_room (Nat.le_of_ble_eq_true rfl)) d_FI_leastOfOne_78 ⟨(Nat.zero_le _), (Nat.zero_le _)⟩) hS (fun q _ h => hFc q h) hFc (fun r43 u t H1 locs ht hvm hw hB hz1 hk1 hS => ?_)
        obtain ⟨u44, u45, u46, u47, u48, u49, u50, u51, u52, u53, u54⟩ := u
        obtain ⟨q55, q56, hP1, hK1, hD1⟩ := hB
        rw [ht] at hP1
        have h := hw
        obtain ⟨hP, hD⟩ := va_join (wr := [(a_fa, .inr (3, [.int u30, .int u31, .int u32, .int u33, .int u34, .int u35, .ref q41, .ref q42, .ref a_facu])), (q41, .inl (cI, u36, .inl u37)), (q42, .inl (cJ, u38, .inr (.inl u39))), (a_facu, .inl (cI, 256, .inl u40))]) (w1 := [(a_fb, .inr (3, [.int u44, .int u45, .int u46, .int u47, .int u48, .int u49, .ref q55, .ref q56, .ref a_fbcu])), (q55, .inl (cI, u50, .inl u51)), (q56, .inl (cJ, u52, .inr (.inl u53))), (a_fbcu, .inl (cI, 256, .inl u54))]) hP hD [0, 1, 2, 3] [4, 5, 6, 7] rfl rfl (by decide) (by decide) hk1 hFc hP1 hD1
        generalize H1 = H at hP hS ⊢
        have hP : va_P (dC, dI) vwCl [(a_fa, .inr (3, [.int u30, .int u31, .int u32, .int u33, .int u34, .int u35, .ref q41, .ref q42, .ref a_facu])), (q41, .inl (cI, u36, .inl u37)), (q42, .inl (cJ, u38, .inr (.inl u39))), (a_facu, .inl (cI, 256, .inl u40)), (a_fb, .inr (3, [.int u44, .int u45, .int u46, .int u47, .int u48, .int u49, .ref q55, .ref q56, .ref a_fbcu])), (q55, .inl (cI, u50, .inl u51)), (q56, .inl (cJ, u52, .inr (.inl u53))), (a_fbcu, .inl (cI, 256, .inl u54))] H := hP
        have hD : va_D A [(a_fa, .inr (3, [.int u30, .int u31, .int u32, .int u33, .int u34, .int u35, .ref q41, .ref q42, .ref a_facu])), (q41, .inl (cI, u36, .inl u37)), (q42, .inl (cJ, u38, .inr (.inl u39))), (a_facu, .inl (cI, 256, .inl u40)), (a_fb, .inr (3, [.int u44, .int u45, .int u46, .int u47, .int u48, .int u49, .ref q55, .ref q56, .ref a_fbcu])), (q55, .inl (cI, u50, .inl u51)), (q56, .inl (cJ, u52, .inr (.inl u53))), (a_fbcu, .inl (cI, 256, .inl u54))] := hD
        refine W.lcmp hx hb d_FI_leastOfOne_81 ?_
        refine lv_if_le (tgt := 91) hx hb d_FI_leastOfOne_82 (by decide) (fun c82 => ?_) (fun c82 => ?_)
        · have h := h.1 c82
          obtain ⟨x57, ex57⟩ : ∃ y : Int32, y = L2 + 1 := ⟨_, rfl⟩
          have h := h x57 ex57
          refine lv_iinc (v := x57) (lv' := [(2, .int x57), (0, .ref a_fa), (1, .ref a_fb)]) hx hb d_FI_leastOfOne_91 hl (k := 2) rfl (by rw [ex57]; rfl) (by decide) rfl (fun ls hl => ?_)
          refine lv_goto (tgt := 2) hx hb d_FI_leastOfOne_94 (by decide) ?_
          exact hK2 u30 u31 u32 u33 u34 u35 u36 u37 u38 u39 u40 u44 u45 u46 u47 u48 u49 u50 u51 u52 u53 u54 x57 q41 q42 q55 q56 H locs ls h hP hD hS (lv_sub hl [1, 2, 0] rfl)
        · have h := h.2 c82
          refine lv_aload_n hx hb d_FI_leastOfOne_85 rfl (lv_at hl 1 rfl) ?_
          refine lv_iload_n hx hb d_FI_leastOfOne_86 rfl (lv_at hl 2 rfl) ?_
          have hPc := hP.sub (ws' := [(a_fb, .inr (3, [.int u44, .int u45, .int u46, .int u47, .int u48, .int u49, .ref q55, .ref q56, .ref a_fbcu])), (q55, .inl (cI, u50, .inl u51)), (q56, .inl (cJ, u52, .inr (.inl u53))), (a_fbcu, .inl (cI, 256, .inl u54))]) [4, 5, 6, 7] rfl
          have hDc := hD.sub (ws' := [(a_fb, .inr (3, [.int u44, .int u45, .int u46, .int u47, .int u48, .int u49, .ref q55, .ref q56, .ref a_fbcu])), (q55, .inl (cI, u50, .inl u51)), (q56, .inl (cJ, u52, .inr (.inl u53))), (a_fbcu, .inl (cI, 256, .inl u54))]) [4, 5, 6, 7] (by decide) rfl
          have hFc := va_free (wc := [(a_fb, .inr (3, [.int u44, .int u45, .int u46, .int u47, .int u48, .int u49, .ref q55, .ref q56, .ref a_fbcu])), (q55, .inl (cI, u50, .inl u51)), (q56, .inl (cJ, u52, .inr (.inl u53))), (a_fbcu, .inl (cI, 256, .inl u54))]) hD hS hA [4, 5, 6, 7] rfl
          refine va_calll (va_runV (As := [.int L2]) (rest := []) ⟨hx, hb, hml, hown, hts⟩ (c_FI_outcomeAt l dC dI cI cJ cZ cQ a_fb a_fbcu q55 q56 H.size u44 u45 u46 u47 u48 u49 u50 u51 u52 u53 u54 L2 _  h) (cwV 1 hts (goodIn_app (jGl (List.forall_mem_cons.mpr ⟨mw_823, List.forall_mem_cons.mpr ⟨mw_767, List.forall_mem_cons.mpr ⟨mw_768, List.forall_mem_cons.mpr ⟨mw_6, fun _ h => absurd h List.not_mem_nil⟩⟩⟩⟩)) (jG mw_769)) rfl rfl rfl (by decide +kernel) ⟨Nat.le_of_ble_eq_true rfl, Nat.le_of_ble_eq_true rfl⟩) ⟨jPre_blind, va_recv hK hPc (ci := 3) (q0 := 0) rfl rfl, jPre_in hPc hK hDc hZ hS hFc hst⟩ rfl rfl hl.1 rfl (lv_room (Nat.le_of_ble_eq_true rfl)) d_FI_leastOfOne_87 ⟨(Nat.zero_le _), (Nat.zero_le _)⟩) hS (fun q _ h => hFc q h) hFc (fun r58 u t H1 locs ht hvm hw hB hz1 hk1 hS => ?_)
          obtain ⟨u59, u60, u61, u62, u63, u64, u65, u66, u67, u68, u69⟩ := u
          obtain ⟨q70, q71, hP1, hK1, hD1⟩ := hB
          rw [ht] at hP1
          have h := hw
          obtain ⟨hP, hD⟩ := va_join (wr := [(a_fa, .inr (3, [.int u30, .int u31, .int u32, .int u33, .int u34, .int u35, .ref q41, .ref q42, .ref a_facu])), (q41, .inl (cI, u36, .inl u37)), (q42, .inl (cJ, u38, .inr (.inl u39))), (a_facu, .inl (cI, 256, .inl u40))]) (w1 := [(a_fb, .inr (3, [.int u59, .int u60, .int u61, .int u62, .int u63, .int u64, .ref q70, .ref q71, .ref a_fbcu])), (q70, .inl (cI, u65, .inl u66)), (q71, .inl (cJ, u67, .inr (.inl u68))), (a_fbcu, .inl (cI, 256, .inl u69))]) hP hD [4, 5, 6, 7] [0, 1, 2, 3] rfl rfl (by decide) (by decide) hk1 hFc hP1 hD1
          generalize H1 = H at hP hS ⊢
          have hP : va_P (dC, dI) vwCl [(a_fa, .inr (3, [.int u30, .int u31, .int u32, .int u33, .int u34, .int u35, .ref q41, .ref q42, .ref a_facu])), (q41, .inl (cI, u36, .inl u37)), (q42, .inl (cJ, u38, .inr (.inl u39))), (a_facu, .inl (cI, 256, .inl u40)), (a_fb, .inr (3, [.int u59, .int u60, .int u61, .int u62, .int u63, .int u64, .ref q70, .ref q71, .ref a_fbcu])), (q70, .inl (cI, u65, .inl u66)), (q71, .inl (cJ, u67, .inr (.inl u68))), (a_fbcu, .inl (cI, 256, .inl u69))] H := hP
          have hD : va_D A [(a_fa, .inr (3, [.int u30, .int u31, .int u32, .int u33, .int u34, .int u35, .ref q41, .ref q42, .ref a_facu])), (q41, .inl (cI, u36, .inl u37)), (q42, .inl (cJ, u38, .inr (.inl u39))), (a_facu, .inl (cI, 256, .inl u40)), (a_fb, .inr (3, [.int u59, .int u60, .int u61, .int u62, .int u63, .int u64, .ref q70, .ref q71, .ref a_fbcu])), (q70, .inl (cI, u65, .inl u66)), (q71, .inl (cJ, u67, .inr (.inl u68))), (a_fbcu, .inl (cI, 256, .inl u69))] := hD
          have hP9 := hP
          have hD9 := hD
          exact W.lret (v := r58) hx hb hr (fun t ht hW => ⟨⟨r58, (u30, u31, u32, u33, u34, u35, u36, u37, u38, u39, u40, u59, u60, u61, u62, u63, u64, u65, u66, u67, u68, u69), rfl, h, q41, q42, q70, q71, by rw [ht]; exact hP9, va_K.moved hW.alike hK, hD9⟩, hS.F ht⟩) hS.2.2 d_FI_leastOfOne_90
      · have h := h.2 c62
        exact l_FI_leastOfOne_65 C0  u2 u3 u4 u5 u6 u7 u8 u9 u10 u11 u12 u16 u17 u18 u19 u20 u21 u22 u23 u24 u25 u26 L2 q13 q14 q27 q28 H locs ls h hP hD hS (lv_sub hl [0, 2] rfl)
  · have h := h.2 c34
    refine lv_aload_n hx hb d_FI_leastOfOne_37 rfl (lv_at hl 1 rfl) ?_
    refine lv_iload_n hx hb d_FI_leastOfOne_38 rfl (lv_at hl 2 rfl) ?_
    have hPc := hP.sub (ws' := [(a_fb, .inr (3, [.int frB, .int crB, .int scB, .int skB, .int ccB, .int ecB, .ref a_fbtr, .ref a_fben, .ref a_fbcu])), (a_fbtr, .inl (cI, m1B, .inl ftrB)), (a_fben, .inl (cJ, m2B, .inr (.inl fenB))), (a_fbcu, .inl (cI, 256, .inl fcuB))]) [4, 5, 6, 7] rfl
    have hDc := hD.sub (ws' := [(a_fb, .inr (3, [.int frB, .int crB, .int scB, .int skB, .int ccB, .int ecB, .ref a_fbtr, .ref a_fben, .ref a_fbcu])), (a_fbtr, .inl (cI, m1B, .inl ftrB)), (a_fben, .inl (cJ, m2B, .inr (.inl fenB))), (a_fbcu, .inl (cI, 256, .inl fcuB))]) [4, 5, 6, 7] (by decide) rfl
    have hFc := va_free (wc := [(a_fb, .inr (3, [.int frB, .int crB, .int scB, .int skB, .int ccB, .int ecB, .ref a_fbtr, .ref a_fben, .ref a_fbcu])), (a_fbtr, .inl (cI, m1B, .inl ftrB)), (a_fben, .inl (cJ, m2B, .inr (.inl fenB))), (a_fbcu, .inl (cI, 256, .inl fcuB))]) hD hS hA [4, 5, 6, 7] rfl
    refine va_calll (va_runV (As := [.int L2]) (rest := []) ⟨hx, hb, hml, hown, hts⟩ (c_FI_outcomeAt l dC dI cI cJ cZ cQ a_fb a_fbcu a_fbtr a_fben H.size frB crB scB skB ccB ecB m1B ftrB m2B fenB fcuB L2 _  h) (cwV 1 hts (goodIn_app (jGl (List.forall_mem_cons.mpr ⟨mw_823, List.forall_mem_cons.mpr ⟨mw_767, List.forall_mem_cons.mpr ⟨mw_768, List.forall_mem_cons.mpr ⟨mw_6, fun _ h => absurd h List.not_mem_nil⟩⟩⟩⟩)) (jG mw_769)) rfl rfl rfl (by decide +kernel) ⟨Nat.le_of_ble_eq_true rfl, Nat.le_of_ble_eq_true rfl⟩) ⟨jPre_blind, va_recv hK hPc (ci := 3) (q0 := 0) rfl rfl, jPre_in hPc hK hDc hZ hS hFc hst⟩ rfl rfl hl.1 rfl (lv_room (Nat.le_of_ble_eq_true rfl)) d_FI_leastOfOne_39 ⟨(Nat.zero_le _), (Nat.zero_le _)⟩) hS (fun q _ h => hFc q h) hFc (fun r72 u t H1 locs ht hvm hw hB hz1 hk1 hS => ?_)
    obtain ⟨u73, u74, u75, u76, u77, u78, u79, u80, u81, u82, u83⟩ := u
    obtain ⟨q84, q85, hP1, hK1, hD1⟩ := hB
    rw [ht] at hP1
    have h := hw
    obtain ⟨hP, hD⟩ := va_join (wr := [(a_fa, .inr (3, [.int frA, .int crA, .int scA, .int skA, .int ccA, .int ecA, .ref a_fatr, .ref a_faen, .ref a_facu])), (a_fatr, .inl (cI, m1A, .inl ftrA)), (a_faen, .inl (cJ, m2A, .inr (.inl fenA))), (a_facu, .inl (cI, 256, .inl fcuA))]) (w1 := [(a_fb, .inr (3, [.int u73, .int u74, .int u75, .int u76, .int u77, .int u78, .ref q84, .ref q85, .ref a_fbcu])), (q84, .inl (cI, u79, .inl u80)), (q85, .inl (cJ, u81, .inr (.inl u82))), (a_fbcu, .inl (cI, 256, .inl u83))]) hP hD [4, 5, 6, 7] [0, 1, 2, 3] rfl rfl (by decide) (by decide) hk1 hFc hP1 hD1
    generalize H1 = H at hP hS ⊢
    have hP : va_P (dC, dI) vwCl [(a_fa, .inr (3, [.int frA, .int crA, .int scA, .int skA, .int ccA, .int ecA, .ref a_fatr, .ref a_faen, .ref a_facu])), (a_fatr, .inl (cI, m1A, .inl ftrA)), (a_faen, .inl (cJ, m2A, .inr (.inl fenA))), (a_facu, .inl (cI, 256, .inl fcuA)), (a_fb, .inr (3, [.int u73, .int u74, .int u75, .int u76, .int u77, .int u78, .ref q84, .ref q85, .ref a_fbcu])), (q84, .inl (cI, u79, .inl u80)), (q85, .inl (cJ, u81, .inr (.inl u82))), (a_fbcu, .inl (cI, 256, .inl u83))] H := hP
    have hD : va_D A [(a_fa, .inr (3, [.int frA, .int crA, .int scA, .int skA, .int ccA, .int ecA, .ref a_fatr, .ref a_faen, .ref a_facu])), (a_fatr, .inl (cI, m1A, .inl ftrA)), (a_faen, .inl (cJ, m2A, .inr (.inl fenA))), (a_facu, .inl (cI, 256, .inl fcuA)), (a_fb, .inr (3, [.int u73, .int u74, .int u75, .int u76, .int u77, .int u78, .ref q84, .ref q85, .ref a_fbcu])), (q84, .inl (cI, u79, .inl u80)), (q85, .inl (cJ, u81, .inr (.inl u82))), (a_fbcu, .inl (cI, 256, .inl u83))] := hD
    have hP9 := hP
    have hD9 := hD
    exact W.lret (v := r72) hx hb hr (fun t ht hW => ⟨⟨r72, (frA, crA, scA, skA, ccA, ecA, m1A, ftrA, m2A, fenA, fcuA, u73, u74, u75, u76, u77, u78, u79, u80, u81, u82, u83), rfl, h, a_fatr, a_faen, q84, q85, by rw [ht]; exact hP9, va_K.moved hW.alike hK, hD9⟩, hS.F ht⟩) hS.2.2 d_FI_leastOfOne_42
set_option maxHeartbeats 4000000 in
set_option maxRecDepth 100000 in
theorem l_FI_leastOfOne_2 {p : Program} {l : Launch} {e : Env} {s : State} {m : MethodId} {args : Array Value} {below : List Frame} {meth : Method} {c : Code} {dC : Nat → ClassId} {dI : Nat → Nat → Nat} {cI cJ cZ cQ : ClassId} {a_fa a_facu a_fb a_fbcu : Nat} {A : Nat → Prop} {Post : Int64 → Int32 → Int32 → Int32 → Int32 → Int32 → Int32 → Nat → (Nat → Int32) → Nat → (Nat → Int64) → (Nat → Int32) → Int32 → Int32 → Int32 → Int32 → Int32 → Int32 → Nat → (Nat → Int32) → Nat → (Nat → Int64) → (Nat → Int32) → Prop} (C0 : jC p l s m args meth c b_FI_leastOfOne (some .long) 3 R_FI (dC, dI) cI cJ cZ cQ A)  : ∀ n9 : Nat, ∀ (frA crA scA skA ccA ecA : Int32) (m1A : Nat) (ftrA : Nat → Int32) (m2A : Nat) (fenA : Nat → Int64) (fcuA : Nat → Int32) (frB crB scB skB ccB ecB : Int32) (m1B : Nat) (ftrB : Nat → Int32) (m2B : Nat) (fenB : Nat → Int64) (fcuB : Nat → Int32) (L2 : Int32), ∀ (a_fatr a_faen a_fbtr a_fben : Nat), ∀ (H : Heap) (locs : List Loc) (ls : Array Slot), wp_FI_leastOfOne_2 Post  n9 frA crA scA skA ccA ecA m1A ftrA m2A fenA fcuA frB crB scB skB ccB ecB m1B ftrB m2B fenB fcuB L2 → va_P (dC, dI) vwCl [(a_fa, .inr (3, [.int frA, .int crA, .int scA, .int skA, .int ccA, .int ecA, .ref a_fatr, .ref a_faen, .ref a_facu])), (a_fatr, .inl (cI, m1A, .inl ftrA)), (a_faen, .inl (cJ, m2A, .inr (.inl fenA))), (a_facu, .inl (cI, 256, .inl fcuA)), (a_fb, .inr (3, [.int frB, .int crB, .int scB, .int skB, .int ccB, .int ecB, .ref a_fbtr, .ref a_fben, .ref a_fbcu])), (a_fbtr, .inl (cI, m1B, .inl ftrB)), (a_fben, .inl (cJ, m2B, .inr (.inl fenB))), (a_fbcu, .inl (cI, 256, .inl fcuB))] H → va_D A [(a_fa, .inr (3, [.int frA, .int crA, .int scA, .int skA, .int ccA, .int ecA, .ref a_fatr, .ref a_faen, .ref a_facu])), (a_fatr, .inl (cI, m1A, .inl ftrA)), (a_faen, .inl (cJ, m2A, .inr (.inl fenA))), (a_facu, .inl (cI, 256, .inl fcuA)), (a_fb, .inr (3, [.int frB, .int crB, .int scB, .int skB, .int ccB, .int ecB, .ref a_fbtr, .ref a_fben, .ref a_fbcu])), (a_fbtr, .inl (cI, m1B, .inl ftrB)), (a_fben, .inl (cJ, m2B, .inr (.inl fenB))), (a_fbcu, .inl (cI, 256, .inl fcuB))] → va_S A s.heap H locs → lv_has ls 3 [(0, .ref a_fa), (1, .ref a_fb), (2, .int L2)] → W p l e ({ frames := 11, cells := 0, slots := 0, locals := 171 } : Room) s m args below meth c H locs 0 0 (MQ below (jQ_FI_leastOfOne dC dI cI cJ cZ cQ A a_fa a_facu a_fb a_fbcu Post) args s 0 0 A) (F0 m 2 ls []) := by
  obtain ⟨hx, hb, hr, hml, hown, hts, hlocks, hK, hZ, hA, hst⟩ := id C0
  intro n9
  induction n9 with
  | zero =>
    intro frA crA scA skA ccA ecA m1A ftrA m2A fenA fcuA frB crB scB skB ccB ecB m1B ftrB m2B fenB fcuB L2 a_fatr a_faen a_fbtr a_fben H locs ls h hP hD hS hl
    exact False.elim h
  | succ n_2 ih =>
    intro frA crA scA skA ccA ecA m1A ftrA m2A fenA fcuA frB crB scB skB ccB ecB m1B ftrB m2B fenB fcuB L2 a_fatr a_faen a_fbtr a_fben H locs ls h hP hD hS hl
    rw [wp_FI_leastOfOne_2] at h
    refine lv_iload_n hx hb d_FI_leastOfOne_2 rfl (lv_at hl 2 rfl) ?_
    refine lv_sipush (v := 12000) hx hb d_FI_leastOfOne_3 (by decide) ?_
    refine lv_icmp_ge (tgt := 97) hx hb d_FI_leastOfOne_6 (by decide) (fun c6 => ?_) (fun c6 => ?_)
    · have h := h.1 c6
      refine lv_ldc2 (v := (-1)) hx hb hown (hts _ mw_834) d_FI_leastOfOne_97 ?_
      have hP9 := hP
      have hD9 := hD
      exact W.lret (v := (-1)) hx hb hr (fun t ht hW => ⟨⟨(-1), (frA, crA, scA, skA, ccA, ecA, m1A, ftrA, m2A, fenA, fcuA, frB, crB, scB, skB, ccB, ecB, m1B, ftrB, m2B, fenB, fcuB), rfl, h, a_fatr, a_faen, a_fbtr, a_fben, by rw [ht]; exact hP9, va_K.moved hW.alike hK, hD9⟩, hS.F ht⟩) hS.2.2 d_FI_leastOfOne_100
    · have h := h.2 c6
      refine lv_iload_n hx hb d_FI_leastOfOne_9 rfl (lv_at hl 2 rfl) ?_
      refine lv_aload_n hx hb d_FI_leastOfOne_10 rfl (lv_at hl 0 rfl) ?_
      refine va_get (D := (dC, dI)) (ci := 3) (v := .int ecA) (C := R_FI) (T := T_FI) (N := 9) hx hb hts in_FI hown hK hP 0 rfl rfl 5 (by decide) (hts _ mw_137) (fun _ h9 => h9) rfl d_FI_leastOfOne_11 ?_
      refine lv_icmp_lt (tgt := 29) hx hb d_FI_leastOfOne_14 (by decide) (fun c14 => ?_) (fun c14 => ?_)
      · have h := h.1 c14
        exact l_FI_leastOfOne_29 C0 (fun (frA : Int32) (crA : Int32) (scA : Int32) (skA : Int32) (ccA : Int32) (ecA : Int32) (m1A : Nat) (ftrA : Nat → Int32) (m2A : Nat) (fenA : Nat → Int64) (fcuA : Nat → Int32) (frB : Int32) (crB : Int32) (scB : Int32) (skB : Int32) (ccB : Int32) (ecB : Int32) (m1B : Nat) (ftrB : Nat → Int32) (m2B : Nat) (fenB : Nat → Int64) (fcuB : Nat → Int32) (L2 : Int32) => wp_FI_leastOfOne_2 Post n_2 frA crA scA skA ccA ecA m1A ftrA m2A fenA fcuA frB crB scB skB ccB ecB m1B ftrB m2B fenB fcuB L2) ih frA crA scA skA ccA ecA m1A ftrA m2A fenA fcuA frB crB scB skB ccB ecB m1B ftrB m2B fenB fcuB L2 a_fatr a_faen a_fbtr a_fben H locs ls h hP hD hS hl
      · have h := h.2 c14
        refine lv_iload_n hx hb d_FI_leastOfOne_17 rfl (lv_at hl 2 rfl) ?_
        refine lv_aload_n hx hb d_FI_leastOfOne_18 rfl (lv_at hl 1 rfl) ?_
        refine va_get (D := (dC, dI)) (ci := 3) (v := .int ecB) (C := R_FI) (T := T_FI) (N := 9) hx hb hts in_FI hown hK hP 4 rfl rfl 5 (by decide) (hts _ mw_137) (fun _ h9 => h9) rfl d_FI_leastOfOne_19 ?_
        refine lv_icmp_lt (tgt := 29) hx hb d_FI_leastOfOne_22 (by decide) (fun c22 => ?_) (fun c22 => ?_)
        · have h := h.1 c22
          exact l_FI_leastOfOne_29 C0 (fun (frA : Int32) (crA : Int32) (scA : Int32) (skA : Int32) (ccA : Int32) (ecA : Int32) (m1A : Nat) (ftrA : Nat → Int32) (m2A : Nat) (fenA : Nat → Int64) (fcuA : Nat → Int32) (frB : Int32) (crB : Int32) (scB : Int32) (skB : Int32) (ccB : Int32) (ecB : Int32) (m1B : Nat) (ftrB : Nat → Int32) (m2B : Nat) (fenB : Nat → Int64) (fcuB : Nat → Int32) (L2 : Int32) => wp_FI_leastOfOne_2 Post n_2 frA crA scA skA ccA ecA m1A ftrA m2A fenA fcuA frB crB scB skB ccB ecB m1B ftrB m2B fenB fcuB L2) ih frA crA scA skA ccA ecA m1A ftrA m2A fenA fcuA frB crB scB skB ccB ecB m1B ftrB m2B fenB fcuB L2 a_fatr a_faen a_fbtr a_fben H locs ls h hP hD hS hl
        · have h := h.2 c22
          refine lv_ldc2 (v := (-1)) hx hb hown (hts _ mw_834) d_FI_leastOfOne_25 ?_
          have hP9 := hP
          have hD9 := hD
          exact W.lret (v := (-1)) hx hb hr (fun t ht hW => ⟨⟨(-1), (frA, crA, scA, skA, ccA, ecA, m1A, ftrA, m2A, fenA, fcuA, frB, crB, scB, skB, ccB, ecB, m1B, ftrB, m2B, fenB, fcuB), rfl, h, a_fatr, a_faen, a_fbtr, a_fben, by rw [ht]; exact hP9, va_K.moved hW.alike hK, hD9⟩, hS.F ht⟩) hS.2.2 d_FI_leastOfOne_28
set_option maxHeartbeats 4000000 in
set_option maxRecDepth 100000 in
theorem c_FI_leastOfOne (l : Launch) (dC : Nat → ClassId) (dI : Nat → Nat → Nat) (cI cJ cZ cQ : ClassId) (a_fa a_facu a_fb a_fbcu : Nat) (a_fatr a_faen a_fbtr a_fben : Nat) (sz : Nat) (frA crA scA skA ccA ecA : Int32) (m1A : Nat) (ftrA : Nat → Int32) (m2A : Nat) (fenA : Nat → Int64) (fcuA : Nat → Int32) (frB crB scB skB ccB ecB : Int32) (m1B : Nat) (ftrB : Nat → Int32) (m2B : Nat) (fenB : Nat → Int64) (fcuB : Nat → Int32) (Post : Int64 → Int32 → Int32 → Int32 → Int32 → Int32 → Int32 → Nat → (Nat → Int32) → Nat → (Nat → Int64) → (Nat → Int32) → Int32 → Int32 → Int32 → Int32 → Int32 → Int32 → Nat → (Nat → Int32) → Nat → (Nat → Int64) → (Nat → Int32) → Prop) (h : wp_FI_leastOfOne Post frA crA scA skA ccA ecA m1A ftrA m2A fenA fcuA frB crB scB skB ccB ecB m1B ftrB m2B fenB fcuB) : Met l y_FI_leastOfOne (.code y_FI_leastOfOne b_FI_leastOfOne 3 (some .long) :: jW) ({ frames := 11, cells := 0, slots := 0, locals := 171 } : Room) (jPre l (dC, dI) cI cJ cZ cQ [(a_fa, .inr (3, [.int frA, .int crA, .int scA, .int skA, .int ccA, .int ecA, .ref a_fatr, .ref a_faen, .ref a_facu])), (a_fatr, .inl (cI, m1A, .inl ftrA)), (a_faen, .inl (cJ, m2A, .inr (.inl fenA))), (a_facu, .inl (cI, 256, .inl fcuA)), (a_fb, .inr (3, [.int frB, .int crB, .int scB, .int skB, .int ccB, .int ecB, .ref a_fbtr, .ref a_fben, .ref a_fbcu])), (a_fbtr, .inl (cI, m1B, .inl ftrB)), (a_fben, .inl (cJ, m2B, .inr (.inl fenB))), (a_fbcu, .inl (cI, 256, .inl fcuB))] sz [.ref a_fa, .ref a_fb]) (jQ_FI_leastOfOne dC dI cI cJ cZ cQ (va_A [(a_fa, .inr (3, [.int frA, .int crA, .int scA, .int skA, .int ccA, .int ecA, .ref a_fatr, .ref a_faen, .ref a_facu])), (a_fatr, .inl (cI, m1A, .inl ftrA)), (a_faen, .inl (cJ, m2A, .inr (.inl fenA))), (a_facu, .inl (cI, 256, .inl fcuA)), (a_fb, .inr (3, [.int frB, .int crB, .int scB, .int skB, .int ccB, .int ecB, .ref a_fbtr, .ref a_fben, .ref a_fbcu])), (a_fbtr, .inl (cI, m1B, .inl ftrB)), (a_fben, .inl (cJ, m2B, .inr (.inl fenB))), (a_fbcu, .inl (cI, 256, .inl fcuB))] sz) a_fa a_facu a_fb a_fbcu Post) 0 0 (va_A [(a_fa, .inr (3, [.int frA, .int crA, .int scA, .int skA, .int ccA, .int ecA, .ref a_fatr, .ref a_faen, .ref a_facu])), (a_fatr, .inl (cI, m1A, .inl ftrA)), (a_faen, .inl (cJ, m2A, .inr (.inl fenA))), (a_facu, .inl (cI, 256, .inl fcuA)), (a_fb, .inr (3, [.int frB, .int crB, .int scB, .int skB, .int ccB, .int ecB, .ref a_fbtr, .ref a_fben, .ref a_fbcu])), (a_fbtr, .inl (cI, m1B, .inl ftrB)), (a_fben, .inl (cJ, m2B, .inr (.inl fenB))), (a_fbcu, .inl (cI, 256, .inl fcuB))] sz) := by
  refine Met.ofW (cc := b_FI_leastOfOne) (maxL := 3) (ret := (some .long)) (by decide) rfl ?_
  intro p e s m args below meth c s₁ B hml hv
  obtain ⟨rfl, hsz, hP, hK, hD0, hZ, hst⟩ := hv
  subst hsz
  have hD := hD0.self (sz := s.heap.size)
  generalize hAe : va_A [(a_fa, .inr (3, [.int frA, .int crA, .int scA, .int skA, .int ccA, .int ecA, .ref a_fatr, .ref a_faen, .ref a_facu])), (a_fatr, .inl (cI, m1A, .inl ftrA)), (a_faen, .inl (cJ, m2A, .inr (.inl fenA))), (a_facu, .inl (cI, 256, .inl fcuA)), (a_fb, .inr (3, [.int frB, .int crB, .int scB, .int skB, .int ccB, .int ecB, .ref a_fbtr, .ref a_fben, .ref a_fbcu])), (a_fbtr, .inl (cI, m1B, .inl ftrB)), (a_fben, .inl (cJ, m2B, .inr (.inl fenB))), (a_fbcu, .inl (cI, 256, .inl fcuB))] s.heap.size = A at hD hZ ⊢
  have hA : ∀ q : Nat, s.heap.size ≤ q → A q := fun q h => by rw [← hAe]; exact Or.inr h
  have C0 : jC p l s m ([.ref a_fa, .ref a_fb] : List Value).toArray meth c b_FI_leastOfOne (some .long) 3 R_FI (dC, dI) cI cJ cZ cQ A := ⟨B.exec, B.bytes, B.returns, hml, findClass_of_methodNamed B.named, fun w hw => atoms_spec (ws := (.code y_FI_leastOfOne b_FI_leastOfOne 3 (some .long) :: jW)) B.pre w (List.mem_cons_of_mem _ hw), B.notSynchronized, hK, hZ, hA, hst⟩
  obtain ⟨hx, hb, hr, hml, hown, hts, hlocks, hK, hZ, hA, hst⟩ := id C0
  have hS : va_S A s.heap s.heap [] := va_S.rf
  have hl := lv_entry ([.ref a_fa, .ref a_fb]) (n := 3) (Nat.le_of_ble_eq_true rfl)
  rw [lg_entry_eq]
  generalize (lg_sl ([.ref a_fa, .ref a_fb]) ++ List.replicate (3 - (lg_sl ([.ref a_fa, .ref a_fb])).length) Slot.unset).toArray = ls at hl ⊢
  have hl : lv_has ls 3 [(0, .ref a_fa), (1, .ref a_fb)] := hl
  obtain ⟨H, hH⟩ : ∃ H : Heap, H = s.heap := ⟨_, rfl⟩
  obtain ⟨locs, hlc⟩ : ∃ L : List Loc, L = [] := ⟨_, rfl⟩
  have hP : va_P (dC, dI) vwCl [(a_fa, .inr (3, [.int frA, .int crA, .int scA, .int skA, .int ccA, .int ecA, .ref a_fatr, .ref a_faen, .ref a_facu])), (a_fatr, .inl (cI, m1A, .inl ftrA)), (a_faen, .inl (cJ, m2A, .inr (.inl fenA))), (a_facu, .inl (cI, 256, .inl fcuA)), (a_fb, .inr (3, [.int frB, .int crB, .int scB, .int skB, .int ccB, .int ecB, .ref a_fbtr, .ref a_fben, .ref a_fbcu])), (a_fbtr, .inl (cI, m1B, .inl ftrB)), (a_fben, .inl (cJ, m2B, .inr (.inl fenB))), (a_fbcu, .inl (cI, 256, .inl fcuB))] H := by rw [hH]; exact hP
  have hS : va_S A s.heap H locs := by rw [hH, hlc]; exact hS
  suffices hW9 : W p l e ({ frames := 11, cells := 0, slots := 0, locals := 171 } : Room) s m ([.ref a_fa, .ref a_fb] : List Value).toArray below meth c H locs 0 0 (MQ below (jQ_FI_leastOfOne dC dI cI cJ cZ cQ A a_fa a_facu a_fb a_fbcu Post) ([.ref a_fa, .ref a_fb] : List Value).toArray s 0 0 A) (F0 m 0 ls []) by rw [hH, hlc] at hW9; exact hW9
  clear hH hlc
  rw [wp_FI_leastOfOne] at h
  refine lv_iconst (v := 0) hx hb d_FI_leastOfOne_0 (by decide) ?_
  refine lv_istore_n (lv' := [(2, .int 0), (0, .ref a_fa), (1, .ref a_fb)]) hx hb d_FI_leastOfOne_1 rfl hl (by decide) rfl (fun ls hl => ?_)
  obtain ⟨n_2, h⟩ := h
  exact l_FI_leastOfOne_2 C0  n_2 frA crA scA skA ccA ecA m1A ftrA m2A fenA fcuA frB crB scB skB ccB ecB m1B ftrB m2B fenB fcuB 0 a_fatr a_faen a_fbtr a_fben H locs ls h hP hD hS (lv_sub hl [1, 2, 0] rfl)

/-- what OrderMachines$Findings.leastOfOne(LOrderMachines$Findings;LOrderMachines$Findings;)J leaves -/
abbrev jQ_FI_leastOfOneS (dC : Nat → ClassId) (dI : Nat → Nat → Nat) (cI cJ cZ cQ : ClassId) (A : Nat → Prop) (a_fa a_facu : Nat) (Post : Int64 → Int32 → Int32 → Int32 → Int32 → Int32 → Int32 → Nat → (Nat → Int32) → Nat → (Nat → Int64) → (Nat → Int32) → Prop) : Array Value → State → Outcome → State → Prop := va_Ql (fun (r : Int64) (u : Int32 × Int32 × Int32 × Int32 × Int32 × Int32 × Nat × (Nat → Int32) × Nat × (Nat → Int64) × (Nat → Int32)) => Post r u.1 u.2.1 u.2.2.1 u.2.2.2.1 u.2.2.2.2.1 u.2.2.2.2.2.1 u.2.2.2.2.2.2.1 u.2.2.2.2.2.2.2.1 u.2.2.2.2.2.2.2.2.1 u.2.2.2.2.2.2.2.2.2.1 u.2.2.2.2.2.2.2.2.2.2) (fun (u : Int32 × Int32 × Int32 × Int32 × Int32 × Int32 × Nat × (Nat → Int32) × Nat × (Nat → Int64) × (Nat → Int32)) (t : State) => match u with
  | (frA, crA, scA, skA, ccA, ecA, m1A, ftrA, m2A, fenA, fcuA) => ∃ (a_fatr a_faen : Nat), jPost (dC, dI) (jT cI cJ cZ cQ) A [(a_fa, .inr (3, [.int frA, .int crA, .int scA, .int skA, .int ccA, .int ecA, .ref a_fatr, .ref a_faen, .ref a_facu])), (a_fatr, .inl (cI, m1A, .inl ftrA)), (a_faen, .inl (cJ, m2A, .inr (.inl fenA))), (a_facu, .inl (cI, 256, .inl fcuA))] t) A
def wp_FI_leastOfOneS_65 (Post : Int64 → Int32 → Int32 → Int32 → Int32 → Int32 → Int32 → Nat → (Nat → Int32) → Nat → (Nat → Int64) → (Nat → Int32) → Prop)  (frA crA scA skA ccA ecA : Int32) (m1A : Nat) (ftrA : Nat → Int32) (m2A : Nat) (fenA : Nat → Int64) (fcuA : Nat → Int32) (L2 : Int32) : Prop :=
    wp_FI_outcomeAt (fun (r86 : Int64) (u87 : Int32) (u88 : Int32) (u89 : Int32) (u90 : Int32) (u91 : Int32) (u92 : Int32) (u93 : Nat) (u94 : Nat → Int32) (u95 : Nat) (u96 : Nat → Int64) (u97 : Nat → Int32) => Post r86 u87 u88 u89 u90 u91 u92 u93 u94 u95 u96 u97) frA crA scA skA ccA ecA m1A ftrA m2A fenA fcuA L2
def wp_FI_leastOfOneS_29 (Post : Int64 → Int32 → Int32 → Int32 → Int32 → Int32 → Int32 → Nat → (Nat → Int32) → Nat → (Nat → Int64) → (Nat → Int32) → Prop) (K2 : Int32 → Int32 → Int32 → Int32 → Int32 → Int32 → Nat → (Nat → Int32) → Nat → (Nat → Int64) → (Nat → Int32) → Int32 → Prop) (frA crA scA skA ccA ecA : Int32) (m1A : Nat) (ftrA : Nat → Int32) (m2A : Nat) (fenA : Nat → Int64) (fcuA : Nat → Int32) (L2 : Int32) : Prop :=
    ((L2 < ecA → ((ecA ≤ L2 → wp_FI_leastOfOneS_65 Post frA crA scA skA ccA ecA m1A ftrA m2A fenA fcuA L2) ∧
    (¬ ecA ≤ L2 → wp_FI_outcomeAt (fun (r1 : Int64) (u2 : Int32) (u3 : Int32) (u4 : Int32) (u5 : Int32) (u6 : Int32) (u7 : Int32) (u8 : Nat) (u9 : Nat → Int32) (u10 : Nat) (u11 : Nat → Int64) (u12 : Nat → Int32) => wp_FI_outcomeAt (fun (r15 : Int64) (u16 : Int32) (u17 : Int32) (u18 : Int32) (u19 : Int32) (u20 : Int32) (u21 : Int32) (u22 : Nat) (u23 : Nat → Int32) (u24 : Nat) (u25 : Nat → Int64) (u26 : Nat → Int32) => ((0 ≤ (lg_cmp r1 r15) → wp_FI_outcomeAt (fun (r29 : Int64) (u30 : Int32) (u31 : Int32) (u32 : Int32) (u33 : Int32) (u34 : Int32) (u35 : Int32) (u36 : Nat) (u37 : Nat → Int32) (u38 : Nat) (u39 : Nat → Int64) (u40 : Nat → Int32) => wp_FI_outcomeAt (fun (r43 : Int64) (u44 : Int32) (u45 : Int32) (u46 : Int32) (u47 : Int32) (u48 : Int32) (u49 : Int32) (u50 : Nat) (u51 : Nat → Int32) (u52 : Nat) (u53 : Nat → Int64) (u54 : Nat → Int32) => (((lg_cmp r29 r43) ≤ 0 → ∀ x57 : Int32, x57 = L2 + 1 → K2 u44 u45 u46 u47 u48 u49 u50 u51 u52 u53 u54 x57) ∧
        (¬ (lg_cmp r29 r43) ≤ 0 → wp_FI_outcomeAt (fun (r58 : Int64) (u59 : Int32) (u60 : Int32) (u61 : Int32) (u62 : Int32) (u63 : Int32) (u64 : Int32) (u65 : Nat) (u66 : Nat → Int32) (u67 : Nat) (u68 : Nat → Int64) (u69 : Nat → Int32) => Post r58 u59 u60 u61 u62 u63 u64 u65 u66 u67 u68 u69) u44 u45 u46 u47 u48 u49 u50 u51 u52 u53 u54 L2))) u30 u31 u32 u33 u34 u35 u36 u37 u38 u39 u40 L2) u16 u17 u18 u19 u20 u21 u22 u23 u24 u25 u26 L2) ∧
      (¬ 0 ≤ (lg_cmp r1 r15) → wp_FI_leastOfOneS_65 Post u16 u17 u18 u19 u20 u21 u22 u23 u24 u25 u26 L2))) u2 u3 u4 u5 u6 u7 u8 u9 u10 u11 u12 L2) frA crA scA skA ccA ecA m1A ftrA m2A fenA fcuA L2))) ∧
  (¬ L2 < ecA → wp_FI_outcomeAt (fun (r72 : Int64) (u73 : Int32) (u74 : Int32) (u75 : Int32) (u76 : Int32) (u77 : Int32) (u78 : Int32) (u79 : Nat) (u80 : Nat → Int32) (u81 : Nat) (u82 : Nat → Int64) (u83 : Nat → Int32) => Post r72 u73 u74 u75 u76 u77 u78 u79 u80 u81 u82 u83) frA crA scA skA ccA ecA m1A ftrA m2A fenA fcuA L2))
def wp_FI_leastOfOneS_2 (Post : Int64 → Int32 → Int32 → Int32 → Int32 → Int32 → Int32 → Nat → (Nat → Int32) → Nat → (Nat → Int64) → (Nat → Int32) → Prop)  : Nat → Int32 → Int32 → Int32 → Int32 → Int32 → Int32 → Nat → (Nat → Int32) → Nat → (Nat → Int64) → (Nat → Int32) → Int32 → Prop
  | 0, _, _, _, _, _, _, _, _, _, _, _, _ => False
  | n_2 + 1, frA, crA, scA, skA, ccA, ecA, m1A, ftrA, m2A, fenA, fcuA, L2 =>
    ((12000 ≤ L2 → Post (-1) frA crA scA skA ccA ecA m1A ftrA m2A fenA fcuA) ∧
    (¬ 12000 ≤ L2 → ((L2 < ecA → wp_FI_leastOfOneS_29 Post (fun (frA : Int32) (crA : Int32) (scA : Int32) (skA : Int32) (ccA : Int32) (ecA : Int32) (m1A : Nat) (ftrA : Nat → Int32) (m2A : Nat) (fenA : Nat → Int64) (fcuA : Nat → Int32) (L2 : Int32) => wp_FI_leastOfOneS_2 Post n_2 frA crA scA skA ccA ecA m1A ftrA m2A fenA fcuA L2) frA crA scA skA ccA ecA m1A ftrA m2A fenA fcuA L2) ∧
      (¬ L2 < ecA → ((L2 < ecA → wp_FI_leastOfOneS_29 Post (fun (frA : Int32) (crA : Int32) (scA : Int32) (skA : Int32) (ccA : Int32) (ecA : Int32) (m1A : Nat) (ftrA : Nat → Int32) (m2A : Nat) (fenA : Nat → Int64) (fcuA : Nat → Int32) (L2 : Int32) => wp_FI_leastOfOneS_2 Post n_2 frA crA scA skA ccA ecA m1A ftrA m2A fenA fcuA L2) frA crA scA skA ccA ecA m1A ftrA m2A fenA fcuA L2) ∧
        (¬ L2 < ecA → Post (-1) frA crA scA skA ccA ecA m1A ftrA m2A fenA fcuA))))))
/-- OrderMachines$Findings.leastOfOne(LOrderMachines$Findings;LOrderMachines$Findings;)J -/
def wp_FI_leastOfOneS (Post : Int64 → Int32 → Int32 → Int32 → Int32 → Int32 → Int32 → Nat → (Nat → Int32) → Nat → (Nat → Int64) → (Nat → Int32) → Prop) (frA crA scA skA ccA ecA : Int32) (m1A : Nat) (ftrA : Nat → Int32) (m2A : Nat) (fenA : Nat → Int64) (fcuA : Nat → Int32) : Prop :=
  (∃ n_2 : Nat, wp_FI_leastOfOneS_2 Post n_2 frA crA scA skA ccA ecA m1A ftrA m2A fenA fcuA 0)
set_option maxHeartbeats 4000000 in
set_option maxRecDepth 100000 in
theorem l_FI_leastOfOneS_65 {p : Program} {l : Launch} {e : Env} {s : State} {m : MethodId} {args : Array Value} {below : List Frame} {meth : Method} {c : Code} {dC : Nat → ClassId} {dI : Nat → Nat → Nat} {cI cJ cZ cQ : ClassId} {a_fa a_facu : Nat} {A : Nat → Prop} {Post : Int64 → Int32 → Int32 → Int32 → Int32 → Int32 → Int32 → Nat → (Nat → Int32) → Nat → (Nat → Int64) → (Nat → Int32) → Prop} (C0 : jC p l s m args meth c b_FI_leastOfOne (some .long) 3 R_FI (dC, dI) cI cJ cZ cQ A)  : ∀ (frA crA scA skA ccA ecA : Int32) (m1A : Nat) (ftrA : Nat → Int32) (m2A : Nat) (fenA : Nat → Int64) (fcuA : Nat → Int32) (L2 : Int32), ∀ (a_fatr a_faen : Nat), ∀ (H : Heap) (locs : List Loc) (ls : Array Slot), wp_FI_leastOfOneS_65 Post  frA crA scA skA ccA ecA m1A ftrA m2A fenA fcuA L2 → va_P (dC, dI) vwCl [(a_fa, .inr (3, [.int frA, .int crA, .int scA, .int skA, .int ccA, .int ecA, .ref a_fatr, .ref a_faen, .ref a_facu])), (a_fatr, .inl (cI, m1A, .inl ftrA)), (a_faen, .inl (cJ, m2A, .inr (.inl fenA))), (a_facu, .inl (cI, 256, .inl fcuA))] H → va_D A [(a_fa, .inr (3, [.int frA, .int crA, .int scA, .int skA, .int ccA, .int ecA, .ref a_fatr, .ref a_faen, .ref a_facu])), (a_fatr, .inl (cI, m1A, .inl ftrA)), (a_faen, .inl (cJ, m2A, .inr (.inl fenA))), (a_facu, .inl (cI, 256, .inl fcuA))] → va_S A s.heap H locs → lv_has ls 3 [(0, .ref a_fa), (2, .int L2)] → W p l e ({ frames := 11, cells := 0, slots := 0, locals := 171 } : Room) s m args below meth c H locs 0 0 (MQ below (jQ_FI_leastOfOneS dC dI cI cJ cZ cQ A a_fa a_facu Post) args s 0 0 A) (F0 m 65 ls []) := by
  obtain ⟨hx, hb, hr, hml, hown, hts, hlocks, hK, hZ, hA, hst⟩ := id C0
  intro frA crA scA skA ccA ecA m1A ftrA m2A fenA fcuA L2 a_fatr a_faen H locs ls h hP hD hS hl
  rw [wp_FI_leastOfOneS_65] at h
  refine lv_aload_n hx hb d_FI_leastOfOne_65 rfl (lv_at hl 0 rfl) ?_
  refine lv_iload_n hx hb d_FI_leastOfOne_66 rfl (lv_at hl 1 rfl) ?_
  have hPc := hP.sub (ws' := [(a_fa, .inr (3, [.int frA, .int crA, .int scA, .int skA, .int ccA, .int ecA, .ref a_fatr, .ref a_faen, .ref a_facu])), (a_fatr, .inl (cI, m1A, .inl ftrA)), (a_faen, .inl (cJ, m2A, .inr (.inl fenA))), (a_facu, .inl (cI, 256, .inl fcuA))]) [0, 1, 2, 3] rfl
  have hDc := hD.sub (ws' := [(a_fa, .inr (3, [.int frA, .int crA, .int scA, .int skA, .int ccA, .int ecA, .ref a_fatr, .ref a_faen, .ref a_facu])), (a_fatr, .inl (cI, m1A, .inl ftrA)), (a_faen, .inl (cJ, m2A, .inr (.inl fenA))), (a_facu, .inl (cI, 256, .inl fcuA))]) [0, 1, 2, 3] (by decide) rfl
  have hFc := va_free (wc := [(a_fa, .inr (3, [.int frA, .int crA, .int scA, .int skA, .int ccA, .int ecA, .ref a_fatr, .ref a_faen, .ref a_facu])), (a_fatr, .inl (cI, m1A, .inl ftrA)), (a_faen, .inl (cJ, m2A, .inr (.inl fenA))), (a_facu, .inl (cI, 256, .inl fcuA))]) hD hS hA [0, 1, 2, 3] rfl
  refine va_calll (va_runV (As := [.int L2]) (rest := []) ⟨hx, hb, hml, hown, hts⟩ (c_FI_outcomeAt l dC dI cI cJ cZ cQ a_fa a_facu a_fatr a_faen H.size frA crA scA skA ccA ecA m1A ftrA m2A fenA fcuA L2 _  h) (cwV 1 hts (goodIn_app (jGl (List.forall_mem_cons.mpr ⟨mw_823, List.forall_mem_cons.mpr ⟨mw_767, List.forall_mem_cons.mpr ⟨mw_768, List.forall_mem_cons.mpr ⟨mw_6, fun _ h => absurd h List.not_mem_nil⟩⟩⟩⟩)) (jG mw_769)) rfl rfl rfl (by decide +kernel) ⟨Nat.le_of_ble_eq_true rfl, Nat.le_of_ble_eq_true rfl⟩) ⟨jPre_blind, va_recv hK hPc (ci := 3) (q0 := 0) rfl rfl, jPre_in hPc hK hDc hZ hS hFc hst⟩ rfl rfl hl.1 rfl (lv_room (Nat.le_of_ble_eq_true rfl)) d_FI_leastOfOne_67 ⟨(Nat.zero_le _), (Nat.zero_le _)⟩) hS (fun q _ h => hFc q h) hFc (fun r86 u t H1 locs ht hvm hw hB hz1 hk1 hS => ?_)
  obtain ⟨u87, u88, u89, u90, u91, u92, u93, u94, u95, u96, u97⟩ := u
  obtain ⟨q98, q99, hP1, hK1, hD1⟩ := hB
  rw [ht] at hP1
  have h := hw
  obtain ⟨hP, hD⟩ := va_join (wr := []) (w1 := [(a_fa, .inr (3, [.int u87, .int u88, .int u89, .int u90, .int u91, .int u92, .ref q98, .ref q99, .ref a_facu])), (q98, .inl (cI, u93, .inl u94)), (q99, .inl (cJ, u95, .inr (.inl u96))), (a_facu, .inl (cI, 256, .inl u97))]) hP hD [0, 1, 2, 3] [] rfl rfl (by decide) (by decide) hk1 hFc hP1 hD1
  generalize H1 = H at hP hS ⊢
  have hP : va_P (dC, dI) vwCl [(a_fa, .inr (3, [.int u87, .int u88, .int u89, .int u90, .int u91, .int u92, .ref q98, .ref q99, .ref a_facu])), (q98, .inl (cI, u93, .inl u94)), (q99, .inl (cJ, u95, .inr (.inl u96))), (a_facu, .inl (cI, 256, .inl u97))] H := hP
  have hD : va_D A [(a_fa, .inr (3, [.int u87, .int u88, .int u89, .int u90, .int u91, .int u92, .ref q98, .ref q99, .ref a_facu])), (q98, .inl (cI, u93, .inl u94)), (q99, .inl (cJ, u95, .inr (.inl u96))), (a_facu, .inl (cI, 256, .inl u97))] := hD
  have hP9 := hP
  have hD9 := hD
  exact W.lret (v := r86) hx hb hr (fun t ht hW => ⟨⟨r86, (u87, u88, u89, u90, u91, u92, u93, u94, u95, u96, u97), rfl, h, q98, q99, by rw [ht]; exact hP9, va_K.moved hW.alike hK, hD9⟩, hS.F ht⟩) hS.2.2 d_FI_leastOfOne_70
set_option maxHeartbeats 4000000 in
set_option maxRecDepth 100000 in
theorem l_FI_leastOfOneS_29 {p : Program} {l : Launch} {e : Env} {s : State} {m : MethodId} {args : Array Value} {below : List Frame} {meth : Method} {c : Code} {dC : Nat → ClassId} {dI : Nat → Nat → Nat} {cI cJ cZ cQ : ClassId} {a_fa a_facu : Nat} {A : Nat → Prop} {Post : Int64 → Int32 → Int32 → Int32 → Int32 → Int32 → Int32 → Nat → (Nat → Int32) → Nat → (Nat → Int64) → (Nat → Int32) → Prop} (C0 : jC p l s m args meth c b_FI_leastOfOne (some .long) 3 R_FI (dC, dI) cI cJ cZ cQ A) (K2 : Int32 → Int32 → Int32 → Int32 → Int32 → Int32 → Nat → (Nat → Int32) → Nat → (Nat → Int64) → (Nat → Int32) → Int32 → Prop) (hK2 : ∀ (frA crA scA skA ccA ecA : Int32) (m1A : Nat) (ftrA : Nat → Int32) (m2A : Nat) (fenA : Nat → Int64) (fcuA : Nat → Int32) (L2 : Int32), ∀ (a_fatr a_faen : Nat), ∀ (H : Heap) (locs : List Loc) (ls : Array Slot), K2 frA crA scA skA ccA ecA m1A ftrA m2A fenA fcuA L2 → va_P (dC, dI) vwCl [(a_fa, .inr (3, [.int frA, .int crA, .int scA, .int skA, .int ccA, .int ecA, .ref a_fatr, .ref a_faen, .ref a_facu])), (a_fatr, .inl (cI, m1A, .inl ftrA)), (a_faen, .inl (cJ, m2A, .inr (.inl fenA))), (a_facu, .inl (cI, 256, .inl fcuA))] H → va_D A [(a_fa, .inr (3, [.int frA, .int crA, .int scA, .int skA, .int ccA, .int ecA, .ref a_fatr, .ref a_faen, .ref a_facu])), (a_fatr, .inl (cI, m1A, .inl ftrA)), (a_faen, .inl (cJ, m2A, .inr (.inl fenA))), (a_facu, .inl (cI, 256, .inl fcuA))] → va_S A s.heap H locs → lv_has ls 3 [(0, .ref a_fa), (1, .ref a_fa), (2, .int L2)] → W p l e ({ frames := 11, cells := 0, slots := 0, locals := 171 } : Room) s m args below meth c H locs 0 0 (MQ below (jQ_FI_leastOfOneS dC dI cI cJ cZ cQ A a_fa a_facu Post) args s 0 0 A) (F0 m 2 ls [])) : ∀ (frA crA scA skA ccA ecA : Int32) (m1A : Nat) (ftrA : Nat → Int32) (m2A : Nat) (fenA : Nat → Int64) (fcuA : Nat → Int32) (L2 : Int32), ∀ (a_fatr a_faen : Nat), ∀ (H : Heap) (locs : List Loc) (ls : Array Slot), wp_FI_leastOfOneS_29 Post K2 frA crA scA skA ccA ecA m1A ftrA m2A fenA fcuA L2 → va_P (dC, dI) vwCl [(a_fa, .inr (3, [.int frA, .int crA, .int scA, .int skA, .int ccA, .int ecA, .ref a_fatr, .ref a_faen, .ref a_facu])), (a_fatr, .inl (cI, m1A, .inl ftrA)), (a_faen, .inl (cJ, m2A, .inr (.inl fenA))), (a_facu, .inl (cI, 256, .inl fcuA))] H → va_D A [(a_fa, .inr (3, [.int frA, .int crA, .int scA, .int skA, .int ccA, .int ecA, .ref a_fatr, .ref a_faen, .ref a_facu])), (a_fatr, .inl (cI, m1A, .inl ftrA)), (a_faen, .inl (cJ, m2A, .inr (.inl fenA))), (a_facu, .inl (cI, 256, .inl fcuA))] → va_S A s.heap H locs → lv_has ls 3 [(0, .ref a_fa), (1, .ref a_fa), (2, .int L2)] → W p l e ({ frames := 11, cells := 0, slots := 0, locals := 171 } : Room) s m args below meth c H locs 0 0 (MQ below (jQ_FI_leastOfOneS dC dI cI cJ cZ cQ A a_fa a_facu Post) args s 0 0 A) (F0 m 29 ls []) := by
  obtain ⟨hx, hb, hr, hml, hown, hts, hlocks, hK, hZ, hA, hst⟩ := id C0
  intro frA crA scA skA ccA ecA m1A ftrA m2A fenA fcuA L2 a_fatr a_faen H locs ls h hP hD hS hl
  rw [wp_FI_leastOfOneS_29] at h
  refine lv_iload_n hx hb d_FI_leastOfOne_29 rfl (lv_at hl 2 rfl) ?_
  refine lv_aload_n hx hb d_FI_leastOfOne_30 rfl (lv_at hl 0 rfl) ?_
  refine va_get (D := (dC, dI)) (ci := 3) (v := .int ecA) (C := R_FI) (T := T_FI) (N := 9) hx hb hts in_FI hown hK hP 0 rfl rfl 5 (by decide) (hts _ mw_137) (fun _ h9 => h9) rfl d_FI_leastOfOne_31 ?_
  refine lv_icmp_lt (tgt := 43) hx hb d_FI_leastOfOne_34 (by decide) (fun c34 => ?_) (fun c34 => ?_)
  · have h := h.1 c34
    refine lv_iload_n hx hb d_FI_leastOfOne_43 rfl (lv_at hl 2 rfl) ?_
    refine lv_aload_n hx hb d_FI_leastOfOne_44 rfl (lv_at hl 1 rfl) ?_
    refine va_get (D := (dC, dI)) (ci := 3) (v := .int ecA) (C := R_FI) (T := T_FI) (N := 9) hx hb hts in_FI hown hK hP 0 rfl rfl 5 (by decide) (hts _ mw_137) (fun _ h9 => h9) rfl d_FI_leastOfOne_45 ?_
    refine lv_icmp_ge (tgt := 65) hx hb d_FI_leastOfOne_48 (by decide) (fun c48 => ?_) (fun c48 => ?_)
    · have h := h.1 c48
      exact l_FI_leastOfOneS_65 C0  frA crA scA skA ccA ecA m1A ftrA m2A fenA fcuA L2 a_fatr a_faen H locs ls h hP hD hS (lv_sub hl [0, 2] rfl)
    · have h := h.2 c48
      refine lv_aload_n hx hb d_FI_leastOfOne_51 rfl (lv_at hl 0 rfl) ?_
      refine lv_iload_n hx hb d_FI_leastOfOne_52 rfl (lv_at hl 2 rfl) ?_
      have hPc := hP.sub (ws' := [(a_fa, .inr (3, [.int frA, .int crA, .int scA, .int skA, .int ccA, .int ecA, .ref a_fatr, .ref a_faen, .ref a_facu])), (a_fatr, .inl (cI, m1A, .inl ftrA)), (a_faen, .inl (cJ, m2A, .inr (.inl fenA))), (a_facu, .inl (cI, 256, .inl fcuA))]) [0, 1, 2, 3] rfl
      have hDc := hD.sub (ws' := [(a_fa, .inr (3, [.int frA, .int crA, .int scA, .int skA, .int ccA, .int ecA, .ref a_fatr, .ref a_faen, .ref a_facu])), (a_fatr, .inl (cI, m1A, .inl ftrA)), (a_faen, .inl (cJ, m2A, .inr (.inl fenA))), (a_facu, .inl (cI, 256, .inl fcuA))]) [0, 1, 2, 3] (by decide) rfl
      have hFc := va_free (wc := [(a_fa, .inr (3, [.int frA, .int crA, .int scA, .int skA, .int ccA, .int ecA, .ref a_fatr, .ref a_faen, .ref a_facu])), (a_fatr, .inl (cI, m1A, .inl ftrA)), (a_faen, .inl (cJ, m2A, .inr (.inl fenA))), (a_facu, .inl (cI, 256, .inl fcuA))]) hD hS hA [0, 1, 2, 3] rfl
      refine va_calll (va_runV (As := [.int L2]) (rest := []) ⟨hx, hb, hml, hown, hts⟩ (c_FI_outcomeAt l dC dI cI cJ cZ cQ a_fa a_facu a_fatr a_faen H.size frA crA scA skA ccA ecA m1A ftrA m2A fenA fcuA L2 _  h) (cwV 1 hts (goodIn_app (jGl (List.forall_mem_cons.mpr ⟨mw_823, List.forall_mem_cons.mpr ⟨mw_767, List.forall_mem_cons.mpr ⟨mw_768, List.forall_mem_cons.mpr ⟨mw_6, fun _ h => absurd h List.not_mem_nil⟩⟩⟩⟩)) (jG mw_769)) rfl rfl rfl (by decide +kernel) ⟨Nat.le_of_ble_eq_true rfl, Nat.le_of_ble_eq_true rfl⟩) ⟨jPre_blind, va_recv hK hPc (ci := 3) (q0 := 0) rfl rfl, jPre_in hPc hK hDc hZ hS hFc hst⟩ rfl rfl hl.1 rfl (lv_room (Nat.le_of_ble_eq_true rfl)) d_FI_leastOfOne_53 ⟨(Nat.zero_le _), (Nat.zero_le _)⟩) hS (fun q _ h => hFc q h) hFc (fun r1 u t H1 locs ht hvm hw hB hz1 hk1 hS => ?_)
      obtain ⟨u2, u3, u4, u5, u6, u7, u8, u9, u10, u11, u12⟩ := u
      obtain ⟨q13, q14, hP1, hK1, hD1⟩ := hB
      rw [ht] at hP1
      have h := hw
      obtain ⟨hP, hD⟩ := va_join (wr := []) (w1 := [(a_fa, .inr (3, [.int u2, .int u3, .int u4, .int u5, .int u6, .int u7, .ref q13, .ref q14, .ref a_facu])), (q13, .inl (cI, u8, .inl u9)), (q14, .inl (cJ, u10, .inr (.inl u11))), (a_facu, .inl (cI, 256, .inl u12))]) hP hD [0, 1, 2, 3] [] rfl rfl (by decide) (by decide) hk1 hFc hP1 hD1
      generalize H1 = H at hP hS ⊢
      have hP : va_P (dC, dI) vwCl [(a_fa, .inr (3, [.int u2, .int u3, .int u4, .int u5, .int u6, .int u7, .ref q13, .ref q14, .ref a_facu])), (q13, .inl (cI, u8, .inl u9)), (q14, .inl (cJ, u10, .inr (.inl u11))), (a_facu, .inl (cI, 256, .inl u12))] H := hP
      have hD : va_D A [(a_fa, .inr (3, [.int u2, .int u3, .int u4, .int u5, .int u6, .int u7, .ref q13, .ref q14, .ref a_facu])), (q13, .inl (cI, u8, .inl u9)), (q14, .inl (cJ, u10, .inr (.inl u11))), (a_facu, .inl (cI, 256, .inl u12))] := hD
      refine lv_aload_n hx hb d_FI_leastOfOne_56 rfl (lv_at hl 1 rfl) ?_
      refine lv_iload_n hx hb d_FI_leastOfOne_57 rfl (lv_at hl 2 rfl) ?_
      have hPc := hP.sub (ws' := [(a_fa, .inr (3, [.int u2, .int u3, .int u4, .int u5, .int u6, .int u7, .ref q13, .ref q14, .ref a_facu])), (q13, .inl (cI, u8, .inl u9)), (q14, .inl (cJ, u10, .inr (.inl u11))), (a_facu, .inl (cI, 256, .inl u12))]) [0, 1, 2, 3] rfl
      have hDc := hD.sub (ws' := [(a_fa, .inr (3, [.int u2, .int u3, .int u4, .int u5, .int u6, .int u7, .ref q13, .ref q14, .ref a_facu])), (q13, .inl (cI, u8, .inl u9)), (q14, .inl (cJ, u10, .inr (.inl u11))), (a_facu, .inl (cI, 256, .inl u12))]) [0, 1, 2, 3] (by decide) rfl
      have hFc := va_free (wc := [(a_fa, .inr (3, [.int u2, .int u3, .int u4, .int u5, .int u6, .int u7, .ref q13, .ref q14, .ref a_facu])), (q13, .inl (cI, u8, .inl u9)), (q14, .inl (cJ, u10, .inr (.inl u11))), (a_facu, .inl (cI, 256, .inl u12))]) hD hS hA [0, 1, 2, 3] rfl
      refine va_calll (va_runV (As := [.int L2]) (rest := [.long r1]) ⟨hx, hb, hml, hown, hts⟩ (c_FI_outcomeAt l dC dI cI cJ cZ cQ a_fa a_facu q13 q14 H.size u2 u3 u4 u5 u6 u7 u8 u9 u10 u11 u12 L2 _  h) (cwV 1 hts (goodIn_app (jGl (List.forall_mem_cons.mpr ⟨mw_823, List.forall_mem_cons.mpr ⟨mw_767, List.forall_mem_cons.mpr ⟨mw_768, List.forall_mem_cons.mpr ⟨mw_6, fun _ h => absurd h List.not_mem_nil⟩⟩⟩⟩)) (jG mw_769)) rfl rfl rfl (by decide +kernel) ⟨Nat.le_of_ble_eq_true rfl, Nat.le_of_ble_eq_true rfl⟩) ⟨jPre_blind, va_recv hK hPc (ci := 3) (q0 := 0) rfl rfl, jPre_in hPc hK hDc hZ hS hFc hst⟩ rfl rfl hl.1 rfl (lv_room (Nat.le_of_ble_eq_true rfl)) d_FI_leastOfOne_58 ⟨(Nat.zero_le _), (Nat.zero_le _)⟩) hS (fun q _ h => hFc q h) hFc (fun r15 u t H1 locs ht hvm hw hB hz1 hk1 hS => ?_)
      obtain ⟨u16, u17, u18, u19, u20, u21, u22, u23, u24, u25, u26⟩ := u
      obtain ⟨q27, q28, hP1, hK1, hD1⟩ := hB
      rw [ht] at hP1
      have h := hw
      obtain ⟨hP, hD⟩ := va_join (wr := []) (w1 := [(a_fa, .inr (3, [.int u16, .int u17, .int u18, .int u19, .int u20, .int u21, .ref q27, .ref q28, .ref a_facu])), (q27, .inl (cI, u22, .inl u23)), (q28, .inl (cJ, u24, .inr (.inl u25))), (a_facu, .inl (cI, 256, .inl u26))]) hP hD [0, 1, 2, 3] [] rfl rfl (by decide) (by decide) hk1 hFc hP1 hD1
      generalize H1 = H at hP hS ⊢
      have hP : va_P (dC, dI) vwCl [(a_fa, .inr (3, [.int u16, .int u17, .int u18, .int u19, .int u20, .int u21, .ref q27, .ref q28, .ref a_facu])), (q27, .inl (cI, u22, .inl u23)), (q28, .inl (cJ, u24, .inr (.inl u25))), (a_facu, .inl (cI, 256, .inl u26))] H := hP
      have hD : va_D A [(a_fa, .inr (3, [.int u16, .int u17, .int u18, .int u19, .int u20, .int u21, .ref q27, .ref q28, .ref a_facu])), (q27, .inl (cI, u22, .inl u23)), (q28, .inl (cJ, u24, .inr (.inl u25))), (a_facu, .inl (cI, 256, .inl u26))] := hD
      refine W.lcmp hx hb d_FI_leastOfOne_61 ?_
      refine lv_if_ge (tgt := 71) hx hb d_FI_leastOfOne_62 (by decide) (fun c62 => ?_) (fun c62 => ?_)
      · have h := h.1 c62
        refine lv_aload_n hx hb d_FI_leastOfOne_71 rfl (lv_at hl 0 rfl) ?_
        refine lv_iload_n hx hb d_FI_leastOfOne_72 rfl (lv_at hl 2 rfl) ?_
        have hPc := hP.sub (ws' := [(a_fa, .inr (3, [.int u16, .int u17, .int u18, .int u19, .int u20, .int u21, .ref q27, .ref q28, .ref a_facu])), (q27, .inl (cI, u22, .inl u23)), (q28, .inl (cJ, u24, .inr (.inl u25))), (a_facu, .inl (cI, 256, .inl u26))]) [0, 1, 2, 3] rfl
        have hDc := hD.sub (ws' := [(a_fa, .inr (3, [.int u16, .int u17, .int u18, .int u19, .int u20, .int u21, .ref q27, .ref q28, .ref a_facu])), (q27, .inl (cI, u22, .inl u23)), (q28, .inl (cJ, u24, .inr (.inl u25))), (a_facu, .inl (cI, 256, .inl u26))]) [0, 1, 2, 3] (by decide) rfl
        have hFc := va_free (wc := [(a_fa, .inr (3, [.int u16, .int u17, .int u18, .int u19, .int u20, .int u21, .ref q27, .ref q28, .ref a_facu])), (q27, .inl (cI, u22, .inl u23)), (q28, .inl (cJ, u24, .inr (.inl u25))), (a_facu, .inl (cI, 256, .inl u26))]) hD hS hA [0, 1, 2, 3] rfl
        refine va_calll (va_runV (As := [.int L2]) (rest := []) ⟨hx, hb, hml, hown, hts⟩ (c_FI_outcomeAt l dC dI cI cJ cZ cQ a_fa a_facu q27 q28 H.size u16 u17 u18 u19 u20 u21 u22 u23 u24 u25 u26 L2 _  h) (cwV 1 hts (goodIn_app (jGl (List.forall_mem_cons.mpr ⟨mw_823, List.forall_mem_cons.mpr ⟨mw_767, List.forall_mem_cons.mpr ⟨mw_768, List.forall_mem_cons.mpr ⟨mw_6, fun _ h => absurd h List.not_mem_nil⟩⟩⟩⟩)) (jG mw_769)) rfl rfl rfl (by decide +kernel) ⟨Nat.le_of_ble_eq_true rfl, Nat.le_of_ble_eq_true rfl⟩) ⟨jPre_blind, va_recv hK hPc (ci := 3) (q0 := 0) rfl rfl, jPre_in hPc hK hDc hZ hS hFc hst⟩ rfl rfl hl.1 rfl (lv_room (Nat.le_of_ble_eq_true rfl)) d_FI_leastOfOne_73 ⟨(Nat.zero_le _), (Nat.zero_le _)⟩) hS (fun q _ h => hFc q h) hFc (fun r29 u t H1 locs ht hvm hw hB hz1 hk1 hS => ?_)
        obtain ⟨u30, u31, u32, u33, u34, u35, u36, u37, u38, u39, u40⟩ := u
        obtain ⟨q41, q42, hP1, hK1, hD1⟩ := hB
        rw [ht] at hP1
        have h := hw
        obtain ⟨hP, hD⟩ := va_join (wr := []) (w1 := [(a_fa, .inr (3, [.int u30, .int u31, .int u32, .int u33, .int u34, .int u35, .ref q41, .ref q42, .ref a_facu])), (q41, .inl (cI, u36, .inl u37)), (q42, .inl (cJ, u38, .inr (.inl u39))), (a_facu, .inl (cI, 256, .inl u40))]) hP hD [0, 1, 2, 3] [] rfl rfl (by decide) (by decide) hk1 hFc hP1 hD1
        generalize H1 = H at hP hS ⊢
        have hP : va_P (dC, dI) vwCl [(a_fa, .inr (3, [.int u30, .int u31, .int u32, .int u33, .int u34, .int u35, .ref q41, .ref q42, .ref a_facu])), (q41, .inl (cI, u36, .inl u37)), (q42, .inl (cJ, u38, .inr (.inl u39))), (a_facu, .inl (cI, 256, .inl u40))] H := hP
        have hD : va_D A [(a_fa, .inr (3, [.int u30, .int u31, .int u32, .int u33, .int u34, .int u35, .ref q41, .ref q42, .ref a_facu])), (q41, .inl (cI, u36, .inl u37)), (q42, .inl (cJ, u38, .inr (.inl u39))), (a_facu, .inl (cI, 256, .inl u40))] := hD
        refine lv_aload_n hx hb d_FI_leastOfOne_76 rfl (lv_at hl 1 rfl) ?_
        refine lv_iload_n hx hb d_FI_leastOfOne_77 rfl (lv_at hl 2 rfl) ?_
        have hPc := hP.sub (ws' := [(a_fa, .inr (3, [.int u30, .int u31, .int u32, .int u33, .int u34, .int u35, .ref q41, .ref q42, .ref a_facu])), (q41, .inl (cI, u36, .inl u37)), (q42, .inl (cJ, u38, .inr (.inl u39))), (a_facu, .inl (cI, 256, .inl u40))]) [0, 1, 2, 3] rfl
        have hDc := hD.sub (ws' := [(a_fa, .inr (3, [.int u30, .int u31, .int u32, .int u33, .int u34, .int u35, .ref q41, .ref q42, .ref a_facu])), (q41, .inl (cI, u36, .inl u37)), (q42, .inl (cJ, u38, .inr (.inl u39))), (a_facu, .inl (cI, 256, .inl u40))]) [0, 1, 2, 3] (by decide) rfl
        have hFc := va_free (wc := [(a_fa, .inr (3, [.int u30, .int u31, .int u32, .int u33, .int u34, .int u35, .ref q41, .ref q42, .ref a_facu])), (q41, .inl (cI, u36, .inl u37)), (q42, .inl (cJ, u38, .inr (.inl u39))), (a_facu, .inl (cI, 256, .inl u40))]) hD hS hA [0, 1, 2, 3] rfl
        refine va_calll (va_runV (As := [.int L2]) (rest := [.long r29]) ⟨hx, hb, hml, hown, hts⟩ (c_FI_outcomeAt l dC dI cI cJ cZ cQ a_fa a_facu q41 q42 H.size u30 u31 u32 u33 u34 u35 u36 u37 u38 u39 u40 L2 _  h) (cwV 1 hts (goodIn_app (jGl (List.forall_mem_cons.mpr ⟨mw_823, List.forall_mem_cons.mpr ⟨mw_767, List.forall_mem_cons.mpr ⟨mw_768, List.forall_mem_cons.mpr ⟨mw_6, fun _ h => absurd h List.not_mem_nil⟩⟩⟩⟩)) (jG mw_769)) rfl rfl rfl (by decide +kernel) ⟨Nat.le_of_ble_eq_true rfl, Nat.le_of_ble_eq_true rfl⟩) ⟨jPre_blind, va_recv hK hPc (ci := 3) (q0 := 0) rfl rfl, jPre_in hPc hK hDc hZ hS hFc hst⟩ rfl rfl hl.1 rfl (lv_room (Nat.le_of_ble_eq_true rfl)) d_FI_leastOfOne_78 ⟨(Nat.zero_le _), (Nat.zero_le _)⟩) hS (fun q _ h => hFc q h) hFc (fun r43 u t H1 locs ht hvm hw hB hz1 hk1 hS => ?_)
        obtain ⟨u44, u45, u46, u47, u48, u49, u50, u51, u52, u53, u54⟩ := u
        obtain ⟨q55, q56, hP1, hK1, hD1⟩ := hB
        rw [ht] at hP1
        have h := hw
        obtain ⟨hP, hD⟩ := va_join (wr := []) (w1 := [(a_fa, .inr (3, [.int u44, .int u45, .int u46, .int u47, .int u48, .int u49, .ref q55, .ref q56, .ref a_facu])), (q55, .inl (cI, u50, .inl u51)), (q56, .inl (cJ, u52, .inr (.inl u53))), (a_facu, .inl (cI, 256, .inl u54))]) hP hD [0, 1, 2, 3] [] rfl rfl (by decide) (by decide) hk1 hFc hP1 hD1
        generalize H1 = H at hP hS ⊢
        have hP : va_P (dC, dI) vwCl [(a_fa, .inr (3, [.int u44, .int u45, .int u46, .int u47, .int u48, .int u49, .ref q55, .ref q56, .ref a_facu])), (q55, .inl (cI, u50, .inl u51)), (q56, .inl (cJ, u52, .inr (.inl u53))), (a_facu, .inl (cI, 256, .inl u54))] H := hP
        have hD : va_D A [(a_fa, .inr (3, [.int u44, .int u45, .int u46, .int u47, .int u48, .int u49, .ref q55, .ref q56, .ref a_facu])), (q55, .inl (cI, u50, .inl u51)), (q56, .inl (cJ, u52, .inr (.inl u53))), (a_facu, .inl (cI, 256, .inl u54))] := hD
        refine W.lcmp hx hb d_FI_leastOfOne_81 ?_
        refine lv_if_le (tgt := 91) hx hb d_FI_leastOfOne_82 (by decide) (fun c82 => ?_) (fun c82 => ?_)
        · have h := h.1 c82
          obtain ⟨x57, ex57⟩ : ∃ y : Int32, y = L2 + 1 := ⟨_, rfl⟩
          have h := h x57 ex57
          refine lv_iinc (v := x57) (lv' := [(2, .int x57), (0, .ref a_fa), (1, .ref a_fa)]) hx hb d_FI_leastOfOne_91 hl (k := 2) rfl (by rw [ex57]; rfl) (by decide) rfl (fun ls hl => ?_)
          refine lv_goto (tgt := 2) hx hb d_FI_leastOfOne_94 (by decide) ?_
          exact hK2 u44 u45 u46 u47 u48 u49 u50 u51 u52 u53 u54 x57 q55 q56 H locs ls h hP hD hS (lv_sub hl [1, 2, 0] rfl)
        · have h := h.2 c82
          refine lv_aload_n hx hb d_FI_leastOfOne_85 rfl (lv_at hl 1 rfl) ?_
          refine lv_iload_n hx hb d_FI_leastOfOne_86 rfl (lv_at hl 2 rfl) ?_
          have hPc := hP.sub (ws' := [(a_fa, .inr (3, [.int u44, .int u45, .int u46, .int u47, .int u48, .int u49, .ref q55, .ref q56, .ref a_facu])), (q55, .inl (cI, u50, .inl u51)), (q56, .inl (cJ, u52, .inr (.inl u53))), (a_facu, .inl (cI, 256, .inl u54))]) [0, 1, 2, 3] rfl
          have hDc := hD.sub (ws' := [(a_fa, .inr (3, [.int u44, .int u45, .int u46, .int u47, .int u48, .int u49, .ref q55, .ref q56, .ref a_facu])), (q55, .inl (cI, u50, .inl u51)), (q56, .inl (cJ, u52, .inr (.inl u53))), (a_facu, .inl (cI, 256, .inl u54))]) [0, 1, 2, 3] (by decide) rfl
          have hFc := va_free (wc := [(a_fa, .inr (3, [.int u44, .int u45, .int u46, .int u47, .int u48, .int u49, .ref q55, .ref q56, .ref a_facu])), (q55, .inl (cI, u50, .inl u51)), (q56, .inl (cJ, u52, .inr (.inl u53))), (a_facu, .inl (cI, 256, .inl u54))]) hD hS hA [0, 1, 2, 3] rfl
          refine va_calll (va_runV (As := [.int L2]) (rest := []) ⟨hx, hb, hml, hown, hts⟩ (c_FI_outcomeAt l dC dI cI cJ cZ cQ a_fa a_facu q55 q56 H.size u44 u45 u46 u47 u48 u49 u50 u51 u52 u53 u54 L2 _  h) (cwV 1 hts (goodIn_app (jGl (List.forall_mem_cons.mpr ⟨mw_823, List.forall_mem_cons.mpr ⟨mw_767, List.forall_mem_cons.mpr ⟨mw_768, List.forall_mem_cons.mpr ⟨mw_6, fun _ h => absurd h List.not_mem_nil⟩⟩⟩⟩)) (jG mw_769)) rfl rfl rfl (by decide +kernel) ⟨Nat.le_of_ble_eq_true rfl, Nat.le_of_ble_eq_true rfl⟩) ⟨jPre_blind, va_recv hK hPc (ci := 3) (q0 := 0) rfl rfl, jPre_in hPc hK hDc hZ hS hFc hst⟩ rfl rfl hl.1 rfl (lv_room (Nat.le_of_ble_eq_true rfl)) d_FI_leastOfOne_87 ⟨(Nat.zero_le _), (Nat.zero_le _)⟩) hS (fun q _ h => hFc q h) hFc (fun r58 u t H1 locs ht hvm hw hB hz1 hk1 hS => ?_)
          obtain ⟨u59, u60, u61, u62, u63, u64, u65, u66, u67, u68, u69⟩ := u
          obtain ⟨q70, q71, hP1, hK1, hD1⟩ := hB
          rw [ht] at hP1
          have h := hw
          obtain ⟨hP, hD⟩ := va_join (wr := []) (w1 := [(a_fa, .inr (3, [.int u59, .int u60, .int u61, .int u62, .int u63, .int u64, .ref q70, .ref q71, .ref a_facu])), (q70, .inl (cI, u65, .inl u66)), (q71, .inl (cJ, u67, .inr (.inl u68))), (a_facu, .inl (cI, 256, .inl u69))]) hP hD [0, 1, 2, 3] [] rfl rfl (by decide) (by decide) hk1 hFc hP1 hD1
          generalize H1 = H at hP hS ⊢
          have hP : va_P (dC, dI) vwCl [(a_fa, .inr (3, [.int u59, .int u60, .int u61, .int u62, .int u63, .int u64, .ref q70, .ref q71, .ref a_facu])), (q70, .inl (cI, u65, .inl u66)), (q71, .inl (cJ, u67, .inr (.inl u68))), (a_facu, .inl (cI, 256, .inl u69))] H := hP
          have hD : va_D A [(a_fa, .inr (3, [.int u59, .int u60, .int u61, .int u62, .int u63, .int u64, .ref q70, .ref q71, .ref a_facu])), (q70, .inl (cI, u65, .inl u66)), (q71, .inl (cJ, u67, .inr (.inl u68))), (a_facu, .inl (cI, 256, .inl u69))] := hD
          have hP9 := hP
          have hD9 := hD
          exact W.lret (v := r58) hx hb hr (fun t ht hW => ⟨⟨r58, (u59, u60, u61, u62, u63, u64, u65, u66, u67, u68, u69), rfl, h, q70, q71, by rw [ht]; exact hP9, va_K.moved hW.alike hK, hD9⟩, hS.F ht⟩) hS.2.2 d_FI_leastOfOne_90
      · have h := h.2 c62
        exact l_FI_leastOfOneS_65 C0  u16 u17 u18 u19 u20 u21 u22 u23 u24 u25 u26 L2 q27 q28 H locs ls h hP hD hS (lv_sub hl [0, 2] rfl)
  · have h := h.2 c34
    refine lv_aload_n hx hb d_FI_leastOfOne_37 rfl (lv_at hl 1 rfl) ?_
    refine lv_iload_n hx hb d_FI_leastOfOne_38 rfl (lv_at hl 2 rfl) ?_
    have hPc := hP.sub (ws' := [(a_fa, .inr (3, [.int frA, .int crA, .int scA, .int skA, .int ccA, .int ecA, .ref a_fatr, .ref a_faen, .ref a_facu])), (a_fatr, .inl (cI, m1A, .inl ftrA)), (a_faen, .inl (cJ, m2A, .inr (.inl fenA))), (a_facu, .inl (cI, 256, .inl fcuA))]) [0, 1, 2, 3] rfl
    have hDc := hD.sub (ws' := [(a_fa, .inr (3, [.int frA, .int crA, .int scA, .int skA, .int ccA, .int ecA, .ref a_fatr, .ref a_faen, .ref a_facu])), (a_fatr, .inl (cI, m1A, .inl ftrA)), (a_faen, .inl (cJ, m2A, .inr (.inl fenA))), (a_facu, .inl (cI, 256, .inl fcuA))]) [0, 1, 2, 3] (by decide) rfl
    have hFc := va_free (wc := [(a_fa, .inr (3, [.int frA, .int crA, .int scA, .int skA, .int ccA, .int ecA, .ref a_fatr, .ref a_faen, .ref a_facu])), (a_fatr, .inl (cI, m1A, .inl ftrA)), (a_faen, .inl (cJ, m2A, .inr (.inl fenA))), (a_facu, .inl (cI, 256, .inl fcuA))]) hD hS hA [0, 1, 2, 3] rfl
    refine va_calll (va_runV (As := [.int L2]) (rest := []) ⟨hx, hb, hml, hown, hts⟩ (c_FI_outcomeAt l dC dI cI cJ cZ cQ a_fa a_facu a_fatr a_faen H.size frA crA scA skA ccA ecA m1A ftrA m2A fenA fcuA L2 _  h) (cwV 1 hts (goodIn_app (jGl (List.forall_mem_cons.mpr ⟨mw_823, List.forall_mem_cons.mpr ⟨mw_767, List.forall_mem_cons.mpr ⟨mw_768, List.forall_mem_cons.mpr ⟨mw_6, fun _ h => absurd h List.not_mem_nil⟩⟩⟩⟩)) (jG mw_769)) rfl rfl rfl (by decide +kernel) ⟨Nat.le_of_ble_eq_true rfl, Nat.le_of_ble_eq_true rfl⟩) ⟨jPre_blind, va_recv hK hPc (ci := 3) (q0 := 0) rfl rfl, jPre_in hPc hK hDc hZ hS hFc hst⟩ rfl rfl hl.1 rfl (lv_room (Nat.le_of_ble_eq_true rfl)) d_FI_leastOfOne_39 ⟨(Nat.zero_le _), (Nat.zero_le _)⟩) hS (fun q _ h => hFc q h) hFc (fun r72 u t H1 locs ht hvm hw hB hz1 hk1 hS => ?_)
    obtain ⟨u73, u74, u75, u76, u77, u78, u79, u80, u81, u82, u83⟩ := u
    obtain ⟨q84, q85, hP1, hK1, hD1⟩ := hB
    rw [ht] at hP1
    have h := hw
    obtain ⟨hP, hD⟩ := va_join (wr := []) (w1 := [(a_fa, .inr (3, [.int u73, .int u74, .int u75, .int u76, .int u77, .int u78, .ref q84, .ref q85, .ref a_facu])), (q84, .inl (cI, u79, .inl u80)), (q85, .inl (cJ, u81, .inr (.inl u82))), (a_facu, .inl (cI, 256, .inl u83))]) hP hD [0, 1, 2, 3] [] rfl rfl (by decide) (by decide) hk1 hFc hP1 hD1
    generalize H1 = H at hP hS ⊢
    have hP : va_P (dC, dI) vwCl [(a_fa, .inr (3, [.int u73, .int u74, .int u75, .int u76, .int u77, .int u78, .ref q84, .ref q85, .ref a_facu])), (q84, .inl (cI, u79, .inl u80)), (q85, .inl (cJ, u81, .inr (.inl u82))), (a_facu, .inl (cI, 256, .inl u83))] H := hP
    have hD : va_D A [(a_fa, .inr (3, [.int u73, .int u74, .int u75, .int u76, .int u77, .int u78, .ref q84, .ref q85, .ref a_facu])), (q84, .inl (cI, u79, .inl u80)), (q85, .inl (cJ, u81, .inr (.inl u82))), (a_facu, .inl (cI, 256, .inl u83))] := hD
    have hP9 := hP
    have hD9 := hD
    exact W.lret (v := r72) hx hb hr (fun t ht hW => ⟨⟨r72, (u73, u74, u75, u76, u77, u78, u79, u80, u81, u82, u83), rfl, h, q84, q85, by rw [ht]; exact hP9, va_K.moved hW.alike hK, hD9⟩, hS.F ht⟩) hS.2.2 d_FI_leastOfOne_42
set_option maxHeartbeats 4000000 in
set_option maxRecDepth 100000 in
theorem l_FI_leastOfOneS_2 {p : Program} {l : Launch} {e : Env} {s : State} {m : MethodId} {args : Array Value} {below : List Frame} {meth : Method} {c : Code} {dC : Nat → ClassId} {dI : Nat → Nat → Nat} {cI cJ cZ cQ : ClassId} {a_fa a_facu : Nat} {A : Nat → Prop} {Post : Int64 → Int32 → Int32 → Int32 → Int32 → Int32 → Int32 → Nat → (Nat → Int32) → Nat → (Nat → Int64) → (Nat → Int32) → Prop} (C0 : jC p l s m args meth c b_FI_leastOfOne (some .long) 3 R_FI (dC, dI) cI cJ cZ cQ A)  : ∀ n9 : Nat, ∀ (frA crA scA skA ccA ecA : Int32) (m1A : Nat) (ftrA : Nat → Int32) (m2A : Nat) (fenA : Nat → Int64) (fcuA : Nat → Int32) (L2 : Int32), ∀ (a_fatr a_faen : Nat), ∀ (H : Heap) (locs : List Loc) (ls : Array Slot), wp_FI_leastOfOneS_2 Post  n9 frA crA scA skA ccA ecA m1A ftrA m2A fenA fcuA L2 → va_P (dC, dI) vwCl [(a_fa, .inr (3, [.int frA, .int crA, .int scA, .int skA, .int ccA, .int ecA, .ref a_fatr, .ref a_faen, .ref a_facu])), (a_fatr, .inl (cI, m1A, .inl ftrA)), (a_faen, .inl (cJ, m2A, .inr (.inl fenA))), (a_facu, .inl (cI, 256, .inl fcuA))] H → va_D A [(a_fa, .inr (3, [.int frA, .int crA, .int scA, .int skA, .int ccA, .int ecA, .ref a_fatr, .ref a_faen, .ref a_facu])), (a_fatr, .inl (cI, m1A, .inl ftrA)), (a_faen, .inl (cJ, m2A, .inr (.inl fenA))), (a_facu, .inl (cI, 256, .inl fcuA))] → va_S A s.heap H locs → lv_has ls 3 [(0, .ref a_fa), (1, .ref a_fa), (2, .int L2)] → W p l e ({ frames := 11, cells := 0, slots := 0, locals := 171 } : Room) s m args below meth c H locs 0 0 (MQ below (jQ_FI_leastOfOneS dC dI cI cJ cZ cQ A a_fa a_facu Post) args s 0 0 A) (F0 m 2 ls []) := by
  obtain ⟨hx, hb, hr, hml, hown, hts, hlocks, hK, hZ, hA, hst⟩ := id C0
  intro n9
  induction n9 with
  | zero =>
    intro frA crA scA skA ccA ecA m1A ftrA m2A fenA fcuA L2 a_fatr a_faen H locs ls h hP hD hS hl
    exact False.elim h
  | succ n_2 ih =>
    intro frA crA scA skA ccA ecA m1A ftrA m2A fenA fcuA L2 a_fatr a_faen H locs ls h hP hD hS hl
    rw [wp_FI_leastOfOneS_2] at h
    refine lv_iload_n hx hb d_FI_leastOfOne_2 rfl (lv_at hl 2 rfl) ?_
    refine lv_sipush (v := 12000) hx hb d_FI_leastOfOne_3 (by decide) ?_
    refine lv_icmp_ge (tgt := 97) hx hb d_FI_leastOfOne_6 (by decide) (fun c6 => ?_) (fun c6 => ?_)
    · have h := h.1 c6
      refine lv_ldc2 (v := (-1)) hx hb hown (hts _ mw_834) d_FI_leastOfOne_97 ?_
      have hP9 := hP
      have hD9 := hD
      exact W.lret (v := (-1)) hx hb hr (fun t ht hW => ⟨⟨(-1), (frA, crA, scA, skA, ccA, ecA, m1A, ftrA, m2A, fenA, fcuA), rfl, h, a_fatr, a_faen, by rw [ht]; exact hP9, va_K.moved hW.alike hK, hD9⟩, hS.F ht⟩) hS.2.2 d_FI_leastOfOne_100
    · have h := h.2 c6
      refine lv_iload_n hx hb d_FI_leastOfOne_9 rfl (lv_at hl 2 rfl) ?_
      refine lv_aload_n hx hb d_FI_leastOfOne_10 rfl (lv_at hl 0 rfl) ?_
      refine va_get (D := (dC, dI)) (ci := 3) (v := .int ecA) (C := R_FI) (T := T_FI) (N := 9) hx hb hts in_FI hown hK hP 0 rfl rfl 5 (by decide) (hts _ mw_137) (fun _ h9 => h9) rfl d_FI_leastOfOne_11 ?_
      refine lv_icmp_lt (tgt := 29) hx hb d_FI_leastOfOne_14 (by decide) (fun c14 => ?_) (fun c14 => ?_)
      · have h := h.1 c14
        exact l_FI_leastOfOneS_29 C0 (fun (frA : Int32) (crA : Int32) (scA : Int32) (skA : Int32) (ccA : Int32) (ecA : Int32) (m1A : Nat) (ftrA : Nat → Int32) (m2A : Nat) (fenA : Nat → Int64) (fcuA : Nat → Int32) (L2 : Int32) => wp_FI_leastOfOneS_2 Post n_2 frA crA scA skA ccA ecA m1A ftrA m2A fenA fcuA L2) ih frA crA scA skA ccA ecA m1A ftrA m2A fenA fcuA L2 a_fatr a_faen H locs ls h hP hD hS hl
      · have h := h.2 c14
        refine lv_iload_n hx hb d_FI_leastOfOne_17 rfl (lv_at hl 2 rfl) ?_
        refine lv_aload_n hx hb d_FI_leastOfOne_18 rfl (lv_at hl 1 rfl) ?_
        refine va_get (D := (dC, dI)) (ci := 3) (v := .int ecA) (C := R_FI) (T := T_FI) (N := 9) hx hb hts in_FI hown hK hP 0 rfl rfl 5 (by decide) (hts _ mw_137) (fun _ h9 => h9) rfl d_FI_leastOfOne_19 ?_
        refine lv_icmp_lt (tgt := 29) hx hb d_FI_leastOfOne_22 (by decide) (fun c22 => ?_) (fun c22 => ?_)
        · have h := h.1 c22
          exact l_FI_leastOfOneS_29 C0 (fun (frA : Int32) (crA : Int32) (scA : Int32) (skA : Int32) (ccA : Int32) (ecA : Int32) (m1A : Nat) (ftrA : Nat → Int32) (m2A : Nat) (fenA : Nat → Int64) (fcuA : Nat → Int32) (L2 : Int32) => wp_FI_leastOfOneS_2 Post n_2 frA crA scA skA ccA ecA m1A ftrA m2A fenA fcuA L2) ih frA crA scA skA ccA ecA m1A ftrA m2A fenA fcuA L2 a_fatr a_faen H locs ls h hP hD hS hl
        · have h := h.2 c22
          refine lv_ldc2 (v := (-1)) hx hb hown (hts _ mw_834) d_FI_leastOfOne_25 ?_
          have hP9 := hP
          have hD9 := hD
          exact W.lret (v := (-1)) hx hb hr (fun t ht hW => ⟨⟨(-1), (frA, crA, scA, skA, ccA, ecA, m1A, ftrA, m2A, fenA, fcuA), rfl, h, a_fatr, a_faen, by rw [ht]; exact hP9, va_K.moved hW.alike hK, hD9⟩, hS.F ht⟩) hS.2.2 d_FI_leastOfOne_28
set_option maxHeartbeats 4000000 in
set_option maxRecDepth 100000 in
theorem c_FI_leastOfOneS (l : Launch) (dC : Nat → ClassId) (dI : Nat → Nat → Nat) (cI cJ cZ cQ : ClassId) (a_fa a_facu : Nat) (a_fatr a_faen : Nat) (sz : Nat) (frA crA scA skA ccA ecA : Int32) (m1A : Nat) (ftrA : Nat → Int32) (m2A : Nat) (fenA : Nat → Int64) (fcuA : Nat → Int32) (Post : Int64 → Int32 → Int32 → Int32 → Int32 → Int32 → Int32 → Nat → (Nat → Int32) → Nat → (Nat → Int64) → (Nat → Int32) → Prop) (h : wp_FI_leastOfOneS Post frA crA scA skA ccA ecA m1A ftrA m2A fenA fcuA) : Met l y_FI_leastOfOne (.code y_FI_leastOfOne b_FI_leastOfOne 3 (some .long) :: jW) ({ frames := 11, cells := 0, slots := 0, locals := 171 } : Room) (jPre l (dC, dI) cI cJ cZ cQ [(a_fa, .inr (3, [.int frA, .int crA, .int scA, .int skA, .int ccA, .int ecA, .ref a_fatr, .ref a_faen, .ref a_facu])), (a_fatr, .inl (cI, m1A, .inl ftrA)), (a_faen, .inl (cJ, m2A, .inr (.inl fenA))), (a_facu, .inl (cI, 256, .inl fcuA))] sz [.ref a_fa, .ref a_fa]) (jQ_FI_leastOfOneS dC dI cI cJ cZ cQ (va_A [(a_fa, .inr (3, [.int frA, .int crA, .int scA, .int skA, .int ccA, .int ecA, .ref a_fatr, .ref a_faen, .ref a_facu])), (a_fatr, .inl (cI, m1A, .inl ftrA)), (a_faen, .inl (cJ, m2A, .inr (.inl fenA))), (a_facu, .inl (cI, 256, .inl fcuA))] sz) a_fa a_facu Post) 0 0 (va_A [(a_fa, .inr (3, [.int frA, .int crA, .int scA, .int skA, .int ccA, .int ecA, .ref a_fatr, .ref a_faen, .ref a_facu])), (a_fatr, .inl (cI, m1A, .inl ftrA)), (a_faen, .inl (cJ, m2A, .inr (.inl fenA))), (a_facu, .inl (cI, 256, .inl fcuA))] sz) := by
  refine Met.ofW (cc := b_FI_leastOfOne) (maxL := 3) (ret := (some .long)) (by decide) rfl ?_
  intro p e s m args below meth c s₁ B hml hv
  obtain ⟨rfl, hsz, hP, hK, hD0, hZ, hst⟩ := hv
  subst hsz
  have hD := hD0.self (sz := s.heap.size)
  generalize hAe : va_A [(a_fa, .inr (3, [.int frA, .int crA, .int scA, .int skA, .int ccA, .int ecA, .ref a_fatr, .ref a_faen, .ref a_facu])), (a_fatr, .inl (cI, m1A, .inl ftrA)), (a_faen, .inl (cJ, m2A, .inr (.inl fenA))), (a_facu, .inl (cI, 256, .inl fcuA))] s.heap.size = A at hD hZ ⊢
  have hA : ∀ q : Nat, s.heap.size ≤ q → A q := fun q h => by rw [← hAe]; exact Or.inr h
  have C0 : jC p l s m ([.ref a_fa, .ref a_fa] : List Value).toArray meth c b_FI_leastOfOne (some .long) 3 R_FI (dC, dI) cI cJ cZ cQ A := ⟨B.exec, B.bytes, B.returns, hml, findClass_of_methodNamed B.named, fun w hw => atoms_spec (ws := (.code y_FI_leastOfOne b_FI_leastOfOne 3 (some .long) :: jW)) B.pre w (List.mem_cons_of_mem _ hw), B.notSynchronized, hK, hZ, hA, hst⟩
  obtain ⟨hx, hb, hr, hml, hown, hts, hlocks, hK, hZ, hA, hst⟩ := id C0
  have hS : va_S A s.heap s.heap [] := va_S.rf
  have hl := lv_entry ([.ref a_fa, .ref a_fa]) (n := 3) (Nat.le_of_ble_eq_true rfl)
  rw [lg_entry_eq]
  generalize (lg_sl ([.ref a_fa, .ref a_fa]) ++ List.replicate (3 - (lg_sl ([.ref a_fa, .ref a_fa])).length) Slot.unset).toArray = ls at hl ⊢
  have hl : lv_has ls 3 [(0, .ref a_fa), (1, .ref a_fa)] := hl
  obtain ⟨H, hH⟩ : ∃ H : Heap, H = s.heap := ⟨_, rfl⟩
  obtain ⟨locs, hlc⟩ : ∃ L : List Loc, L = [] := ⟨_, rfl⟩
  have hP : va_P (dC, dI) vwCl [(a_fa, .inr (3, [.int frA, .int crA, .int scA, .int skA, .int ccA, .int ecA, .ref a_fatr, .ref a_faen, .ref a_facu])), (a_fatr, .inl (cI, m1A, .inl ftrA)), (a_faen, .inl (cJ, m2A, .inr (.inl fenA))), (a_facu, .inl (cI, 256, .inl fcuA))] H := by rw [hH]; exact hP
  have hS : va_S A s.heap H locs := by rw [hH, hlc]; exact hS
  suffices hW9 : W p l e ({ frames := 11, cells := 0, slots := 0, locals := 171 } : Room) s m ([.ref a_fa, .ref a_fa] : List Value).toArray below meth c H locs 0 0 (MQ below (jQ_FI_leastOfOneS dC dI cI cJ cZ cQ A a_fa a_facu Post) ([.ref a_fa, .ref a_fa] : List Value).toArray s 0 0 A) (F0 m 0 ls []) by rw [hH, hlc] at hW9; exact hW9
  clear hH hlc
  rw [wp_FI_leastOfOneS] at h
  refine lv_iconst (v := 0) hx hb d_FI_leastOfOne_0 (by decide) ?_
  refine lv_istore_n (lv' := [(2, .int 0), (0, .ref a_fa), (1, .ref a_fa)]) hx hb d_FI_leastOfOne_1 rfl hl (by decide) rfl (fun ls hl => ?_)
  obtain ⟨n_2, h⟩ := h
  exact l_FI_leastOfOneS_2 C0  n_2 frA crA scA skA ccA ecA m1A ftrA m2A fenA fcuA 0 a_fatr a_faen H locs ls h hP hD hS (lv_sub hl [1, 2, 0] rfl)

/-- what OrderMachines$Program.<init>()V leaves -/
abbrev jQ_PR_init (dC : Nat → ClassId) (dI : Nat → Nat → Nat) (cI cJ cZ cQ : ClassId) (A : Nat → Prop) (a_pr : Nat) (Post : (Nat → Int32) → (Nat → Int32) → Prop) : Array Value → State → Outcome → State → Prop := va_Qv (fun (u : (Nat → Int32) × (Nat → Int32)) => Post u.1 u.2) (fun (u : (Nat → Int32) × (Nat → Int32)) (t : State) => match u with
  | (pc, pl) => ∃ (a_codes a_lens : Nat), jPost (dC, dI) (jT cI cJ cZ cQ) A [(a_pr, .inr (0, [.ref a_codes, .ref a_lens])), (a_codes, .inl (cI, 20, .inl pc)), (a_lens, .inl (cI, 4, .inl pl))] t) A
/-- OrderMachines$Program.<init>()V -/
def wp_PR_init (Post : (Nat → Int32) → (Nat → Int32) → Prop) (mc ms : Nat)  : Prop :=
  0 + 1 ≤ mc ∧ 0 + 20 ≤ ms ∧ (0 + 1) + 1 ≤ mc ∧ (0 + 20) + 4 ≤ ms ∧ ((0 + 1) + 1) ≤ mc ∧ ((0 + 20) + 4) ≤ ms ∧ Post (fun _ => 0) (fun _ => 0)
set_option maxHeartbeats 4000000 in
set_option maxRecDepth 100000 in
theorem c_PR_init (l : Launch) (dC : Nat → ClassId) (dI : Nat → Nat → Nat) (cI cJ cZ cQ : ClassId) (a_pr : Nat) (sz : Nat)  (mc ms : Nat) (Post : (Nat → Int32) → (Nat → Int32) → Prop) (h : wp_PR_init Post mc ms ) : Met l y_PR_init (.code y_PR_init b_PR_init 1 none :: jW) ({ frames := 10, cells := mc, slots := ms, locals := 150 } : Room) (jPre l (dC, dI) cI cJ cZ cQ [(a_pr, .inr (0, [.null, .null]))] sz [.ref a_pr]) (jQ_PR_init dC dI cI cJ cZ cQ (va_A [(a_pr, .inr (0, [.null, .null]))] sz) a_pr Post) mc ms (va_A [(a_pr, .inr (0, [.null, .null]))] sz) := by
  refine Met.ofW (cc := b_PR_init) (maxL := 1) (ret := none) (by decide) rfl ?_
  intro p e s m args below meth c s₁ B hml hv
  obtain ⟨rfl, hsz, hP, hK, hD0, hZ, hst⟩ := hv
  subst hsz
  have hD := hD0.self (sz := s.heap.size)
  generalize hAe : va_A [(a_pr, .inr (0, [.null, .null]))] s.heap.size = A at hD hZ ⊢
  have hA : ∀ q : Nat, s.heap.size ≤ q → A q := fun q h => by rw [← hAe]; exact Or.inr h
  have C0 : jC p l s m ([.ref a_pr] : List Value).toArray meth c b_PR_init none 1 R_PR (dC, dI) cI cJ cZ cQ A := ⟨B.exec, B.bytes, B.returns, hml, findClass_of_methodNamed B.named, fun w hw => atoms_spec (ws := (.code y_PR_init b_PR_init 1 none :: jW)) B.pre w (List.mem_cons_of_mem _ hw), B.notSynchronized, hK, hZ, hA, hst⟩
  have hin : meth.name = "<init>" := (name_of_methodNamed B.named B.method).1
  obtain ⟨hx, hb, hr, hml, hown, hts, hlocks, hK, hZ, hA, hst⟩ := id C0
  have hS : va_S A s.heap s.heap [] := va_S.rf
  have hl := lv_entry ([.ref a_pr]) (n := 1) (Nat.le_of_ble_eq_true rfl)
  rw [lg_entry_eq]
  generalize (lg_sl ([.ref a_pr]) ++ List.replicate (1 - (lg_sl ([.ref a_pr])).length) Slot.unset).toArray = ls at hl ⊢
  have hl : lv_has ls 1 [(0, .ref a_pr)] := hl
  obtain ⟨H, hH⟩ : ∃ H : Heap, H = s.heap := ⟨_, rfl⟩
  obtain ⟨locs, hlc⟩ : ∃ L : List Loc, L = [] := ⟨_, rfl⟩
  have hP : va_P (dC, dI) vwCl [(a_pr, .inr (0, [.null, .null]))] H := by rw [hH]; exact hP
  have hS : va_S A s.heap H locs := by rw [hH, hlc]; exact hS
  suffices hW9 : W p l e ({ frames := 10, cells := mc, slots := ms, locals := 150 } : Room) s m ([.ref a_pr] : List Value).toArray below meth c H locs 0 0 (MQ below (jQ_PR_init dC dI cI cJ cZ cQ A a_pr Post) ([.ref a_pr] : List Value).toArray s mc ms A) (F0 m 0 ls []) by rw [hH, hlc] at hW9; exact hW9
  clear hH hlc
  rw [wp_PR_init] at h
  refine lv_aload_n hx hb d_PR_init_0 rfl (lv_at hl 0 rfl) ?_
  refine W.objInit hx hb hown (hts _ mw_39) (hts _ mw_32) (hts _ mw_33) rfl (by rw [hml]; exact hl.1) rfl d_PR_init_1 (Nat.le_of_ble_eq_true rfl) (Nat.le_of_ble_eq_true rfl) ?_
  refine W.eq (g2 := F0 m 4 ls []) rfl ?_
  refine lv_aload_n hx hb d_PR_init_4 rfl (lv_at hl 0 rfl) ?_
  refine lv_bipush (v := 20) hx hb d_PR_init_5 (by decide) ?_
  have hrc := h.1
  have hrs := h.2.1
  have h := h.2.2
  refine va_newa (atype := .int) (ty := .int) (N' := 20) (a0 := (20, .inl (fun _ => 0))) hx hb (hts _ mw_47) rfl hK hP hD hS hA (fun _ => rfl) (by decide) (by decide) (by decide) hrc hrs d_PR_init_7 (fun q1 cA9 H hK9 hP hD hS => ?_)
  obtain rfl := (jx_int 0 hK9 rfl).symm
  have hP : va_P (dC, dI) vwCl [(a_pr, .inr (0, [.null, .null])), (q1, .inl (cI, 20, .inl (fun _ => 0)))] H := hP
  have hD : va_D A [(a_pr, .inr (0, [.null, .null])), (q1, .inl (cI, 20, .inl (fun _ => 0)))] := hD
  refine va_putF (D := (dC, dI)) (ci := 0) (v := .ref q1) (ty := (.array .int)) (C := R_PR) (T := T_PR) (N := 2) hx hb hts in_PR ty_PR tok_PR nm_PR hown hK hP hD hS 0 rfl rfl 0 (by decide) (hts _ mw_40) (fun _ h9 => h9) rfl hin rfl (by decide +kernel) rfl rfl (Nat.le_of_ble_eq_true rfl) d_PR_init_9 (fun H locs hP hD hS => ?_)
  have hP : va_P (dC, dI) vwCl [(a_pr, .inr (0, [.ref q1, .null])), (q1, .inl (cI, 20, .inl (fun _ => 0)))] H := hP
  have hD : va_D A [(a_pr, .inr (0, [.ref q1, .null])), (q1, .inl (cI, 20, .inl (fun _ => 0)))] := hD
  refine lv_aload_n hx hb d_PR_init_12 rfl (lv_at hl 0 rfl) ?_
  refine lv_iconst (v := 4) hx hb d_PR_init_13 (by decide) ?_
  have hrc := h.1
  have hrs := h.2.1
  have h := h.2.2
  refine va_newa (atype := .int) (ty := .int) (N' := 4) (a0 := (4, .inl (fun _ => 0))) hx hb (hts _ mw_47) rfl hK hP hD hS hA (fun _ => rfl) (by decide) (by decide) (by decide) hrc hrs d_PR_init_14 (fun q2 cA9 H hK9 hP hD hS => ?_)
  obtain rfl := (jx_int 0 hK9 rfl).symm
  have hP : va_P (dC, dI) vwCl [(a_pr, .inr (0, [.ref q1, .null])), (q1, .inl (cI, 20, .inl (fun _ => 0))), (q2, .inl (cI, 4, .inl (fun _ => 0)))] H := hP
  have hD : va_D A [(a_pr, .inr (0, [.ref q1, .null])), (q1, .inl (cI, 20, .inl (fun _ => 0))), (q2, .inl (cI, 4, .inl (fun _ => 0)))] := hD
  refine va_putF (D := (dC, dI)) (ci := 0) (v := .ref q2) (ty := (.array .int)) (C := R_PR) (T := T_PR) (N := 2) hx hb hts in_PR ty_PR tok_PR nm_PR hown hK hP hD hS 0 rfl rfl 1 (by decide) (hts _ mw_41) (fun _ h9 => h9) rfl hin rfl (by decide +kernel) rfl rfl (Nat.le_of_ble_eq_true rfl) d_PR_init_16 (fun H locs hP hD hS => ?_)
  have hP : va_P (dC, dI) vwCl [(a_pr, .inr (0, [.ref q1, .ref q2])), (q1, .inl (cI, 20, .inl (fun _ => 0))), (q2, .inl (cI, 4, .inl (fun _ => 0)))] H := hP
  have hD : va_D A [(a_pr, .inr (0, [.ref q1, .ref q2])), (q1, .inl (cI, 20, .inl (fun _ => 0))), (q2, .inl (cI, 4, .inl (fun _ => 0)))] := hD
  refine W.widen (k := mc) (n := ms) h.1 h.2.1 ?_
  have h := h.2.2
  have hP9 := hP
  have hD9 := hD
  exact W.vret hx hb hr (fun t ht hW => ⟨⟨(fun _ => 0, fun _ => 0), rfl, h, q1, q2, by rw [ht]; exact hP9, va_K.moved hW.alike hK, hD9⟩, hS.F ht⟩) hS.2.2 d_PR_init_19

/-- what OrderMachines$Room.<init>()V leaves -/
abbrev jQ_RO_init (dC : Nat → ClassId) (dI : Nat → Nat → Nat) (cI cJ cZ cQ : ClassId) (A : Nat → Prop) (a_ro : Nat) (Post : Int32 → Int32 → Int32 → (Nat → Int64) → (Nat → Int64) → (Nat → Int32) → Prop) : Array Value → State → Outcome → State → Prop := va_Qv (fun (u : Int32 × Int32 × Int32 × (Nat → Int64) × (Nat → Int64) × (Nat → Int32)) => Post u.1 u.2.1 u.2.2.1 u.2.2.2.1 u.2.2.2.2.1 u.2.2.2.2.2) (fun (u : Int32 × Int32 × Int32 × (Nat → Int64) × (Nat → Int64) × (Nat → Int32)) (t : State) => match u with
  | (rmask, rsize, rcr, fme, fbu, fsl) => ∃ (a_rme a_rbu a_rsl : Nat), jPost (dC, dI) (jT cI cJ cZ cQ) A [(a_ro, .inr (2, [.ref a_rme, .ref a_rbu, .ref a_rsl, .int rmask, .int rsize, .int rcr])), (a_rme, .inl (cJ, 256, .inr (.inl fme))), (a_rbu, .inl (cJ, 256, .inr (.inl fbu))), (a_rsl, .inl (cI, 512, .inl fsl))] t) A
/-- OrderMachines$Room.<init>()V -/
def wp_RO_init (Post : Int32 → Int32 → Int32 → (Nat → Int64) → (Nat → Int64) → (Nat → Int32) → Prop) (mc ms : Nat)  : Prop :=
  0 + 1 ≤ mc ∧ 0 + 256 ≤ ms ∧ (0 + 1) + 1 ≤ mc ∧ (0 + 256) + 256 ≤ ms ∧ ((0 + 1) + 1) + 1 ≤ mc ∧ ((0 + 256) + 256) + 512 ≤ ms ∧ (((0 + 1) + 1) + 1) ≤ mc ∧ (((0 + 256) + 256) + 512) ≤ ms ∧ Post 511 0 0 (fun _ => 0) (fun _ => 0) (fun _ => 0)
set_option maxHeartbeats 4000000 in
set_option maxRecDepth 100000 in
theorem c_RO_init (l : Launch) (dC : Nat → ClassId) (dI : Nat → Nat → Nat) (cI cJ cZ cQ : ClassId) (a_ro : Nat) (sz : Nat)  (mc ms : Nat) (Post : Int32 → Int32 → Int32 → (Nat → Int64) → (Nat → Int64) → (Nat → Int32) → Prop) (h : wp_RO_init Post mc ms ) : Met l y_RO_init (.code y_RO_init b_RO_init 1 none :: jW) ({ frames := 10, cells := mc, slots := ms, locals := 150 } : Room) (jPre l (dC, dI) cI cJ cZ cQ [(a_ro, .inr (2, [.null, .null, .null, .int 0, .int 0, .int 0]))] sz [.ref a_ro]) (jQ_RO_init dC dI cI cJ cZ cQ (va_A [(a_ro, .inr (2, [.null, .null, .null, .int 0, .int 0, .int 0]))] sz) a_ro Post) mc ms (va_A [(a_ro, .inr (2, [.null, .null, .null, .int 0, .int 0, .int 0]))] sz) := by
  refine Met.ofW (cc := b_RO_init) (maxL := 1) (ret := none) (by decide) rfl ?_
  intro p e s m args below meth c s₁ B hml hv
  obtain ⟨rfl, hsz, hP, hK, hD0, hZ, hst⟩ := hv
  subst hsz
  have hD := hD0.self (sz := s.heap.size)
  generalize hAe : va_A [(a_ro, .inr (2, [.null, .null, .null, .int 0, .int 0, .int 0]))] s.heap.size = A at hD hZ ⊢
  have hA : ∀ q : Nat, s.heap.size ≤ q → A q := fun q h => by rw [← hAe]; exact Or.inr h
  have C0 : jC p l s m ([.ref a_ro] : List Value).toArray meth c b_RO_init none 1 R_RO (dC, dI) cI cJ cZ cQ A := ⟨B.exec, B.bytes, B.returns, hml, findClass_of_methodNamed B.named, fun w hw => atoms_spec (ws := (.code y_RO_init b_RO_init 1 none :: jW)) B.pre w (List.mem_cons_of_mem _ hw), B.notSynchronized, hK, hZ, hA, hst⟩
  have hin : meth.name = "<init>" := (name_of_methodNamed B.named B.method).1
  obtain ⟨hx, hb, hr, hml, hown, hts, hlocks, hK, hZ, hA, hst⟩ := id C0
  have hS : va_S A s.heap s.heap [] := va_S.rf
  have hl := lv_entry ([.ref a_ro]) (n := 1) (Nat.le_of_ble_eq_true rfl)
  rw [lg_entry_eq]
  generalize (lg_sl ([.ref a_ro]) ++ List.replicate (1 - (lg_sl ([.ref a_ro])).length) Slot.unset).toArray = ls at hl ⊢
  have hl : lv_has ls 1 [(0, .ref a_ro)] := hl
  obtain ⟨H, hH⟩ : ∃ H : Heap, H = s.heap := ⟨_, rfl⟩
  obtain ⟨locs, hlc⟩ : ∃ L : List Loc, L = [] := ⟨_, rfl⟩
  have hP : va_P (dC, dI) vwCl [(a_ro, .inr (2, [.null, .null, .null, .int 0, .int 0, .int 0]))] H := by rw [hH]; exact hP
  have hS : va_S A s.heap H locs := by rw [hH, hlc]; exact hS
  suffices hW9 : W p l e ({ frames := 10, cells := mc, slots := ms, locals := 150 } : Room) s m ([.ref a_ro] : List Value).toArray below meth c H locs 0 0 (MQ below (jQ_RO_init dC dI cI cJ cZ cQ A a_ro Post) ([.ref a_ro] : List Value).toArray s mc ms A) (F0 m 0 ls []) by rw [hH, hlc] at hW9; exact hW9
  clear hH hlc
  rw [wp_RO_init] at h
  refine lv_aload_n hx hb d_RO_init_0 rfl (lv_at hl 0 rfl) ?_
  refine W.objInit hx hb hown (hts _ mw_59) (hts _ mw_32) (hts _ mw_33) rfl (by rw [hml]; exact hl.1) rfl d_RO_init_1 (Nat.le_of_ble_eq_true rfl) (Nat.le_of_ble_eq_true rfl) ?_
  refine W.eq (g2 := F0 m 4 ls []) rfl ?_
  refine lv_aload_n hx hb d_RO_init_4 rfl (lv_at hl 0 rfl) ?_
  refine lv_sipush (v := 256) hx hb d_RO_init_5 (by decide) ?_
  have hrc := h.1
  have hrs := h.2.1
  have h := h.2.2
  refine va_newa (atype := .long) (ty := .long) (N' := 256) (a0 := (256, .inr (.inl (fun _ => 0)))) hx hb (hts _ mw_83) rfl hK hP hD hS hA (fun _ => rfl) (by decide) (by decide) (by decide) hrc hrs d_RO_init_8 (fun q1 cA9 H hK9 hP hD hS => ?_)
  obtain rfl := (jx_long 1 hK9 rfl).symm
  have hP : va_P (dC, dI) vwCl [(a_ro, .inr (2, [.null, .null, .null, .int 0, .int 0, .int 0])), (q1, .inl (cJ, 256, .inr (.inl (fun _ => 0))))] H := hP
  have hD : va_D A [(a_ro, .inr (2, [.null, .null, .null, .int 0, .int 0, .int 0])), (q1, .inl (cJ, 256, .inr (.inl (fun _ => 0))))] := hD
  refine va_put (D := (dC, dI)) (ci := 2) (v := .ref q1) (ty := (.array .long)) (C := R_RO) (T := T_RO) (N := 6) hx hb hts in_RO ty_RO tok_RO nm_RO hown hK hP hD hS 0 rfl rfl 0 (by decide) (hts _ mw_60) (fun _ h9 => h9) rfl (by decide +kernel) rfl rfl (Nat.le_of_ble_eq_true rfl) d_RO_init_10 (fun H locs hP hD hS => ?_)
  have hP : va_P (dC, dI) vwCl [(a_ro, .inr (2, [.ref q1, .null, .null, .int 0, .int 0, .int 0])), (q1, .inl (cJ, 256, .inr (.inl (fun _ => 0))))] H := hP
  have hD : va_D A [(a_ro, .inr (2, [.ref q1, .null, .null, .int 0, .int 0, .int 0])), (q1, .inl (cJ, 256, .inr (.inl (fun _ => 0))))] := hD
  refine lv_aload_n hx hb d_RO_init_13 rfl (lv_at hl 0 rfl) ?_
  refine lv_sipush (v := 256) hx hb d_RO_init_14 (by decide) ?_
  have hrc := h.1
  have hrs := h.2.1
  have h := h.2.2
  refine va_newa (atype := .long) (ty := .long) (N' := 256) (a0 := (256, .inr (.inl (fun _ => 0)))) hx hb (hts _ mw_83) rfl hK hP hD hS hA (fun _ => rfl) (by decide) (by decide) (by decide) hrc hrs d_RO_init_17 (fun q2 cA9 H hK9 hP hD hS => ?_)
  obtain rfl := (jx_long 1 hK9 rfl).symm
  have hP : va_P (dC, dI) vwCl [(a_ro, .inr (2, [.ref q1, .null, .null, .int 0, .int 0, .int 0])), (q1, .inl (cJ, 256, .inr (.inl (fun _ => 0)))), (q2, .inl (cJ, 256, .inr (.inl (fun _ => 0))))] H := hP
  have hD : va_D A [(a_ro, .inr (2, [.ref q1, .null, .null, .int 0, .int 0, .int 0])), (q1, .inl (cJ, 256, .inr (.inl (fun _ => 0)))), (q2, .inl (cJ, 256, .inr (.inl (fun _ => 0))))] := hD
  refine va_put (D := (dC, dI)) (ci := 2) (v := .ref q2) (ty := (.array .long)) (C := R_RO) (T := T_RO) (N := 6) hx hb hts in_RO ty_RO tok_RO nm_RO hown hK hP hD hS 0 rfl rfl 1 (by decide) (hts _ mw_62) (fun _ h9 => h9) rfl (by decide +kernel) rfl rfl (Nat.le_of_ble_eq_true rfl) d_RO_init_19 (fun H locs hP hD hS => ?_)
  have hP : va_P (dC, dI) vwCl [(a_ro, .inr (2, [.ref q1, .ref q2, .null, .int 0, .int 0, .int 0])), (q1, .inl (cJ, 256, .inr (.inl (fun _ => 0)))), (q2, .inl (cJ, 256, .inr (.inl (fun _ => 0))))] H := hP
  have hD : va_D A [(a_ro, .inr (2, [.ref q1, .ref q2, .null, .int 0, .int 0, .int 0])), (q1, .inl (cJ, 256, .inr (.inl (fun _ => 0)))), (q2, .inl (cJ, 256, .inr (.inl (fun _ => 0))))] := hD
  refine lv_aload_n hx hb d_RO_init_22 rfl (lv_at hl 0 rfl) ?_
  refine lv_sipush (v := 512) hx hb d_RO_init_23 (by decide) ?_
  have hrc := h.1
  have hrs := h.2.1
  have h := h.2.2
  refine va_newa (atype := .int) (ty := .int) (N' := 512) (a0 := (512, .inl (fun _ => 0))) hx hb (hts _ mw_47) rfl hK hP hD hS hA (fun _ => rfl) (by decide) (by decide) (by decide) hrc hrs d_RO_init_26 (fun q3 cA9 H hK9 hP hD hS => ?_)
  obtain rfl := (jx_int 0 hK9 rfl).symm
  have hP : va_P (dC, dI) vwCl [(a_ro, .inr (2, [.ref q1, .ref q2, .null, .int 0, .int 0, .int 0])), (q1, .inl (cJ, 256, .inr (.inl (fun _ => 0)))), (q2, .inl (cJ, 256, .inr (.inl (fun _ => 0)))), (q3, .inl (cI, 512, .inl (fun _ => 0)))] H := hP
  have hD : va_D A [(a_ro, .inr (2, [.ref q1, .ref q2, .null, .int 0, .int 0, .int 0])), (q1, .inl (cJ, 256, .inr (.inl (fun _ => 0)))), (q2, .inl (cJ, 256, .inr (.inl (fun _ => 0)))), (q3, .inl (cI, 512, .inl (fun _ => 0)))] := hD
  refine va_put (D := (dC, dI)) (ci := 2) (v := .ref q3) (ty := (.array .int)) (C := R_RO) (T := T_RO) (N := 6) hx hb hts in_RO ty_RO tok_RO nm_RO hown hK hP hD hS 0 rfl rfl 2 (by decide) (hts _ mw_64) (fun _ h9 => h9) rfl (by decide +kernel) rfl rfl (Nat.le_of_ble_eq_true rfl) d_RO_init_28 (fun H locs hP hD hS => ?_)
  have hP : va_P (dC, dI) vwCl [(a_ro, .inr (2, [.ref q1, .ref q2, .ref q3, .int 0, .int 0, .int 0])), (q1, .inl (cJ, 256, .inr (.inl (fun _ => 0)))), (q2, .inl (cJ, 256, .inr (.inl (fun _ => 0)))), (q3, .inl (cI, 512, .inl (fun _ => 0)))] H := hP
  have hD : va_D A [(a_ro, .inr (2, [.ref q1, .ref q2, .ref q3, .int 0, .int 0, .int 0])), (q1, .inl (cJ, 256, .inr (.inl (fun _ => 0)))), (q2, .inl (cJ, 256, .inr (.inl (fun _ => 0)))), (q3, .inl (cI, 512, .inl (fun _ => 0)))] := hD
  refine lv_aload_n hx hb d_RO_init_31 rfl (lv_at hl 0 rfl) ?_
  refine lv_sipush (v := 511) hx hb d_RO_init_32 (by decide) ?_
  refine va_put (D := (dC, dI)) (ci := 2) (v := .int 511) (ty := .int) (C := R_RO) (T := T_RO) (N := 6) hx hb hts in_RO ty_RO tok_RO nm_RO hown hK hP hD hS 0 rfl rfl 3 (by decide) (hts _ mw_65) (fun _ h9 => h9) rfl (by decide +kernel) rfl rfl (Nat.le_of_ble_eq_true rfl) d_RO_init_35 (fun H locs hP hD hS => ?_)
  have hP : va_P (dC, dI) vwCl [(a_ro, .inr (2, [.ref q1, .ref q2, .ref q3, .int 511, .int 0, .int 0])), (q1, .inl (cJ, 256, .inr (.inl (fun _ => 0)))), (q2, .inl (cJ, 256, .inr (.inl (fun _ => 0)))), (q3, .inl (cI, 512, .inl (fun _ => 0)))] H := hP
  have hD : va_D A [(a_ro, .inr (2, [.ref q1, .ref q2, .ref q3, .int 511, .int 0, .int 0])), (q1, .inl (cJ, 256, .inr (.inl (fun _ => 0)))), (q2, .inl (cJ, 256, .inr (.inl (fun _ => 0)))), (q3, .inl (cI, 512, .inl (fun _ => 0)))] := hD
  refine lv_aload_n hx hb d_RO_init_38 rfl (lv_at hl 0 rfl) ?_
  refine lv_iconst (v := 0) hx hb d_RO_init_39 (by decide) ?_
  refine va_put (D := (dC, dI)) (ci := 2) (v := .int 0) (ty := .int) (C := R_RO) (T := T_RO) (N := 6) hx hb hts in_RO ty_RO tok_RO nm_RO hown hK hP hD hS 0 rfl rfl 4 (by decide) (hts _ mw_66) (fun _ h9 => h9) rfl (by decide +kernel) rfl rfl (Nat.le_of_ble_eq_true rfl) d_RO_init_40 (fun H locs hP hD hS => ?_)
  have hP : va_P (dC, dI) vwCl [(a_ro, .inr (2, [.ref q1, .ref q2, .ref q3, .int 511, .int 0, .int 0])), (q1, .inl (cJ, 256, .inr (.inl (fun _ => 0)))), (q2, .inl (cJ, 256, .inr (.inl (fun _ => 0)))), (q3, .inl (cI, 512, .inl (fun _ => 0)))] H := hP
  have hD : va_D A [(a_ro, .inr (2, [.ref q1, .ref q2, .ref q3, .int 511, .int 0, .int 0])), (q1, .inl (cJ, 256, .inr (.inl (fun _ => 0)))), (q2, .inl (cJ, 256, .inr (.inl (fun _ => 0)))), (q3, .inl (cI, 512, .inl (fun _ => 0)))] := hD
  refine lv_aload_n hx hb d_RO_init_43 rfl (lv_at hl 0 rfl) ?_
  refine lv_iconst (v := 0) hx hb d_RO_init_44 (by decide) ?_
  refine va_put (D := (dC, dI)) (ci := 2) (v := .int 0) (ty := .boolean) (C := R_RO) (T := T_RO) (N := 6) hx hb hts in_RO ty_RO tok_RO nm_RO hown hK hP hD hS 0 rfl rfl 5 (by decide) (hts _ mw_68) (fun _ h9 => h9) rfl (by decide +kernel) rfl rfl (Nat.le_of_ble_eq_true rfl) d_RO_init_45 (fun H locs hP hD hS => ?_)
  have hP : va_P (dC, dI) vwCl [(a_ro, .inr (2, [.ref q1, .ref q2, .ref q3, .int 511, .int 0, .int 0])), (q1, .inl (cJ, 256, .inr (.inl (fun _ => 0)))), (q2, .inl (cJ, 256, .inr (.inl (fun _ => 0)))), (q3, .inl (cI, 512, .inl (fun _ => 0)))] H := hP
  have hD : va_D A [(a_ro, .inr (2, [.ref q1, .ref q2, .ref q3, .int 511, .int 0, .int 0])), (q1, .inl (cJ, 256, .inr (.inl (fun _ => 0)))), (q2, .inl (cJ, 256, .inr (.inl (fun _ => 0)))), (q3, .inl (cI, 512, .inl (fun _ => 0)))] := hD
  refine W.widen (k := mc) (n := ms) h.1 h.2.1 ?_
  have h := h.2.2
  have hP9 := hP
  have hD9 := hD
  exact W.vret hx hb hr (fun t ht hW => ⟨⟨(511, 0, 0, fun _ => 0, fun _ => 0, fun _ => 0), rfl, h, q1, q2, q3, by rw [ht]; exact hP9, va_K.moved hW.alike hK, hD9⟩, hS.F ht⟩) hS.2.2 d_RO_init_48

/-- what OrderMachines$Findings.<init>()V leaves -/
abbrev jQ_FI_init (dC : Nat → ClassId) (dI : Nat → Nat → Nat) (cI cJ cZ cQ : ClassId) (A : Nat → Prop) (a_fi : Nat) (Post : Int32 → Int32 → Int32 → Int32 → Int32 → Int32 → (Nat → Int32) → (Nat → Int64) → (Nat → Int32) → Prop) : Array Value → State → Outcome → State → Prop := va_Qv (fun (u : Int32 × Int32 × Int32 × Int32 × Int32 × Int32 × (Nat → Int32) × (Nat → Int64) × (Nat → Int32)) => Post u.1 u.2.1 u.2.2.1 u.2.2.2.1 u.2.2.2.2.1 u.2.2.2.2.2.1 u.2.2.2.2.2.2.1 u.2.2.2.2.2.2.2.1 u.2.2.2.2.2.2.2.2) (fun (u : Int32 × Int32 × Int32 × Int32 × Int32 × Int32 × (Nat → Int32) × (Nat → Int64) × (Nat → Int32)) (t : State) => match u with
  | (fr, cr, sc, sk, cc, ec, ftr, fen, fcu) => ∃ (a_fitr a_fien a_ficu : Nat), jPost (dC, dI) (jT cI cJ cZ cQ) A [(a_fi, .inr (3, [.int fr, .int cr, .int sc, .int sk, .int cc, .int ec, .ref a_fitr, .ref a_fien, .ref a_ficu])), (a_fitr, .inl (cI, 256, .inl ftr)), (a_fien, .inl (cJ, 16, .inr (.inl fen))), (a_ficu, .inl (cI, 256, .inl fcu))] t) A
/-- OrderMachines$Findings.<init>()V -/
def wp_FI_init (Post : Int32 → Int32 → Int32 → Int32 → Int32 → Int32 → (Nat → Int32) → (Nat → Int64) → (Nat → Int32) → Prop) (mc ms : Nat)  : Prop :=
  0 + 1 ≤ mc ∧ 0 + 256 ≤ ms ∧ (0 + 1) + 1 ≤ mc ∧ (0 + 256) + 16 ≤ ms ∧ ((0 + 1) + 1) + 1 ≤ mc ∧ ((0 + 256) + 16) + 256 ≤ ms ∧ (((0 + 1) + 1) + 1) ≤ mc ∧ (((0 + 256) + 16) + 256) ≤ ms ∧ Post 0 0 0 0 0 0 (fun _ => 0) (fun _ => 0) (fun _ => 0)
set_option maxHeartbeats 4000000 in
set_option maxRecDepth 100000 in
theorem c_FI_init (l : Launch) (dC : Nat → ClassId) (dI : Nat → Nat → Nat) (cI cJ cZ cQ : ClassId) (a_fi : Nat) (sz : Nat)  (mc ms : Nat) (Post : Int32 → Int32 → Int32 → Int32 → Int32 → Int32 → (Nat → Int32) → (Nat → Int64) → (Nat → Int32) → Prop) (h : wp_FI_init Post mc ms ) : Met l y_FI_init (.code y_FI_init b_FI_init 1 none :: jW) ({ frames := 10, cells := mc, slots := ms, locals := 150 } : Room) (jPre l (dC, dI) cI cJ cZ cQ [(a_fi, .inr (3, [.int 0, .int 0, .int 0, .int 0, .int 0, .int 0, .null, .null, .null]))] sz [.ref a_fi]) (jQ_FI_init dC dI cI cJ cZ cQ (va_A [(a_fi, .inr (3, [.int 0, .int 0, .int 0, .int 0, .int 0, .int 0, .null, .null, .null]))] sz) a_fi Post) mc ms (va_A [(a_fi, .inr (3, [.int 0, .int 0, .int 0, .int 0, .int 0, .int 0, .null, .null, .null]))] sz) := by
  refine Met.ofW (cc := b_FI_init) (maxL := 1) (ret := none) (by decide) rfl ?_
  intro p e s m args below meth c s₁ B hml hv
  obtain ⟨rfl, hsz, hP, hK, hD0, hZ, hst⟩ := hv
  subst hsz
  have hD := hD0.self (sz := s.heap.size)
  generalize hAe : va_A [(a_fi, .inr (3, [.int 0, .int 0, .int 0, .int 0, .int 0, .int 0, .null, .null, .null]))] s.heap.size = A at hD hZ ⊢
  have hA : ∀ q : Nat, s.heap.size ≤ q → A q := fun q h => by rw [← hAe]; exact Or.inr h
  have C0 : jC p l s m ([.ref a_fi] : List Value).toArray meth c b_FI_init none 1 R_FI (dC, dI) cI cJ cZ cQ A := ⟨B.exec, B.bytes, B.returns, hml, findClass_of_methodNamed B.named, fun w hw => atoms_spec (ws := (.code y_FI_init b_FI_init 1 none :: jW)) B.pre w (List.mem_cons_of_mem _ hw), B.notSynchronized, hK, hZ, hA, hst⟩
  have hin : meth.name = "<init>" := (name_of_methodNamed B.named B.method).1
  obtain ⟨hx, hb, hr, hml, hown, hts, hlocks, hK, hZ, hA, hst⟩ := id C0
  have hS : va_S A s.heap s.heap [] := va_S.rf
  have hl := lv_entry ([.ref a_fi]) (n := 1) (Nat.le_of_ble_eq_true rfl)
  rw [lg_entry_eq]
  generalize (lg_sl ([.ref a_fi]) ++ List.replicate (1 - (lg_sl ([.ref a_fi])).length) Slot.unset).toArray = ls at hl ⊢
  have hl : lv_has ls 1 [(0, .ref a_fi)] := hl
  obtain ⟨H, hH⟩ : ∃ H : Heap, H = s.heap := ⟨_, rfl⟩
  obtain ⟨locs, hlc⟩ : ∃ L : List Loc, L = [] := ⟨_, rfl⟩
  have hP : va_P (dC, dI) vwCl [(a_fi, .inr (3, [.int 0, .int 0, .int 0, .int 0, .int 0, .int 0, .null, .null, .null]))] H := by rw [hH]; exact hP
  have hS : va_S A s.heap H locs := by rw [hH, hlc]; exact hS
  suffices hW9 : W p l e ({ frames := 10, cells := mc, slots := ms, locals := 150 } : Room) s m ([.ref a_fi] : List Value).toArray below meth c H locs 0 0 (MQ below (jQ_FI_init dC dI cI cJ cZ cQ A a_fi Post) ([.ref a_fi] : List Value).toArray s mc ms A) (F0 m 0 ls []) by rw [hH, hlc] at hW9; exact hW9
  clear hH hlc
  rw [wp_FI_init] at h
  refine lv_aload_n hx hb d_FI_init_0 rfl (lv_at hl 0 rfl) ?_
  refine W.objInit hx hb hown (hts _ mw_124) (hts _ mw_32) (hts _ mw_33) rfl (by rw [hml]; exact hl.1) rfl d_FI_init_1 (Nat.le_of_ble_eq_true rfl) (Nat.le_of_ble_eq_true rfl) ?_
  refine W.eq (g2 := F0 m 4 ls []) rfl ?_
  refine lv_aload_n hx hb d_FI_init_4 rfl (lv_at hl 0 rfl) ?_
  refine lv_iconst (v := 0) hx hb d_FI_init_5 (by decide) ?_
  refine va_put (D := (dC, dI)) (ci := 3) (v := .int 0) (ty := .boolean) (C := R_FI) (T := T_FI) (N := 9) hx hb hts in_FI ty_FI tok_FI nm_FI hown hK hP hD hS 0 rfl rfl 0 (by decide) (hts _ mw_125) (fun _ h9 => h9) rfl (by decide +kernel) rfl rfl (Nat.le_of_ble_eq_true rfl) d_FI_init_6 (fun H locs hP hD hS => ?_)
  have hP : va_P (dC, dI) vwCl [(a_fi, .inr (3, [.int 0, .int 0, .int 0, .int 0, .int 0, .int 0, .null, .null, .null]))] H := hP
  have hD : va_D A [(a_fi, .inr (3, [.int 0, .int 0, .int 0, .int 0, .int 0, .int 0, .null, .null, .null]))] := hD
  refine lv_aload_n hx hb d_FI_init_9 rfl (lv_at hl 0 rfl) ?_
  refine lv_iconst (v := 0) hx hb d_FI_init_10 (by decide) ?_
  refine va_put (D := (dC, dI)) (ci := 3) (v := .int 0) (ty := .boolean) (C := R_FI) (T := T_FI) (N := 9) hx hb hts in_FI ty_FI tok_FI nm_FI hown hK hP hD hS 0 rfl rfl 1 (by decide) (hts _ mw_127) (fun _ h9 => h9) rfl (by decide +kernel) rfl rfl (Nat.le_of_ble_eq_true rfl) d_FI_init_11 (fun H locs hP hD hS => ?_)
  have hP : va_P (dC, dI) vwCl [(a_fi, .inr (3, [.int 0, .int 0, .int 0, .int 0, .int 0, .int 0, .null, .null, .null]))] H := hP
  have hD : va_D A [(a_fi, .inr (3, [.int 0, .int 0, .int 0, .int 0, .int 0, .int 0, .null, .null, .null]))] := hD
  refine lv_aload_n hx hb d_FI_init_14 rfl (lv_at hl 0 rfl) ?_
  refine lv_iconst (v := 0) hx hb d_FI_init_15 (by decide) ?_
  refine va_put (D := (dC, dI)) (ci := 3) (v := .int 0) (ty := .int) (C := R_FI) (T := T_FI) (N := 9) hx hb hts in_FI ty_FI tok_FI nm_FI hown hK hP hD hS 0 rfl rfl 2 (by decide) (hts _ mw_130) (fun _ h9 => h9) rfl (by decide +kernel) rfl rfl (Nat.le_of_ble_eq_true rfl) d_FI_init_16 (fun H locs hP hD hS => ?_)
  have hP : va_P (dC, dI) vwCl [(a_fi, .inr (3, [.int 0, .int 0, .int 0, .int 0, .int 0, .int 0, .null, .null, .null]))] H := hP
  have hD : va_D A [(a_fi, .inr (3, [.int 0, .int 0, .int 0, .int 0, .int 0, .int 0, .null, .null, .null]))] := hD
  refine lv_aload_n hx hb d_FI_init_19 rfl (lv_at hl 0 rfl) ?_
  refine lv_iconst (v := 0) hx hb d_FI_init_20 (by decide) ?_
  refine va_put (D := (dC, dI)) (ci := 3) (v := .int 0) (ty := .int) (C := R_FI) (T := T_FI) (N := 9) hx hb hts in_FI ty_FI tok_FI nm_FI hown hK hP hD hS 0 rfl rfl 3 (by decide) (hts _ mw_132) (fun _ h9 => h9) rfl (by decide +kernel) rfl rfl (Nat.le_of_ble_eq_true rfl) d_FI_init_21 (fun H locs hP hD hS => ?_)
  have hP : va_P (dC, dI) vwCl [(a_fi, .inr (3, [.int 0, .int 0, .int 0, .int 0, .int 0, .int 0, .null, .null, .null]))] H := hP
  have hD : va_D A [(a_fi, .inr (3, [.int 0, .int 0, .int 0, .int 0, .int 0, .int 0, .null, .null, .null]))] := hD
  refine lv_aload_n hx hb d_FI_init_24 rfl (lv_at hl 0 rfl) ?_
  refine lv_iconst (v := 0) hx hb d_FI_init_25 (by decide) ?_
  refine va_put (D := (dC, dI)) (ci := 3) (v := .int 0) (ty := .int) (C := R_FI) (T := T_FI) (N := 9) hx hb hts in_FI ty_FI tok_FI nm_FI hown hK hP hD hS 0 rfl rfl 4 (by decide) (hts _ mw_135) (fun _ h9 => h9) rfl (by decide +kernel) rfl rfl (Nat.le_of_ble_eq_true rfl) d_FI_init_26 (fun H locs hP hD hS => ?_)
  have hP : va_P (dC, dI) vwCl [(a_fi, .inr (3, [.int 0, .int 0, .int 0, .int 0, .int 0, .int 0, .null, .null, .null]))] H := hP
  have hD : va_D A [(a_fi, .inr (3, [.int 0, .int 0, .int 0, .int 0, .int 0, .int 0, .null, .null, .null]))] := hD
  refine lv_aload_n hx hb d_FI_init_29 rfl (lv_at hl 0 rfl) ?_
  refine lv_iconst (v := 0) hx hb d_FI_init_30 (by decide) ?_
  refine va_put (D := (dC, dI)) (ci := 3) (v := .int 0) (ty := .int) (C := R_FI) (T := T_FI) (N := 9) hx hb hts in_FI ty_FI tok_FI nm_FI hown hK hP hD hS 0 rfl rfl 5 (by decide) (hts _ mw_137) (fun _ h9 => h9) rfl (by decide +kernel) rfl rfl (Nat.le_of_ble_eq_true rfl) d_FI_init_31 (fun H locs hP hD hS => ?_)
  have hP : va_P (dC, dI) vwCl [(a_fi, .inr (3, [.int 0, .int 0, .int 0, .int 0, .int 0, .int 0, .null, .null, .null]))] H := hP
  have hD : va_D A [(a_fi, .inr (3, [.int 0, .int 0, .int 0, .int 0, .int 0, .int 0, .null, .null, .null]))] := hD
  refine lv_aload_n hx hb d_FI_init_34 rfl (lv_at hl 0 rfl) ?_
  refine lv_sipush (v := 256) hx hb d_FI_init_35 (by decide) ?_
  have hrc := h.1
  have hrs := h.2.1
  have h := h.2.2
  refine va_newa (atype := .int) (ty := .int) (N' := 256) (a0 := (256, .inl (fun _ => 0))) hx hb (hts _ mw_47) rfl hK hP hD hS hA (fun _ => rfl) (by decide) (by decide) (by decide) hrc hrs d_FI_init_38 (fun q1 cA9 H hK9 hP hD hS => ?_)
  obtain rfl := (jx_int 0 hK9 rfl).symm
  have hP : va_P (dC, dI) vwCl [(a_fi, .inr (3, [.int 0, .int 0, .int 0, .int 0, .int 0, .int 0, .null, .null, .null])), (q1, .inl (cI, 256, .inl (fun _ => 0)))] H := hP
  have hD : va_D A [(a_fi, .inr (3, [.int 0, .int 0, .int 0, .int 0, .int 0, .int 0, .null, .null, .null])), (q1, .inl (cI, 256, .inl (fun _ => 0)))] := hD
  refine va_put (D := (dC, dI)) (ci := 3) (v := .ref q1) (ty := (.array .int)) (C := R_FI) (T := T_FI) (N := 9) hx hb hts in_FI ty_FI tok_FI nm_FI hown hK hP hD hS 0 rfl rfl 6 (by decide) (hts _ mw_139) (fun _ h9 => h9) rfl (by decide +kernel) rfl rfl (Nat.le_of_ble_eq_true rfl) d_FI_init_40 (fun H locs hP hD hS => ?_)
  have hP : va_P (dC, dI) vwCl [(a_fi, .inr (3, [.int 0, .int 0, .int 0, .int 0, .int 0, .int 0, .ref q1, .null, .null])), (q1, .inl (cI, 256, .inl (fun _ => 0)))] H := hP
  have hD : va_D A [(a_fi, .inr (3, [.int 0, .int 0, .int 0, .int 0, .int 0, .int 0, .ref q1, .null, .null])), (q1, .inl (cI, 256, .inl (fun _ => 0)))] := hD
  refine lv_aload_n hx hb d_FI_init_43 rfl (lv_at hl 0 rfl) ?_
  refine lv_bipush (v := 16) hx hb d_FI_init_44 (by decide) ?_
  have hrc := h.1
  have hrs := h.2.1
  have h := h.2.2
  refine va_newa (atype := .long) (ty := .long) (N' := 16) (a0 := (16, .inr (.inl (fun _ => 0)))) hx hb (hts _ mw_83) rfl hK hP hD hS hA (fun _ => rfl) (by decide) (by decide) (by decide) hrc hrs d_FI_init_46 (fun q2 cA9 H hK9 hP hD hS => ?_)
  obtain rfl := (jx_long 1 hK9 rfl).symm
  have hP : va_P (dC, dI) vwCl [(a_fi, .inr (3, [.int 0, .int 0, .int 0, .int 0, .int 0, .int 0, .ref q1, .null, .null])), (q1, .inl (cI, 256, .inl (fun _ => 0))), (q2, .inl (cJ, 16, .inr (.inl (fun _ => 0))))] H := hP
  have hD : va_D A [(a_fi, .inr (3, [.int 0, .int 0, .int 0, .int 0, .int 0, .int 0, .ref q1, .null, .null])), (q1, .inl (cI, 256, .inl (fun _ => 0))), (q2, .inl (cJ, 16, .inr (.inl (fun _ => 0))))] := hD
  refine va_put (D := (dC, dI)) (ci := 3) (v := .ref q2) (ty := (.array .long)) (C := R_FI) (T := T_FI) (N := 9) hx hb hts in_FI ty_FI tok_FI nm_FI hown hK hP hD hS 0 rfl rfl 7 (by decide) (hts _ mw_140) (fun _ h9 => h9) rfl (by decide +kernel) rfl rfl (Nat.le_of_ble_eq_true rfl) d_FI_init_48 (fun H locs hP hD hS => ?_)
  have hP : va_P (dC, dI) vwCl [(a_fi, .inr (3, [.int 0, .int 0, .int 0, .int 0, .int 0, .int 0, .ref q1, .ref q2, .null])), (q1, .inl (cI, 256, .inl (fun _ => 0))), (q2, .inl (cJ, 16, .inr (.inl (fun _ => 0))))] H := hP
  have hD : va_D A [(a_fi, .inr (3, [.int 0, .int 0, .int 0, .int 0, .int 0, .int 0, .ref q1, .ref q2, .null])), (q1, .inl (cI, 256, .inl (fun _ => 0))), (q2, .inl (cJ, 16, .inr (.inl (fun _ => 0))))] := hD
  refine lv_aload_n hx hb d_FI_init_51 rfl (lv_at hl 0 rfl) ?_
  refine lv_sipush (v := 256) hx hb d_FI_init_52 (by decide) ?_
  have hrc := h.1
  have hrs := h.2.1
  have h := h.2.2
  refine va_newa (atype := .int) (ty := .int) (N' := 256) (a0 := (256, .inl (fun _ => 0))) hx hb (hts _ mw_47) rfl hK hP hD hS hA (fun _ => rfl) (by decide) (by decide) (by decide) hrc hrs d_FI_init_55 (fun q3 cA9 H hK9 hP hD hS => ?_)
  obtain rfl := (jx_int 0 hK9 rfl).symm
  have hP : va_P (dC, dI) vwCl [(a_fi, .inr (3, [.int 0, .int 0, .int 0, .int 0, .int 0, .int 0, .ref q1, .ref q2, .null])), (q1, .inl (cI, 256, .inl (fun _ => 0))), (q2, .inl (cJ, 16, .inr (.inl (fun _ => 0)))), (q3, .inl (cI, 256, .inl (fun _ => 0)))] H := hP
  have hD : va_D A [(a_fi, .inr (3, [.int 0, .int 0, .int 0, .int 0, .int 0, .int 0, .ref q1, .ref q2, .null])), (q1, .inl (cI, 256, .inl (fun _ => 0))), (q2, .inl (cJ, 16, .inr (.inl (fun _ => 0)))), (q3, .inl (cI, 256, .inl (fun _ => 0)))] := hD
  refine va_putF (D := (dC, dI)) (ci := 3) (v := .ref q3) (ty := (.array .int)) (C := R_FI) (T := T_FI) (N := 9) hx hb hts in_FI ty_FI tok_FI nm_FI hown hK hP hD hS 0 rfl rfl 8 (by decide) (hts _ mw_141) (fun _ h9 => h9) rfl hin rfl (by decide +kernel) rfl rfl (Nat.le_of_ble_eq_true rfl) d_FI_init_57 (fun H locs hP hD hS => ?_)
  have hP : va_P (dC, dI) vwCl [(a_fi, .inr (3, [.int 0, .int 0, .int 0, .int 0, .int 0, .int 0, .ref q1, .ref q2, .ref q3])), (q1, .inl (cI, 256, .inl (fun _ => 0))), (q2, .inl (cJ, 16, .inr (.inl (fun _ => 0)))), (q3, .inl (cI, 256, .inl (fun _ => 0)))] H := hP
  have hD : va_D A [(a_fi, .inr (3, [.int 0, .int 0, .int 0, .int 0, .int 0, .int 0, .ref q1, .ref q2, .ref q3])), (q1, .inl (cI, 256, .inl (fun _ => 0))), (q2, .inl (cJ, 16, .inr (.inl (fun _ => 0)))), (q3, .inl (cI, 256, .inl (fun _ => 0)))] := hD
  refine W.widen (k := mc) (n := ms) h.1 h.2.1 ?_
  have h := h.2.2
  have hP9 := hP
  have hD9 := hD
  exact W.vret hx hb hr (fun t ht hW => ⟨⟨(0, 0, 0, 0, 0, 0, fun _ => 0, fun _ => 0, fun _ => 0), rfl, h, q1, q2, q3, by rw [ht]; exact hP9, va_K.moved hW.alike hK, hD9⟩, hS.F ht⟩) hS.2.2 d_FI_init_60

/-- what OrderMachines$Machine.<init>(LOrderMachines$Program;)V leaves -/
abbrev jQ_MA_init (dC : Nat → ClassId) (dI : Nat → Nat → Nat) (cI cJ cZ cQ : ClassId) (A : Nat → Prop) (a_ma a_pr a_codes a_lens : Nat) (Post : Int32 → Int64 → Int64 → Int64 → Int64 → (Nat → Int32) → (Nat → Int32) → Prop) : Array Value → State → Outcome → State → Prop := va_Qv (fun (u : Int32 × Int64 × Int64 × Int64 × Int64 × (Nat → Int32) × (Nat → Int32)) => Post u.1 u.2.1 u.2.2.1 u.2.2.2.1 u.2.2.2.2.1 u.2.2.2.2.2.1 u.2.2.2.2.2.2) (fun (u : Int32 × Int64 × Int64 × Int64 × Int64 × (Nat → Int32) × (Nat → Int32)) (t : State) => match u with
  | (mki, mme, mbu, mnm, mnb, pc, pl) => jPost (dC, dI) (jT cI cJ cZ cQ) A [(a_ma, .inr (1, [.ref a_pr, .int mki, .long mme, .long mbu, .long mnm, .long mnb])), (a_pr, .inr (0, [.ref a_codes, .ref a_lens])), (a_codes, .inl (cI, 20, .inl pc)), (a_lens, .inl (cI, 4, .inl pl))] t) A
/-- OrderMachines$Machine.<init>(LOrderMachines$Program;)V -/
def wp_MA_init (Post : Int32 → Int64 → Int64 → Int64 → Int64 → (Nat → Int32) → (Nat → Int32) → Prop) (mc ms : Nat) (pc pl : Nat → Int32) : Prop :=
  0 ≤ mc ∧ 0 ≤ ms ∧ Post 0 0 0 0 0 pc pl
set_option maxHeartbeats 4000000 in
set_option maxRecDepth 100000 in
theorem c_MA_init (l : Launch) (dC : Nat → ClassId) (dI : Nat → Nat → Nat) (cI cJ cZ cQ : ClassId) (a_ma a_pr a_codes a_lens : Nat) (sz : Nat) (pc pl : Nat → Int32) (mc ms : Nat) (Post : Int32 → Int64 → Int64 → Int64 → Int64 → (Nat → Int32) → (Nat → Int32) → Prop) (h : wp_MA_init Post mc ms pc pl) : Met l y_MA_init (.code y_MA_init b_MA_init 2 none :: jW) ({ frames := 10, cells := mc, slots := ms, locals := 150 } : Room) (jPre l (dC, dI) cI cJ cZ cQ [(a_ma, .inr (1, [.null, .int 0, .long 0, .long 0, .long 0, .long 0])), (a_pr, .inr (0, [.ref a_codes, .ref a_lens])), (a_codes, .inl (cI, 20, .inl pc)), (a_lens, .inl (cI, 4, .inl pl))] sz [.ref a_ma, .ref a_pr]) (jQ_MA_init dC dI cI cJ cZ cQ (va_A [(a_ma, .inr (1, [.null, .int 0, .long 0, .long 0, .long 0, .long 0])), (a_pr, .inr (0, [.ref a_codes, .ref a_lens])), (a_codes, .inl (cI, 20, .inl pc)), (a_lens, .inl (cI, 4, .inl pl))] sz) a_ma a_pr a_codes a_lens Post) mc ms (va_A [(a_ma, .inr (1, [.null, .int 0, .long 0, .long 0, .long 0, .long 0])), (a_pr, .inr (0, [.ref a_codes, .ref a_lens])), (a_codes, .inl (cI, 20, .inl pc)), (a_lens, .inl (cI, 4, .inl pl))] sz) := by
  refine Met.ofW (cc := b_MA_init) (maxL := 2) (ret := none) (by decide) rfl ?_
  intro p e s m args below meth c s₁ B hml hv
  obtain ⟨rfl, hsz, hP, hK, hD0, hZ, hst⟩ := hv
  subst hsz
  have hD := hD0.self (sz := s.heap.size)
  generalize hAe : va_A [(a_ma, .inr (1, [.null, .int 0, .long 0, .long 0, .long 0, .long 0])), (a_pr, .inr (0, [.ref a_codes, .ref a_lens])), (a_codes, .inl (cI, 20, .inl pc)), (a_lens, .inl (cI, 4, .inl pl))] s.heap.size = A at hD hZ ⊢
  have hA : ∀ q : Nat, s.heap.size ≤ q → A q := fun q h => by rw [← hAe]; exact Or.inr h
  have C0 : jC p l s m ([.ref a_ma, .ref a_pr] : List Value).toArray meth c b_MA_init none 2 R_MA (dC, dI) cI cJ cZ cQ A := ⟨B.exec, B.bytes, B.returns, hml, findClass_of_methodNamed B.named, fun w hw => atoms_spec (ws := (.code y_MA_init b_MA_init 2 none :: jW)) B.pre w (List.mem_cons_of_mem _ hw), B.notSynchronized, hK, hZ, hA, hst⟩
  have hin : meth.name = "<init>" := (name_of_methodNamed B.named B.method).1
  obtain ⟨hx, hb, hr, hml, hown, hts, hlocks, hK, hZ, hA, hst⟩ := id C0
  have hS : va_S A s.heap s.heap [] := va_S.rf
  have hl := lv_entry ([.ref a_ma, .ref a_pr]) (n := 2) (Nat.le_of_ble_eq_true rfl)
  rw [lg_entry_eq]
  generalize (lg_sl ([.ref a_ma, .ref a_pr]) ++ List.replicate (2 - (lg_sl ([.ref a_ma, .ref a_pr])).length) Slot.unset).toArray = ls at hl ⊢
  have hl : lv_has ls 2 [(0, .ref a_ma), (1, .ref a_pr)] := hl
  obtain ⟨H, hH⟩ : ∃ H : Heap, H = s.heap := ⟨_, rfl⟩
  obtain ⟨locs, hlc⟩ : ∃ L : List Loc, L = [] := ⟨_, rfl⟩
  have hP : va_P (dC, dI) vwCl [(a_ma, .inr (1, [.null, .int 0, .long 0, .long 0, .long 0, .long 0])), (a_pr, .inr (0, [.ref a_codes, .ref a_lens])), (a_codes, .inl (cI, 20, .inl pc)), (a_lens, .inl (cI, 4, .inl pl))] H := by rw [hH]; exact hP
  have hS : va_S A s.heap H locs := by rw [hH, hlc]; exact hS
  suffices hW9 : W p l e ({ frames := 10, cells := mc, slots := ms, locals := 150 } : Room) s m ([.ref a_ma, .ref a_pr] : List Value).toArray below meth c H locs 0 0 (MQ below (jQ_MA_init dC dI cI cJ cZ cQ A a_ma a_pr a_codes a_lens Post) ([.ref a_ma, .ref a_pr] : List Value).toArray s mc ms A) (F0 m 0 ls []) by rw [hH, hlc] at hW9; exact hW9
  clear hH hlc
  rw [wp_MA_init] at h
  refine lv_aload_n hx hb d_MA_init_0 rfl (lv_at hl 0 rfl) ?_
  refine W.objInit hx hb hown (hts _ mw_89) (hts _ mw_32) (hts _ mw_33) rfl (by rw [hml]; exact hl.1) rfl d_MA_init_1 (Nat.le_of_ble_eq_true rfl) (Nat.le_of_ble_eq_true rfl) ?_
  refine W.eq (g2 := F0 m 4 ls []) rfl ?_
  refine lv_aload_n hx hb d_MA_init_4 rfl (lv_at hl 0 rfl) ?_
  refine lv_aload_n hx hb d_MA_init_5 rfl (lv_at hl 1 rfl) ?_
  refine va_putF (D := (dC, dI)) (ci := 1) (v := .ref a_pr) (ty := (.object "OrderMachines$Program")) (C := R_MA) (T := T_MA) (N := 6) hx hb hts in_MA ty_MA tok_MA nm_MA hown hK hP hD hS 0 rfl rfl 0 (by decide) (hts _ mw_90) (fun _ h9 => h9) rfl hin rfl (by decide +kernel) rfl rfl (Nat.le_of_ble_eq_true rfl) d_MA_init_6 (fun H locs hP hD hS => ?_)
  have hP : va_P (dC, dI) vwCl [(a_ma, .inr (1, [.ref a_pr, .int 0, .long 0, .long 0, .long 0, .long 0])), (a_pr, .inr (0, [.ref a_codes, .ref a_lens])), (a_codes, .inl (cI, 20, .inl pc)), (a_lens, .inl (cI, 4, .inl pl))] H := hP
  have hD : va_D A [(a_ma, .inr (1, [.ref a_pr, .int 0, .long 0, .long 0, .long 0, .long 0])), (a_pr, .inr (0, [.ref a_codes, .ref a_lens])), (a_codes, .inl (cI, 20, .inl pc)), (a_lens, .inl (cI, 4, .inl pl))] := hD
  refine W.widen (k := mc) (n := ms) h.1 h.2.1 ?_
  have h := h.2.2
  have hP9 := hP
  have hD9 := hD
  exact W.vret hx hb hr (fun t ht hW => ⟨⟨(0, 0, 0, 0, 0, pc, pl), rfl, h, by rw [ht]; exact hP9, va_K.moved hW.alike hK, hD9⟩, hS.F ht⟩) hS.2.2 d_MA_init_9

/-- what OrderMachines$Explorer.<init>(LOrderMachines$Program;)V leaves -/
abbrev jQ_EX_init (dC : Nat → ClassId) (dI : Nat → Nat → Nat) (cI cJ cZ cQ : ClassId) (A : Nat → Prop) (a_ex a_pr a_codes a_lens : Nat) (Post : Int32 → Int64 → Int64 → Int64 → Int64 → (Nat → Int32) → (Nat → Int32) → Int32 → Int32 → Int32 → (Nat → Int64) → (Nat → Int64) → (Nat → Int32) → Prop) : Array Value → State → Outcome → State → Prop := va_Qv (fun (u : Int32 × Int64 × Int64 × Int64 × Int64 × (Nat → Int32) × (Nat → Int32) × Int32 × Int32 × Int32 × (Nat → Int64) × (Nat → Int64) × (Nat → Int32)) => Post u.1 u.2.1 u.2.2.1 u.2.2.2.1 u.2.2.2.2.1 u.2.2.2.2.2.1 u.2.2.2.2.2.2.1 u.2.2.2.2.2.2.2.1 u.2.2.2.2.2.2.2.2.1 u.2.2.2.2.2.2.2.2.2.1 u.2.2.2.2.2.2.2.2.2.2.1 u.2.2.2.2.2.2.2.2.2.2.2.1 u.2.2.2.2.2.2.2.2.2.2.2.2) (fun (u : Int32 × Int64 × Int64 × Int64 × Int64 × (Nat → Int32) × (Nat → Int32) × Int32 × Int32 × Int32 × (Nat → Int64) × (Nat → Int64) × (Nat → Int32)) (t : State) => match u with
  | (mki, mme, mbu, mnm, mnb, pc, pl, rmask, rsize, rcr, fme, fbu, fsl) => ∃ (a_ma a_ro a_rme a_rbu a_rsl : Nat), jPost (dC, dI) (jT cI cJ cZ cQ) A [(a_ex, .inr (4, [.ref a_ma, .ref a_ro])), (a_ma, .inr (1, [.ref a_pr, .int mki, .long mme, .long mbu, .long mnm, .long mnb])), (a_pr, .inr (0, [.ref a_codes, .ref a_lens])), (a_codes, .inl (cI, 20, .inl pc)), (a_lens, .inl (cI, 4, .inl pl)), (a_ro, .inr (2, [.ref a_rme, .ref a_rbu, .ref a_rsl, .int rmask, .int rsize, .int rcr])), (a_rme, .inl (cJ, 256, .inr (.inl fme))), (a_rbu, .inl (cJ, 256, .inr (.inl fbu))), (a_rsl, .inl (cI, 512, .inl fsl))] t) A
/-- OrderMachines$Explorer.<init>(LOrderMachines$Program;)V -/
def wp_EX_init (Post : Int32 → Int64 → Int64 → Int64 → Int64 → (Nat → Int32) → (Nat → Int32) → Int32 → Int32 → Int32 → (Nat → Int64) → (Nat → Int64) → (Nat → Int32) → Prop) (mc ms : Nat) (pc pl : Nat → Int32) : Prop :=
  0 + 1 ≤ mc ∧ 0 + 6 ≤ ms ∧ ∃ mg9 sg10 : Nat, (0 + 1) + mg9 ≤ mc ∧ (0 + 6) + sg10 ≤ ms ∧ wp_RO_init (fun (u3 : Int32) (u4 : Int32) (u5 : Int32) (u6 : Nat → Int64) (u7 : Nat → Int64) (u8 : Nat → Int32) => ((0 + 1) + mg9) + 1 ≤ mc ∧ ((0 + 6) + sg10) + 6 ≤ ms ∧ ∃ mg23 sg24 : Nat, (((0 + 1) + mg9) + 1) + mg23 ≤ mc ∧ (((0 + 6) + sg10) + 6) + sg24 ≤ ms ∧ wp_MA_init (fun (u16 : Int32) (u17 : Int64) (u18 : Int64) (u19 : Int64) (u20 : Int64) (u21 : Nat → Int32) (u22 : Nat → Int32) => ((((0 + 1) + mg9) + 1) + mg23) ≤ mc ∧ ((((0 + 6) + sg10) + 6) + sg24) ≤ ms ∧ Post u16 u17 u18 u19 u20 u21 u22 u3 u4 u5 u6 u7 u8) mg23 sg24 pc pl) mg9 sg10 
set_option maxHeartbeats 4000000 in
set_option maxRecDepth 100000 in
theorem c_EX_init (l : Launch) (dC : Nat → ClassId) (dI : Nat → Nat → Nat) (cI cJ cZ cQ : ClassId) (a_ex a_pr a_codes a_lens : Nat) (sz : Nat) (pc pl : Nat → Int32) (mc ms : Nat) (Post : Int32 → Int64 → Int64 → Int64 → Int64 → (Nat → Int32) → (Nat → Int32) → Int32 → Int32 → Int32 → (Nat → Int64) → (Nat → Int64) → (Nat → Int32) → Prop) (h : wp_EX_init Post mc ms pc pl) : Met l y_EX_init (.code y_EX_init b_EX_init 2 none :: jW) ({ frames := 11, cells := mc, slots := ms, locals := 171 } : Room) (jPre l (dC, dI) cI cJ cZ cQ [(a_ex, .inr (4, [.null, .null])), (a_pr, .inr (0, [.ref a_codes, .ref a_lens])), (a_codes, .inl (cI, 20, .inl pc)), (a_lens, .inl (cI, 4, .inl pl))] sz [.ref a_ex, .ref a_pr]) (jQ_EX_init dC dI cI cJ cZ cQ (va_A [(a_ex, .inr (4, [.null, .null])), (a_pr, .inr (0, [.ref a_codes, .ref a_lens])), (a_codes, .inl (cI, 20, .inl pc)), (a_lens, .inl (cI, 4, .inl pl))] sz) a_ex a_pr a_codes a_lens Post) mc ms (va_A [(a_ex, .inr (4, [.null, .null])), (a_pr, .inr (0, [.ref a_codes, .ref a_lens])), (a_codes, .inl (cI, 20, .inl pc)), (a_lens, .inl (cI, 4, .inl pl))] sz) := by
  refine Met.ofW (cc := b_EX_init) (maxL := 2) (ret := none) (by decide) rfl ?_
  intro p e s m args below meth c s₁ B hml hv
  obtain ⟨rfl, hsz, hP, hK, hD0, hZ, hst⟩ := hv
  subst hsz
  have hD := hD0.self (sz := s.heap.size)
  generalize hAe : va_A [(a_ex, .inr (4, [.null, .null])), (a_pr, .inr (0, [.ref a_codes, .ref a_lens])), (a_codes, .inl (cI, 20, .inl pc)), (a_lens, .inl (cI, 4, .inl pl))] s.heap.size = A at hD hZ ⊢
  have hA : ∀ q : Nat, s.heap.size ≤ q → A q := fun q h => by rw [← hAe]; exact Or.inr h
  have C0 : jC p l s m ([.ref a_ex, .ref a_pr] : List Value).toArray meth c b_EX_init none 2 R_EX (dC, dI) cI cJ cZ cQ A := ⟨B.exec, B.bytes, B.returns, hml, findClass_of_methodNamed B.named, fun w hw => atoms_spec (ws := (.code y_EX_init b_EX_init 2 none :: jW)) B.pre w (List.mem_cons_of_mem _ hw), B.notSynchronized, hK, hZ, hA, hst⟩
  have hin : meth.name = "<init>" := (name_of_methodNamed B.named B.method).1
  obtain ⟨hx, hb, hr, hml, hown, hts, hlocks, hK, hZ, hA, hst⟩ := id C0
  have hS : va_S A s.heap s.heap [] := va_S.rf
  have hl := lv_entry ([.ref a_ex, .ref a_pr]) (n := 2) (Nat.le_of_ble_eq_true rfl)
  rw [lg_entry_eq]
  generalize (lg_sl ([.ref a_ex, .ref a_pr]) ++ List.replicate (2 - (lg_sl ([.ref a_ex, .ref a_pr])).length) Slot.unset).toArray = ls at hl ⊢
  have hl : lv_has ls 2 [(0, .ref a_ex), (1, .ref a_pr)] := hl
  obtain ⟨H, hH⟩ : ∃ H : Heap, H = s.heap := ⟨_, rfl⟩
  obtain ⟨locs, hlc⟩ : ∃ L : List Loc, L = [] := ⟨_, rfl⟩
  have hP : va_P (dC, dI) vwCl [(a_ex, .inr (4, [.null, .null])), (a_pr, .inr (0, [.ref a_codes, .ref a_lens])), (a_codes, .inl (cI, 20, .inl pc)), (a_lens, .inl (cI, 4, .inl pl))] H := by rw [hH]; exact hP
  have hS : va_S A s.heap H locs := by rw [hH, hlc]; exact hS
  suffices hW9 : W p l e ({ frames := 11, cells := mc, slots := ms, locals := 171 } : Room) s m ([.ref a_ex, .ref a_pr] : List Value).toArray below meth c H locs 0 0 (MQ below (jQ_EX_init dC dI cI cJ cZ cQ A a_ex a_pr a_codes a_lens Post) ([.ref a_ex, .ref a_pr] : List Value).toArray s mc ms A) (F0 m 0 ls []) by rw [hH, hlc] at hW9; exact hW9
  clear hH hlc
  rw [wp_EX_init] at h
  refine lv_aload_n hx hb d_EX_init_0 rfl (lv_at hl 0 rfl) ?_
  refine W.objInit hx hb hown (hts _ mw_53) (hts _ mw_32) (hts _ mw_33) rfl (by rw [hml]; exact hl.1) rfl d_EX_init_1 (Nat.le_of_ble_eq_true rfl) (Nat.le_of_ble_eq_true rfl) ?_
  refine W.eq (g2 := F0 m 4 ls []) rfl ?_
  refine lv_aload_n hx hb d_EX_init_4 rfl (lv_at hl 0 rfl) ?_
  have hrc := h.1
  have hrs := h.2.1
  have h := h.2.2
  refine va_new (ci := 2) (fs := [.null, .null, .null, .int 0, .int 0, .int 0]) (C := R_RO) (T := T_RO) (N := 6) hx hb hts in_RO ty_RO tok_RO hown (hts _ mw_54) (hts _ mw_55) (hts _ mw_4) hK hP hD hS hA rfl (fun j hj => by rcases (show j = 0 ∨ j = 1 ∨ j = 2 ∨ j = 3 ∨ j = 4 ∨ j = 5 by omega) with rfl | rfl | rfl | rfl | rfl | rfl <;> rfl) hrc hrs d_EX_init_5 (fun q1 H hP hD hS => ?_)
  have hP : va_P (dC, dI) vwCl [(a_ex, .inr (4, [.null, .null])), (a_pr, .inr (0, [.ref a_codes, .ref a_lens])), (a_codes, .inl (cI, 20, .inl pc)), (a_lens, .inl (cI, 4, .inl pl)), (q1, .inr (2, [.null, .null, .null, .int 0, .int 0, .int 0]))] H := hP
  have hD : va_D A [(a_ex, .inr (4, [.null, .null])), (a_pr, .inr (0, [.ref a_codes, .ref a_lens])), (a_codes, .inl (cI, 20, .inl pc)), (a_lens, .inl (cI, 4, .inl pl)), (q1, .inr (2, [.null, .null, .null, .int 0, .int 0, .int 0]))] := hD
  refine lv_dup hx hb d_EX_init_8 rfl ?_
  obtain ⟨mg9, sg10, hmg, hsg, h⟩ := h
  have hPc := hP.sub (ws' := [(q1, .inr (2, [.null, .null, .null, .int 0, .int 0, .int 0]))]) [4] rfl
  have hDc := hD.sub (ws' := [(q1, .inr (2, [.null, .null, .null, .int 0, .int 0, .int 0]))]) [4] (by decide) rfl
  have hFc := va_free (wc := [(q1, .inr (2, [.null, .null, .null, .int 0, .int 0, .int 0]))]) hD hS hA [4] rfl
  refine va_callv (va_runIN (As := []) (rest := [.ref q1, .ref a_ex]) ⟨hx, hb, hml, hown, hts⟩ (c_RO_init l dC dI cI cJ cZ cQ q1 H.size  mg9 sg10 _  h) ⟨va_cnB 0 hts (jG mw_58) rfl rfl rfl (nlm_1 hZ) (hts _ mw_4) (by decide +kernel) ⟨Nat.le_of_ble_eq_true rfl, Nat.le_of_ble_eq_true rfl⟩, rfl, hts _ mw_57⟩ ⟨jPre_blind, jPre_in hPc hK hDc hZ hS hFc hst⟩ rfl rfl hl.1 rfl (lv_room (Nat.le_of_ble_eq_true rfl)) d_EX_init_9 ⟨hmg, hsg⟩) hS (fun q _ h => hFc q h) hFc (fun u t H1 locs ht hvm hw hB hz1 hk1 hS => ?_)
  obtain ⟨u3, u4, u5, u6, u7, u8⟩ := u
  obtain ⟨q11, q12, q13, hP1, hK1, hD1⟩ := hB
  rw [ht] at hP1
  have h := hw
  obtain ⟨hP, hD⟩ := va_join (wr := [(a_ex, .inr (4, [.null, .null])), (a_pr, .inr (0, [.ref a_codes, .ref a_lens])), (a_codes, .inl (cI, 20, .inl pc)), (a_lens, .inl (cI, 4, .inl pl))]) (w1 := [(q1, .inr (2, [.ref q11, .ref q12, .ref q13, .int u3, .int u4, .int u5])), (q11, .inl (cJ, 256, .inr (.inl u6))), (q12, .inl (cJ, 256, .inr (.inl u7))), (q13, .inl (cI, 512, .inl u8))]) hP hD [4] [0, 1, 2, 3] rfl rfl (by decide) (by decide) hk1 hFc hP1 hD1
  generalize H1 = H at hP hS ⊢
  have hP : va_P (dC, dI) vwCl [(a_ex, .inr (4, [.null, .null])), (a_pr, .inr (0, [.ref a_codes, .ref a_lens])), (a_codes, .inl (cI, 20, .inl pc)), (a_lens, .inl (cI, 4, .inl pl)), (q1, .inr (2, [.ref q11, .ref q12, .ref q13, .int u3, .int u4, .int u5])), (q11, .inl (cJ, 256, .inr (.inl u6))), (q12, .inl (cJ, 256, .inr (.inl u7))), (q13, .inl (cI, 512, .inl u8))] H := hP
  have hD : va_D A [(a_ex, .inr (4, [.null, .null])), (a_pr, .inr (0, [.ref a_codes, .ref a_lens])), (a_codes, .inl (cI, 20, .inl pc)), (a_lens, .inl (cI, 4, .inl pl)), (q1, .inr (2, [.ref q11, .ref q12, .ref q13, .int u3, .int u4, .int u5])), (q11, .inl (cJ, 256, .inr (.inl u6))), (q12, .inl (cJ, 256, .inr (.inl u7))), (q13, .inl (cI, 512, .inl u8))] := hD
  refine va_putF (D := (dC, dI)) (ci := 4) (v := .ref q1) (ty := (.object "OrderMachines$Room")) (C := R_EX) (T := T_EX) (N := 2) hx hb hts in_EX ty_EX tok_EX nm_EX hown hK hP hD hS 0 rfl rfl 1 (by decide) (hts _ mw_112) (fun _ h9 => h9) rfl hin rfl (by decide +kernel) rfl rfl (Nat.le_of_ble_eq_true rfl) d_EX_init_12 (fun H locs hP hD hS => ?_)
  have hP : va_P (dC, dI) vwCl [(a_ex, .inr (4, [.null, .ref q1])), (a_pr, .inr (0, [.ref a_codes, .ref a_lens])), (a_codes, .inl (cI, 20, .inl pc)), (a_lens, .inl (cI, 4, .inl pl)), (q1, .inr (2, [.ref q11, .ref q12, .ref q13, .int u3, .int u4, .int u5])), (q11, .inl (cJ, 256, .inr (.inl u6))), (q12, .inl (cJ, 256, .inr (.inl u7))), (q13, .inl (cI, 512, .inl u8))] H := hP
  have hD : va_D A [(a_ex, .inr (4, [.null, .ref q1])), (a_pr, .inr (0, [.ref a_codes, .ref a_lens])), (a_codes, .inl (cI, 20, .inl pc)), (a_lens, .inl (cI, 4, .inl pl)), (q1, .inr (2, [.ref q11, .ref q12, .ref q13, .int u3, .int u4, .int u5])), (q11, .inl (cJ, 256, .inr (.inl u6))), (q12, .inl (cJ, 256, .inr (.inl u7))), (q13, .inl (cI, 512, .inl u8))] := hD
  refine lv_aload_n hx hb d_EX_init_15 rfl (lv_at hl 0 rfl) ?_
  have hrc := h.1
  have hrs := h.2.1
  have h := h.2.2
  refine va_new (ci := 1) (fs := [.null, .int 0, .long 0, .long 0, .long 0, .long 0]) (C := R_MA) (T := T_MA) (N := 6) hx hb hts in_MA ty_MA tok_MA hown (hts _ mw_84) (hts _ mw_85) (hts _ mw_5) hK hP hD hS hA rfl (fun j hj => by rcases (show j = 0 ∨ j = 1 ∨ j = 2 ∨ j = 3 ∨ j = 4 ∨ j = 5 by omega) with rfl | rfl | rfl | rfl | rfl | rfl <;> rfl) hrc hrs d_EX_init_16 (fun q14 H hP hD hS => ?_)
  have hP : va_P (dC, dI) vwCl [(a_ex, .inr (4, [.null, .ref q1])), (a_pr, .inr (0, [.ref a_codes, .ref a_lens])), (a_codes, .inl (cI, 20, .inl pc)), (a_lens, .inl (cI, 4, .inl pl)), (q1, .inr (2, [.ref q11, .ref q12, .ref q13, .int u3, .int u4, .int u5])), (q11, .inl (cJ, 256, .inr (.inl u6))), (q12, .inl (cJ, 256, .inr (.inl u7))), (q13, .inl (cI, 512, .inl u8)), (q14, .inr (1, [.null, .int 0, .long 0, .long 0, .long 0, .long 0]))] H := hP
  have hD : va_D A [(a_ex, .inr (4, [.null, .ref q1])), (a_pr, .inr (0, [.ref a_codes, .ref a_lens])), (a_codes, .inl (cI, 20, .inl pc)), (a_lens, .inl (cI, 4, .inl pl)), (q1, .inr (2, [.ref q11, .ref q12, .ref q13, .int u3, .int u4, .int u5])), (q11, .inl (cJ, 256, .inr (.inl u6))), (q12, .inl (cJ, 256, .inr (.inl u7))), (q13, .inl (cI, 512, .inl u8)), (q14, .inr (1, [.null, .int 0, .long 0, .long 0, .long 0, .long 0]))] := hD
  refine lv_dup hx hb d_EX_init_19 rfl ?_
  refine lv_aload_n hx hb d_EX_init_20 rfl (lv_at hl 1 rfl) ?_
  obtain ⟨mg23, sg24, hmg, hsg, h⟩ := h
  have hPc := hP.sub (ws' := [(q14, .inr (1, [.null, .int 0, .long 0, .long 0, .long 0, .long 0])), (a_pr, .inr (0, [.ref a_codes, .ref a_lens])), (a_codes, .inl (cI, 20, .inl pc)), (a_lens, .inl (cI, 4, .inl pl))]) [8, 1, 2, 3] rfl
  have hDc := hD.sub (ws' := [(q14, .inr (1, [.null, .int 0, .long 0, .long 0, .long 0, .long 0])), (a_pr, .inr (0, [.ref a_codes, .ref a_lens])), (a_codes, .inl (cI, 20, .inl pc)), (a_lens, .inl (cI, 4, .inl pl))]) [8, 1, 2, 3] (by decide) rfl
  have hFc := va_free (wc := [(q14, .inr (1, [.null, .int 0, .long 0, .long 0, .long 0, .long 0])), (a_pr, .inr (0, [.ref a_codes, .ref a_lens])), (a_codes, .inl (cI, 20, .inl pc)), (a_lens, .inl (cI, 4, .inl pl))]) hD hS hA [8, 1, 2, 3] rfl
  refine va_callv (va_runI (As := [.ref a_pr]) (rest := [.ref q14, .ref a_ex]) ⟨hx, hb, hml, hown, hts⟩ (c_MA_init l dC dI cI cJ cZ cQ q14 a_pr a_codes a_lens H.size pc pl mg23 sg24 _  h) (cwI 1 hts (jG mw_88) rfl rfl rfl (hts _ mw_5) (hts _ mw_86) (hts _ mw_87) rfl (by decide +kernel) ⟨Nat.le_of_ble_eq_true rfl, Nat.le_of_ble_eq_true rfl⟩) ⟨jPre_blind, jPre_in hPc hK hDc hZ hS hFc hst⟩ rfl rfl hl.1 rfl (lv_room (Nat.le_of_ble_eq_true rfl)) d_EX_init_21 ⟨hmg, hsg⟩) hS (fun q _ h => hFc q h) hFc (fun u t H1 locs ht hvm hw hB hz1 hk1 hS => ?_)
  obtain ⟨u16, u17, u18, u19, u20, u21, u22⟩ := u
  obtain ⟨hP1, hK1, hD1⟩ := hB
  rw [ht] at hP1
  have h := hw
  obtain ⟨hP, hD⟩ := va_join (wr := [(a_ex, .inr (4, [.null, .ref q1])), (q1, .inr (2, [.ref q11, .ref q12, .ref q13, .int u3, .int u4, .int u5])), (q11, .inl (cJ, 256, .inr (.inl u6))), (q12, .inl (cJ, 256, .inr (.inl u7))), (q13, .inl (cI, 512, .inl u8))]) (w1 := [(q14, .inr (1, [.ref a_pr, .int u16, .long u17, .long u18, .long u19, .long u20])), (a_pr, .inr (0, [.ref a_codes, .ref a_lens])), (a_codes, .inl (cI, 20, .inl u21)), (a_lens, .inl (cI, 4, .inl u22))]) hP hD [8, 1, 2, 3] [0, 4, 5, 6, 7] rfl rfl (by decide) (by decide) hk1 hFc hP1 hD1
  generalize H1 = H at hP hS ⊢
  have hP : va_P (dC, dI) vwCl [(a_ex, .inr (4, [.null, .ref q1])), (q1, .inr (2, [.ref q11, .ref q12, .ref q13, .int u3, .int u4, .int u5])), (q11, .inl (cJ, 256, .inr (.inl u6))), (q12, .inl (cJ, 256, .inr (.inl u7))), (q13, .inl (cI, 512, .inl u8)), (q14, .inr (1, [.ref a_pr, .int u16, .long u17, .long u18, .long u19, .long u20])), (a_pr, .inr (0, [.ref a_codes, .ref a_lens])), (a_codes, .inl (cI, 20, .inl u21)), (a_lens, .inl (cI, 4, .inl u22))] H := hP
  have hD : va_D A [(a_ex, .inr (4, [.null, .ref q1])), (q1, .inr (2, [.ref q11, .ref q12, .ref q13, .int u3, .int u4, .int u5])), (q11, .inl (cJ, 256, .inr (.inl u6))), (q12, .inl (cJ, 256, .inr (.inl u7))), (q13, .inl (cI, 512, .inl u8)), (q14, .inr (1, [.ref a_pr, .int u16, .long u17, .long u18, .long u19, .long u20])), (a_pr, .inr (0, [.ref a_codes, .ref a_lens])), (a_codes, .inl (cI, 20, .inl u21)), (a_lens, .inl (cI, 4, .inl u22))] := hD
  refine va_putF (D := (dC, dI)) (ci := 4) (v := .ref q14) (ty := (.object "OrderMachines$Machine")) (C := R_EX) (T := T_EX) (N := 2) hx hb hts in_EX ty_EX tok_EX nm_EX hown hK hP hD hS 0 rfl rfl 0 (by decide) (hts _ mw_111) (fun _ h9 => h9) rfl hin rfl (by decide +kernel) rfl rfl (Nat.le_of_ble_eq_true rfl) d_EX_init_24 (fun H locs hP hD hS => ?_)
  have hP : va_P (dC, dI) vwCl [(a_ex, .inr (4, [.ref q14, .ref q1])), (q1, .inr (2, [.ref q11, .ref q12, .ref q13, .int u3, .int u4, .int u5])), (q11, .inl (cJ, 256, .inr (.inl u6))), (q12, .inl (cJ, 256, .inr (.inl u7))), (q13, .inl (cI, 512, .inl u8)), (q14, .inr (1, [.ref a_pr, .int u16, .long u17, .long u18, .long u19, .long u20])), (a_pr, .inr (0, [.ref a_codes, .ref a_lens])), (a_codes, .inl (cI, 20, .inl u21)), (a_lens, .inl (cI, 4, .inl u22))] H := hP
  have hD : va_D A [(a_ex, .inr (4, [.ref q14, .ref q1])), (q1, .inr (2, [.ref q11, .ref q12, .ref q13, .int u3, .int u4, .int u5])), (q11, .inl (cJ, 256, .inr (.inl u6))), (q12, .inl (cJ, 256, .inr (.inl u7))), (q13, .inl (cI, 512, .inl u8)), (q14, .inr (1, [.ref a_pr, .int u16, .long u17, .long u18, .long u19, .long u20])), (a_pr, .inr (0, [.ref a_codes, .ref a_lens])), (a_codes, .inl (cI, 20, .inl u21)), (a_lens, .inl (cI, 4, .inl u22))] := hD
  refine W.widen (k := mc) (n := ms) h.1 h.2.1 ?_
  have h := h.2.2
  have hP9 := hP.sub (ws' := [(a_ex, .inr (4, [.ref q14, .ref q1])), (q14, .inr (1, [.ref a_pr, .int u16, .long u17, .long u18, .long u19, .long u20])), (a_pr, .inr (0, [.ref a_codes, .ref a_lens])), (a_codes, .inl (cI, 20, .inl u21)), (a_lens, .inl (cI, 4, .inl u22)), (q1, .inr (2, [.ref q11, .ref q12, .ref q13, .int u3, .int u4, .int u5])), (q11, .inl (cJ, 256, .inr (.inl u6))), (q12, .inl (cJ, 256, .inr (.inl u7))), (q13, .inl (cI, 512, .inl u8))]) [0, 5, 6, 7, 8, 1, 2, 3, 4] rfl
  have hD9 := hD.sub (ws' := [(a_ex, .inr (4, [.ref q14, .ref q1])), (q14, .inr (1, [.ref a_pr, .int u16, .long u17, .long u18, .long u19, .long u20])), (a_pr, .inr (0, [.ref a_codes, .ref a_lens])), (a_codes, .inl (cI, 20, .inl u21)), (a_lens, .inl (cI, 4, .inl u22)), (q1, .inr (2, [.ref q11, .ref q12, .ref q13, .int u3, .int u4, .int u5])), (q11, .inl (cJ, 256, .inr (.inl u6))), (q12, .inl (cJ, 256, .inr (.inl u7))), (q13, .inl (cI, 512, .inl u8))]) [0, 5, 6, 7, 8, 1, 2, 3, 4] (by decide) rfl
  exact W.vret hx hb hr (fun t ht hW => ⟨⟨(u16, u17, u18, u19, u20, u21, u22, u3, u4, u5, u6, u7, u8), rfl, h, q14, q1, q11, q12, q13, by rw [ht]; exact hP9, va_K.moved hW.alike hK, hD9⟩, hS.F ht⟩) hS.2.2 d_EX_init_27
