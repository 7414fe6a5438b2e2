theorem cS_s (ms : Nat → Int32) (s k : Nat) : cS ms s (k + 1) = cS ms s k + op ms s k := rfl
theorem op_pos {ms : Nat → Int32} {s k : Nat} (h : k = 0 ∨ ms (4 * s + k - 1) ≠ 0) : op ms s k = 1 := if_pos h
theorem op_neg {ms : Nat → Int32} {s k : Nat} (h0 : k ≠ 0) (h : ms (4 * s + k - 1) = 0) : op ms s k = 0 := if_neg (fun h1 => h1.elim h0 (fun h2 => h2 h))
theorem slS_lt {ms : Nat → Int32} {c : Nat → Nat} {s k p : Nat} {f : Nat → Bool} (h : p < cA ms c s + cS ms s k) : slS ms c s f (k + 1) p = slS ms c s f k p := by
  show (if op ms s k = 1 ∧ p = cA ms c s + cS ms s k then _ else _) = _
  rw [if_neg]
  rintro ⟨_, e⟩
  omega
theorem slS_no {ms : Nat → Int32} {c : Nat → Nat} {s k : Nat} {f : Nat → Bool} (h : op ms s k = 0) : slS ms c s f (k + 1) = slS ms c s f k := by
  funext p
  show (if op ms s k = 1 ∧ p = cA ms c s + cS ms s k then _ else _) = _
  rw [if_neg]
  rintro ⟨e, _⟩
  omega
theorem slS_at {ms : Nat → Int32} {c : Nat → Nat} {s k : Nat} {f : Nat → Bool} (h : op ms s k = 1) : slS ms c s f (k + 1) (cA ms c s + cS ms s k) = decide (k ≠ 0) := by
  show (if op ms s k = 1 ∧ _ = cA ms c s + cS ms s k then _ else _) = _
  rw [if_pos ⟨h, rfl⟩]
theorem sub1 {a : Nat} (h : 1 ≤ a) : nI a - 1 = nI (a - 1) := by
  rw [show (1 : Int32) = nI 1 from rfl, pk_sub h]
theorem cnt_open {ms : Nat → Int32} {c : Nat → Nat} {s k : Nat} {f : Nat → Bool} (h : op ms s k = 1) :
    cntB (slS ms c s f (k + 1)) (cA ms c s + cS ms s (k + 1)) = cntB (slS ms c s f k) (cA ms c s + cS ms s k) + (if k ≠ 0 then 1 else 0) := by
  rw [cS_s, h, ← Nat.add_assoc]
  show cntB _ (cA ms c s + cS ms s k) + (if slS ms c s f (k + 1) (cA ms c s + cS ms s k) then 1 else 0) = _
  rw [slS_at h, cntB_cong (g := slS ms c s f k) (fun j hj => slS_lt hj)]
  simp
theorem s_add {ms wt : Nat → Int32} {c : Nat → Nat} {n s k : Nat} (hn : n ≤ 10) (hc : ∀ i, i < 10 → c i ≤ 4) (hs : s < n) (hk : k < c s) (hw : wt (4 * s + k) = -1 ∨ ∃ x, x < 4 ∧ wt (4 * s + k) = nI x)
    {np ns : Int32} {pf : Nat → Int32} {nr : Nat → Int64} {sl cl : Nat → Int32} {K : (Int32 × Int32 × (Nat → Int32) × (Nat → Int64) × (Nat → Int32) × (Nat → Int32)) → Prop}
    (hI : NumI ms wt c s k np ns pf nr sl cl) (hK : ∀ np ns pf nr sl cl, NumI ms wt c s (k + 1) np ns pf nr sl cl → K (np, ns, pf, nr, sl, cl)) : wX0_addToParts ms wt np ns pf nr sl cl (nI k) (nI (4 * s + k)) K := by
  obtain ⟨h1, h2, h3, h4⟩ := hI
  have hks := hc s (by omega)
  have hA := cA_le (ms := ms) (n := s) hc (by omega)
  have hS := cS_le ms s k
  have hB : cA ms c s + cS ms s k < 40 := by omega
  have opened : ∀ (ho : op ms s k = 1) (ns' : Int32), ns' = nI (cntB (slS ms c s (slA ms c s) (k + 1)) (cA ms c s + cS ms s (k + 1))) →
      bkX0_addToParts_41 ms wt K (nI (cA ms c s + cS ms s k + 1)) ns' pf (vp_updL nr (cA ms c s + cS ms s k) 0) (upd sl (cA ms c s + cS ms s k) (z1 (decide (k ≠ 0)))) (upd cl (cA ms c s + cS ms s k) 15) (nI (4 * s + k)) := by
    intro ho ns' hns
    refine s_add41 hn hc hs hk hw (by rw [cS_s, ho]; rfl) hns h3 (fun p hp => ?_) hK
    rw [cS_s, ho] at hp
    by_cases e : p = cA ms c s + cS ms s k
    · subst e
      refine ⟨by rw [u_s, slS_at ho], uL_s, fun x hx => ?_⟩
      rw [u_s, tc_15 x hx]
      refine ⟨fun _ s' k' hpr e => ?_, fun _ => rfl⟩
      have := PO_pr (ms := ms) hpr
      omega
    · have hp2 : p < cA ms c s + cS ms s k := by omega
      obtain ⟨a, b, d⟩ := h4 p hp2
      refine ⟨by rw [u_n e, slS_lt hp2]; exact a, by rw [uL_n e]; exact b, fun x hx => ?_⟩
      rw [u_n e]
      exact d x hx
  unfold wX0_addToParts
  refine ⟨fun hk0 => ⟨?_, ?_⟩, fun hk0 => ?_⟩
  · have hk1 : k ≠ 0 := fun e => hk0 (by rw [e]; rfl)
    rw [sub1 (by omega)]
    exact vp_in_nI (by omega) (by omega)
  · have hk1 : k ≠ 0 := fun e => hk0 (by rw [e]; rfl)
    rw [sub1 (by omega), nI_clamp (by omega)]
    refine ⟨fun hm => ?_, fun hm => ?_⟩
    · have ho := op_neg hk1 hm
      refine s_add41 hn hc hs hk hw (by rw [cS_s, ho]; exact h1) (by rw [slS_no ho, cS_s, ho]; exact h2) h3 (fun p hp => ?_) hK
      rw [cS_s, ho] at hp
      rw [slS_no ho]
      exact h4 p hp
    · have ho := op_pos (s := s) (k := k) (Or.inr hm)
      rw [h1]
      refine s_openPart (b := true) hB ?_
      rintro _ rfl
      have := opened ho (ns + 1) (by rw [cnt_open ho, h2, nI_1, if_pos hk1])
      rw [decide_eq_true hk1] at this
      exact this
  · have hk1 : k = 0 := by
      rw [show (0 : Int32) = nI 0 from rfl] at hk0
      exact nI_inj (by omega) (by omega) hk0
    have ho := op_pos (ms := ms) (s := s) (k := k) (Or.inl hk1)
    rw [h1]
    refine s_openPart (b := false) hB ?_
    have := opened ho ns (by rw [cnt_open ho, h2, if_neg (fun h => h hk1)]; rfl)
    rw [decide_eq_false (fun h : k ≠ 0 => h hk1)] at this
    exact this
theorem Num_next {ms wt : Nat → Int32} {c : Nat → Nat} {s : Nat} {np ns : Int32} {pf : Nat → Int32} {nr : Nat → Int64} {sl cl : Nat → Int32} (h : NumI ms wt c s (c s) np ns pf nr sl cl) : NumI ms wt c (s + 1) 0 np ns pf nr sl cl := by
  obtain ⟨h1, h2, h3, h4⟩ := h
  have hpr : ∀ s' k', Pr c (s + 1) 0 s' k' → Pr c s (c s) s' k' := by
    rintro s' k' (⟨a, b⟩ | ⟨_, b⟩)
    · by_cases e : s' = s
      · subst e; exact Or.inr ⟨rfl, b⟩
      · exact Or.inl ⟨by omega, b⟩
    · omega
  have hpr2 : ∀ s' k', Pr c s (c s) s' k' → Pr c (s + 1) 0 s' k' := by
    rintro s' k' (⟨a, b⟩ | ⟨rfl, b⟩)
    · exact Or.inl ⟨by omega, b⟩
    · exact Or.inl ⟨by omega, b⟩
  refine ⟨h1, h2, fun s' k' hp => h3 s' k' (hpr s' k' hp), fun p hp => ⟨(h4 p hp).1, (h4 p hp).2.1, fun x hx => ((h4 p hp).2.2 x hx).trans ⟨fun h s' k' hp e => h s' k' (hpr s' k' hp) e, fun h s' k' hp e => h s' k' (hpr2 s' k' hp) e⟩⟩⟩
theorem s_num25 {ps : Int32} {bx ms wt : Nat → Int32} {c : Nat → Nat} {n s : Nat} (hn : n ≤ 10) (hb : ∀ i, i < 10 → bx i = nI (c i) ∧ c i ≤ 4 ∧ (n ≤ i → c i = 0)) (hs : s < n) (hw : ∀ k, k < c s → wt (4 * s + k) = -1 ∨ ∃ x, x < 4 ∧ wt (4 * s + k) = nI x)
    {K : (Int32 × Int32 × (Nat → Int32) × (Nat → Int64) × (Nat → Int32) × (Nat → Int32)) → Prop} {k54 : Int32 → Int32 → (Nat → Int32) → (Nat → Int64) → (Nat → Int32) → (Nat → Int32) → Int32 → Prop} (hK : ∀ np ns pf nr sl cl, NumI ms wt c s (c s) np ns pf nr sl cl → k54 np ns pf nr sl cl (nI s)) :
    ∀ (m k : Nat) (np ns : Int32) (pf : Nat → Int32) (nr : Nat → Int64) (sl cl : Nat → Int32), k ≤ c s → c s - k < m → NumI ms wt c s k np ns pf nr sl cl → lpX0_numberParts_25 ps bx ms wt K k54 m np ns pf nr sl cl (nI s) (nI k) := by
  have hcs := (hb s (by omega)).2.1
  intro m
  induction m with
  | zero => intro k np ns pf nr sl cl h1 h2; omega
  | succ m ih =>
    intro k np ns pf nr sl cl h1 h2 hI
    rw [lpX0_numberParts_25.eq_2]
    refine ⟨vp_in_nI (by omega) (by omega), ?_⟩
    rw [nI_clamp (by omega), (hb s (by omega)).1]
    refine ⟨fun h => ?_, fun h => ?_⟩
    · have e : k = c s := by rw [nI_leI (by omega) (by omega)] at h; omega
      subst e
      exact hK _ _ _ _ _ _ hI
    · have hk : k < c s := by rw [nI_leI (by omega) (by omega)] at h; omega
      unfold wX2_slot
      rw [slotI (by omega) (by omega)]
      refine s_add hn (fun i hi => (hb i hi).2.1) hs hk (hw k hk) hI (fun np ns pf nr sl cl hI2 => ?_)
      rintro _ rfl
      rw [nI_1]
      exact ih (k + 1) _ _ _ _ _ _ (by omega) (by omega) hI2
theorem s_num12 {bx ms wt : Nat → Int32} {c : Nat → Nat} {n : Nat} (hn : n ≤ 10) (hb : ∀ i, i < 10 → bx i = nI (c i) ∧ c i ≤ 4 ∧ (n ≤ i → c i = 0)) (hw : ∀ s k, s < n → k < c s → wt (4 * s + k) = -1 ∨ ∃ x, x < 4 ∧ wt (4 * s + k) = nI x)
    {K : (Int32 × Int32 × (Nat → Int32) × (Nat → Int64) × (Nat → Int32) × (Nat → Int32)) → Prop} {k60 : Int32 → Int32 → (Nat → Int32) → (Nat → Int64) → (Nat → Int32) → (Nat → Int32) → Prop} (hK : ∀ np ns pf nr sl cl, NumI ms wt c n 0 np ns pf nr sl cl → k60 np ns pf nr sl cl) :
    ∀ (m s : Nat) (np ns : Int32) (pf : Nat → Int32) (nr : Nat → Int64) (sl cl : Nat → Int32), s ≤ n → n - s < m → NumI ms wt c s 0 np ns pf nr sl cl → lpX0_numberParts_12 (nI n) bx ms wt K k60 m np ns pf nr sl cl (nI s) := by
  intro m
  induction m with
  | zero => intro k np ns pf nr sl cl h1 h2; omega
  | succ m ih =>
    intro s np ns pf nr sl cl h1 h2 hI
    rw [lpX0_numberParts_12.eq_2]
    refine ⟨fun h => ?_, fun h => ?_⟩
    · have e : s = n := by rw [nI_leI (by omega) (by omega)] at h; omega
      subst e
      exact hK _ _ _ _ _ _ hI
    · have hs : s < n := by rw [nI_leI (by omega) (by omega)] at h; omega
      refine ⟨c s + 1, s_num25 hn hb hs (fun k hk => hw s k hs hk) (fun np ns pf nr sl cl hI2 => ?_) (c s + 1) 0 _ _ _ _ _ _ (by omega) (by omega) hI⟩
      rintro _ rfl
      rw [nI_1]
      exact ih (s + 1) _ _ _ _ _ _ (by omega) (by omega) (Num_next hI2)
theorem s_numberParts {bx ms wt : Nat → Int32} {c : Nat → Nat} {n : Nat} (hn : n ≤ 10) (hb : ∀ i, i < 10 → bx i = nI (c i) ∧ c i ≤ 4 ∧ (n ≤ i → c i = 0)) (hw : ∀ s k, s < n → k < c s → wt (4 * s + k) = -1 ∨ ∃ x, x < 4 ∧ wt (4 * s + k) = nI x)
    {np ns : Int32} {pf : Nat → Int32} {nr : Nat → Int64} {sl cl : Nat → Int32} {K : (Int32 × Int32 × (Nat → Int32) × (Nat → Int64) × (Nat → Int32) × (Nat → Int32)) → Prop} (hK : ∀ np ns pf nr sl cl, NumI ms wt c n 0 np ns pf nr sl cl → K (np, ns, pf, nr, sl, cl)) :
    wX0_numberParts (nI n) bx ms wt np ns pf nr sl cl K := by
  refine ⟨n + 1, s_num12 hn hb hw hK (n + 1) 0 _ _ _ _ _ _ (by omega) (by omega) ⟨rfl, rfl, ?_, ?_⟩⟩
  · rintro s' k' (⟨a, _⟩ | ⟨_, a⟩) <;> omega
  · intro p hp
    have : p < 0 := hp
    omega
