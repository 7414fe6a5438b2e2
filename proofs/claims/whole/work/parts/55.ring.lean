theorem par : ∀ s, s < 100 → ((nI s &&& 1) = 0 ↔ s % 2 = 0) := by decide +kernel
section RNG
variable {N : Nat} {nr : Nat → Int64}
def OI (N : Nat) (nr : Nat → Int64) (p s : Nat) (rc : Nat → Int64) (v2 v4 : Int64) : Prop :=
  (∀ k, k < s → ∀ j, tb (rc k) j = true ↔ DW N nr p k j) ∧ (∀ j, tb v2 j = true ↔ ∃ k, k < s ∧ k % 2 = 1 ∧ Wk N nr p k j) ∧ (∀ j, tb v4 j = true ↔ ∃ k, k < s ∧ k % 2 = 0 ∧ Wk N nr p k j) ∧ (∀ k, k < s → k % 2 = 1 → ¬ Wk N nr p k p)
theorem tb_ne {x : Int64} (h : ∀ j, ¬ tb x j = true) : x = 0 := tb_ext (fun j _ => by rw [tb_0]; simpa using h j)
theorem seen_upd {p s e : Nat} {v r : Int64} (hse : s % 2 = e) (hv : ∀ j, tb v j = true ↔ ∃ k, k < s ∧ k % 2 = e ∧ Wk N nr p k j) (hr1 : ∀ j, tb r j = true → Wk N nr p s j) (hr2 : ∀ j, DW N nr p s j → tb r j = true) : ∀ j, tb (v ||| r) j = true ↔ ∃ k, k < s + 1 ∧ k % 2 = e ∧ Wk N nr p k j := by
  intro j
  rw [tb_or, Bool.or_eq_true, hv j]
  constructor
  · rintro (⟨k, a1, a2, a3⟩ | h)
    · exact ⟨k, by omega, a2, a3⟩
    · exact ⟨s, by omega, hse, hr1 j h⟩
  · rintro ⟨k, a1, a2, a3⟩
    by_cases ek : k = s
    · subst ek
      by_cases hc : ∃ k', k' < k ∧ k' % 2 = e ∧ Wk N nr p k' j
      · exact Or.inl hc
      · exact Or.inr (hr2 j ⟨a3, fun k' b1 b2 b3 => hc ⟨k', b1, by omega, b3⟩⟩)
    · exact Or.inl ⟨k, by omega, a2, a3⟩
theorem seen_new (hG : GR N nr) {p s e : Nat} (hp : p < N) {v r : Int64} (hse : s % 2 = e) (hv : ∀ j, tb v j = true ↔ ∃ k, k < s ∧ k % 2 = e ∧ Wk N nr p k j) (hr1 : ∀ j, tb r j = true → Wk N nr p s j) (hr2 : ∀ j, DW N nr p s j → tb r j = true) : ∀ j, tb (r &&& (v ^^^ (-1))) j = true ↔ DW N nr p s j := by
  intro j
  have hN := hG.1
  by_cases hj : j < 64
  · rw [tb_and, tb_not hj, Bool.and_eq_true]
    constructor
    · rintro ⟨h1, h2⟩
      refine ⟨hr1 j h1, fun k' b1 b2 b3 => ?_⟩
      have := (hv j).mpr ⟨k', b1, by omega, b3⟩
      rw [this] at h2
      exact absurd h2 (by decide)
    · intro hd
      refine ⟨hr2 j hd, ?_⟩
      cases e1 : tb v j
      · rfl
      · obtain ⟨k, b1, b2, b3⟩ := (hv j).mp e1
        exact absurd b3 (hd.2 k b1 (by omega))
  · rw [tb_big (by omega)]
    refine ⟨fun h => absurd h (by decide), fun hd => ?_⟩
    have := W_lt hG hp hd.1
    omega
theorem s_odd21 (hG : GR N nr) {p : Nat} (hp : p < N) {K : Int32 → (Nat → Int64) → Prop} {k99 : (Nat → Int64) → Int32 → Prop} {k131 : (Nat → Int64) → Prop}
    (h1 : ∀ s rc, s % 2 = 1 → s ≤ 80 → Wk N nr p s p → (∀ k, k < s → k % 2 = 1 → ¬ Wk N nr p k p) → (∀ k, k ≤ s → ∀ j, tb (rc k) j = true ↔ DW N nr p k j) → k99 rc (nI s)) (h0 : ∀ rc, (∀ s, s % 2 = 1 → s ≤ 80 → ¬ Wk N nr p s p) → k131 rc) :
    ∀ (m s : Nat) (rc : Nat → Int64) (v2 v4 : Int64), 1 ≤ s → s ≤ 81 → 81 - s < m → OI N nr p s rc v2 v4 → lpX3_oddWalkFrom_21 (nI N) nr K k99 k131 m rc (nI p) v2 v4 (nI s) := by
  have hN := hG.1
  intro m
  induction m with
  | zero => intro s rc v2 v4 _ _ h; omega
  | succ m ih =>
    intro s rc v2 v4 hs1 hs2 hm hI
    obtain ⟨i1, i2, i3, i4⟩ := hI
    rw [lpX3_oddWalkFrom_21.eq_2]
    refine ⟨fun h => ?_, fun h => ?_⟩
    · have e : s = 81 := by rw [show (80 : Int32) = nI 80 from rfl, nI_ltI (by omega) (by omega)] at h; omega
      exact h0 rc (fun k hk1 hk2 => i4 k (by omega) hk1)
    · have hs : s ≤ 80 := by rw [show (80 : Int32) = nI 80 from rfl, nI_ltI (by omega) (by omega)] at h; omega
      rw [sub1 hs1, nI_clamp (by omega), lg_0, par s (by omega), nI_clamp (by omega)]
      refine ⟨vp_in_nI (by omega) (by omega), fun hz => h0 rc (fun k hk1 _ hw => ?_), fun _ => ⟨vp_in_nI (by omega) (by omega), s_nearTo hN (fun r hr => ?_)⟩⟩
      · have hem : ∀ j, ¬ DW N nr p (s - 1) j := by
          intro j hd
          have := (i1 (s - 1) (by omega) j).mpr hd
          rw [hz, tb_0] at this
          exact absurd this (by decide)
        obtain ⟨k0, b1, b2, b3⟩ := DW_least k hw
        by_cases hk0 : k0 < s
        · exact i4 k0 hk0 (by omega) b3.1
        · exact DW_empty hem k0 (by omega) p b3
      · have hr1 : ∀ j, tb r j = true → Wk N nr p s j := by
          intro j hj
          obtain ⟨x, c1, c2, c3⟩ := (hr j).mp hj
          rw [show s = s - 1 + 1 by omega]
          exact ⟨x, c1, ((i1 (s - 1) (by omega) x).mp c2).1, c3⟩
        have hr2 : ∀ j, DW N nr p s j → tb r j = true := by
          intro j hd
          rw [show s = s - 1 + 1 by omega] at hd
          obtain ⟨x, c1, c2, c3⟩ := DW_pred hd
          exact (hr j).mpr ⟨x, c1, (i1 (s - 1) (by omega) x).mpr c2, c3⟩
        have hrc : ∀ r' : Int64, (∀ j, tb r' j = true ↔ DW N nr p s j) → ∀ k, k < s + 1 → ∀ j, tb (vp_updL rc s r' k) j = true ↔ DW N nr p k j := by
          intro r' hr' k hk j
          by_cases e : k = s
          · subst e; rw [uL_s]; exact hr' j
          · rw [uL_n e]; exact i1 k (by omega) j
        refine ⟨fun hpar => ⟨vp_in_nI (by omega) (by omega), ?_⟩, fun hpar => ⟨vp_in_nI (by omega) (by omega), ?_⟩⟩
        · rintro _ rfl _ rfl
          unfold bkX3_oddWalkFrom_125
          rintro _ rfl
          rw [nI_1]
          refine ih (s + 1) _ _ _ (by omega) (by omega) (by omega) ⟨hrc _ (seen_new hG hp hpar i3 hr1 hr2), fun j => (i2 j).trans ⟨?_, ?_⟩, seen_upd hpar i3 hr1 hr2, fun k hk hk1 => i4 k (by omega) hk1⟩
          · rintro ⟨k, a1, a2⟩; exact ⟨k, by omega, a2⟩
          · rintro ⟨k, a1, a2, a3⟩; exact ⟨k, by omega, a2, a3⟩
        · have hpar1 : s % 2 = 1 := by omega
          rintro _ rfl _ rfl
          refine s_bit ?_
          rw [lg_0, and_b1 _ (by omega)]
          have hD := hrc _ (seen_new hG hp hpar1 i2 hr1 hr2)
          refine ⟨fun hz => ?_, fun hz => ?_⟩
          · unfold bkX3_oddWalkFrom_125
            rintro _ rfl
            rw [nI_1]
            refine ih (s + 1) _ _ _ (by omega) (by omega) (by omega) ⟨hD, seen_upd hpar1 i2 hr1 hr2, fun j => (i3 j).trans ⟨?_, ?_⟩, fun k hk hk1 hw => ?_⟩
            · rintro ⟨k, a1, a2⟩; exact ⟨k, by omega, a2⟩
            · rintro ⟨k, a1, a2, a3⟩; exact ⟨k, by omega, a2, a3⟩
            · by_cases e : k = s
              · subst e
                have := hr2 p ⟨hw, fun k' b1 b2 b3 => i4 k' b1 (by omega) b3⟩
                rw [hz] at this
                exact absurd this (by decide)
              · exact i4 k (by omega) hk1 hw
          · have hz1 : tb r p = true := by simpa using hz
            exact h1 s _ hpar1 hs (hr1 p hz1) i4 (fun k hk => hD k (by omega))
theorem s_oddWalk (hG : GR N nr) {p : Nat} (hp : p < N) {rc : Nat → Int64} {K : Int32 → (Nat → Int64) → Prop}
    (h1 : ∀ s rc, s % 2 = 1 → s ≤ 80 → Wk N nr p s p → (∀ k, k < s → k % 2 = 1 → ¬ Wk N nr p k p) → (∀ k, k ≤ s → ∀ j, tb (rc k) j = true ↔ DW N nr p k j) → K (nI s) rc) (h0 : ∀ rc, (∀ s, s % 2 = 1 → s ≤ 80 → ¬ Wk N nr p s p) → K 0 rc) :
    wX3_oddWalkFrom (nI N) nr rc (nI p) K := by
  have hN := hG.1
  have hb : ∀ j, tb (b1 p) j = true ↔ Wk N nr p 0 j := by
    intro j
    rw [tb_b1 (by omega), decide_eq_true_eq]
    exact Iff.rfl
  unfold wX3_oddWalkFrom
  refine s_bit (s_bit ⟨vp_in_nI (n := 0) (by omega) (by omega), ?_⟩)
  rintro _ rfl
  refine ⟨82, s_odd21 hG hp (fun s rc a b c d e => h1 s rc a b c d e) h0 82 1 _ _ _ (by omega) (by omega) (by omega) ⟨fun k hk j => ?_, fun j => ?_, fun j => ?_, fun k hk hk1 => by omega⟩⟩
  · have e : k = 0 := by omega
    subst e
    show tb (vp_updL rc 0 (b1 p) 0) j = true ↔ _
    rw [uL_s, hb j]
    exact ⟨fun h => ⟨h, fun k' hk' => by omega⟩, fun h => h.1⟩
  · rw [tb_0]
    exact ⟨fun h => absurd h (by decide), fun ⟨k, a1, a2, _⟩ => by omega⟩
  · rw [hb j]
    constructor
    · intro h; exact ⟨0, by omega, rfl, h⟩
    · rintro ⟨k, a1, _, a3⟩
      have e : k = 0 := by omega
      subst e; exact a3
def FI (N : Nat) (nr : Nat → Int64) (i : Nat) (rl : Int32) (ro : Nat → Int32) : Prop := (rl = 0 ∧ ∀ q, q < i → ∀ s, s % 2 = 1 → s ≤ 80 → ¬ Wk N nr q s q) ∨ ∃ M p, rl = nI M ∧ ro 0 = nI p ∧ p < i ∧ M % 2 = 1 ∧ M ≤ 80 ∧ Wk N nr p M p ∧ (∀ q, q < i → ∀ s, s % 2 = 1 → s < M → ¬ Wk N nr q s q) ∧ (∀ q, q < p → ¬ Wk N nr q M q)
theorem s_find7 (hG : GR N nr) {K : (Int32 × (Nat → Int32) × (Nat → Int64)) → Prop} {k61 : Int32 → (Nat → Int32) → (Nat → Int64) → Prop} (hK : ∀ rl ro rc, FI N nr N rl ro → k61 rl ro rc) :
    ∀ (m i : Nat) (rl : Int32) (ro : Nat → Int32) (rc : Nat → Int64), i ≤ N → N - i < m → FI N nr i rl ro → lpX3_find_7 (nI N) nr K k61 m rl ro rc (nI i) := by
  have hN := hG.1
  intro m
  induction m with
  | zero => intro i rl ro rc _ h; omega
  | succ m ih =>
    intro i rl ro rc h1 h2 hI
    rw [lpX3_find_7.eq_2]
    refine ⟨fun h => ?_, fun h => ?_⟩
    · have e : i = N := by rw [nI_leI (by omega) (by omega)] at h; omega
      subst e; exact hK _ _ _ hI
    · have hi : i < N := by rw [nI_leI (by omega) (by omega)] at h; omega
      have keep : ∀ rc, FI N nr (i + 1) rl ro → bkX3_find_55 (nI N) nr K (fun rl ro rc v1 => lpX3_find_7 (nI N) nr K k61 m rl ro rc v1) rl ro rc (nI i) := by
        intro rc hF
        unfold bkX3_find_55
        rintro _ rfl
        rw [nI_1]
        exact ih (i + 1) rl ro rc (by omega) (by omega) hF
      refine s_oddWalk hG hi (fun s rc a1 a2 a3 a4 a5 => ?_) (fun rc a1 => ?_)
      · have take : ∀ rl, (∀ q, q < i → ∀ s', s' % 2 = 1 → s' ≤ s → ¬ Wk N nr q s' q) → bkX3_find_43 (nI N) nr K (fun rl ro rc v1 => lpX3_find_7 (nI N) nr K k61 m rl ro rc v1) rl ro rc (nI i) (nI s) := by
          intro rl hq
          unfold bkX3_find_43
          refine ⟨vp_in_nI (n := 0) (by omega) (by omega), ?_⟩
          rintro _ rfl
          unfold bkX3_find_55
          rintro _ rfl
          rw [nI_1]
          refine ih (i + 1) _ _ rc (by omega) (by omega) (Or.inr ⟨s, i, rfl, u_s, by omega, a1, a2, a3, fun q hq1 s' b1 b2 => ?_, fun q hq1 => hq q hq1 s a1 (Nat.le_refl _)⟩)
          by_cases e : q = i
          · subst e; exact a4 s' b2 b1
          · exact hq q (by omega) s' b1 (by omega)
        have hs0 : ¬ nI s = 0 := by
          intro e
          have := nI_inj (a := s) (b := 0) (by omega) (by omega) e
          omega
        refine ⟨fun e => absurd e hs0, fun _ => ⟨fun hr0 => ?_, fun hr0 => ⟨fun hle => ?_, fun hle => ?_⟩⟩⟩
        · rcases hI with ⟨_, b2⟩ | ⟨M, p, b1, b2, b3, b4, b5, b6, b7, b8⟩
          · exact take _ (fun q hq s' c1 c2 => b2 q hq s' c1 (by omega))
          · have := nI_inj (a := M) (b := 0) (by omega) (by omega) (b1.symm.trans hr0)
            omega
        · rcases hI with ⟨b1, _⟩ | ⟨M, p, b1, b2, b3, b4, b5, b6, b7, b8⟩
          · exact absurd b1 hr0
          · rw [b1, nI_leI (by omega) (by omega)] at hle
            refine keep rc (Or.inr ⟨M, p, b1, b2, by omega, b4, b5, b6, fun q hq s' c1 c2 => ?_, b8⟩)
            by_cases e : q = i
            · subst e; exact a4 s' (by omega) c1
            · exact b7 q (by omega) s' c1 c2
        · rcases hI with ⟨b1, _⟩ | ⟨M, p, b1, b2, b3, b4, b5, b6, b7, b8⟩
          · exact absurd b1 hr0
          · rw [b1, nI_leI (by omega) (by omega)] at hle
            exact take _ (fun q hq s' c1 c2 => b7 q hq s' c1 (by omega))
      · refine ⟨fun _ => keep rc ?_, fun h => absurd rfl h⟩
        rcases hI with ⟨b1, b2⟩ | ⟨M, p, b1, b2, b3, b4, b5, b6, b7, b8⟩
        · refine Or.inl ⟨b1, fun q hq s c1 c2 => ?_⟩
          by_cases e : q = i
          · subst e; exact a1 s c1 c2
          · exact b2 q (by omega) s c1 c2
        · refine Or.inr ⟨M, p, b1, b2, by omega, b4, b5, b6, fun q hq s c1 c2 => ?_, b8⟩
          by_cases e : q = i
          · subst e; exact a1 s c1 (by omega)
          · exact b7 q (by omega) s c1 c2
theorem s_leastOf {N : Nat} (hN : N ≤ 40) {v : Int64} {K : Int32 → Prop} (hex : ∃ j, j < N ∧ tb v j = true) (hK : ∀ j, j < N → tb v j = true → (∀ i, i < j → tb v i = false) → K (nI j)) : wX3_leastOf (nI N) v K := by
  obtain ⟨j0, hj0, hj1⟩ := hex
  have key : ∀ (m i : Nat), i < N → N - i < m → (∀ i', i' < i → tb v i' = false) → lpX3_leastOf_2 (nI N) K (fun v3 => K v3) m v (nI i) := by
    intro m
    induction m with
    | zero => intro i _ h; omega
    | succ m ih =>
      intro i h1 h2 hI
      have hi0 : i ≤ j0 := by
        rcases Nat.lt_or_ge j0 i with h | h
        · rw [hI j0 h] at hj1; exact absurd hj1 (by decide)
        · exact h
      rw [lpX3_leastOf_2.eq_2, sub1 (by omega), nI_leI (by omega) (by omega)]
      refine ⟨fun h => ?_, fun h => ?_⟩
      · have e : i = j0 := by omega
        subst e; exact hK i h1 hj1 hI
      · refine s_bit ?_
        rw [lg_0, and_b1 _ (by omega)]
        refine ⟨fun hz => hK i h1 (by simpa using hz) hI, fun hz => ?_⟩
        rintro _ rfl
        rw [nI_1]
        refine ih (i + 1) (by omega) (by omega) (fun i' hi' => ?_)
        by_cases e : i' = i
        · subst e; exact hz
        · exact hI i' (by omega)
  exact ⟨N + 1, key (N + 1) 0 (by omega) (by omega) (fun i' hi' => by omega)⟩
theorem ROW_ext {p M k : Nat} {r : Nat → Nat} {j : Nat} (h : ROW N nr p M r k) (hk : 1 ≤ k) (h1 : j < N) (h2 : tb (nr (r (k - 1))) j = true) (h3 : Wk N nr p (M - k) j) (h4 : ∀ i, i < j → ¬ (tb (nr (r (k - 1))) i = true ∧ Wk N nr p (M - k) i)) : ROW N nr p M (uN r k j) (k + 1) := by
  refine ⟨by rw [uN_n (by omega)]; exact h.1, fun i hi1 hi2 => ?_⟩
  unfold RC
  rw [uN_n (show i - 1 ≠ k by omega)]
  by_cases e : i = k
  · subst e
    rw [uN_s]
    exact ⟨h1, h2, h3, h4⟩
  · rw [uN_n e]
    exact h.2 i hi1 (by omega)
theorem s_fill13 (hG : GR N nr) {M p : Nat} (hM : MinO N nr M p) {rc : Nat → Int64} (hrc : ∀ k, k ≤ M → ∀ j, tb (rc k) j = true ↔ DW N nr p k j) {K : ((Nat → Int32) × (Nat → Int64)) → Prop} {k65 : (Nat → Int32) → (Nat → Int64) → Prop} (hK : ∀ ro r, ROW N nr p M r M → (∀ k, k < M → ro k = nI (r k)) → k65 ro rc) :
    ∀ (m k : Nat) (ro : Nat → Int32) (r : Nat → Nat), 1 ≤ k → k ≤ M → M - k < m → ROW N nr p M r k → (∀ i, i < k → ro i = nI (r i)) → lpX3_fillRow_13 (nI N) (nI M) nr K k65 m ro rc (nI k) := by
  have hN := hG.1
  have hMN := hM.2.2.2.1
  intro m
  induction m with
  | zero => intro k ro r _ _ h; omega
  | succ m ih =>
    intro k ro r h0 h1 h2 hR hro
    rw [lpX3_fillRow_13.eq_2, nI_leI (by omega) (by omega)]
    refine ⟨fun h => ?_, fun h => ?_⟩
    · have e : k = M := by omega
      subst e; exact hK ro r hR hro
    · have hkM : k < M := by omega
      obtain ⟨c1, c2⟩ := ROW_W hM.1 hR (k - 1) (by omega)
      rw [sub1 h0, nI_clamp (show k - 1 < 2 ^ 31 by omega), hro (k - 1) (by omega), nI_clamp (show r (k - 1) < 2 ^ 31 by omega), pk_sub (by omega), nI_clamp (show M - k < 2 ^ 31 by omega), nI_clamp (show k < 2 ^ 31 by omega)]
      refine ⟨vp_in_nI (by omega) (by omega), vp_in_nI (by omega) (by omega), vp_in_nI (by omega) (by omega), ?_⟩
      have hbit : ∀ j, tb (nr (r (k - 1)) &&& rc (M - k)) j = true ↔ tb (nr (r (k - 1))) j = true ∧ Wk N nr p (M - k) j := by
        intro j
        rw [tb_and, Bool.and_eq_true, hrc (M - k) (by omega) j]
        exact and_congr_right (fun h => ROW_D hG hM hR h0 hkM h)
      refine s_leastOf hN ?_ (fun j j1 j2 j3 => ⟨vp_in_nI (by omega) (by omega), ?_⟩)
      · obtain ⟨j, d1, d2, d3⟩ := ROW_nx hG hM hR h0 hkM
        exact ⟨j, d1, (hbit j).mpr ⟨d2, d3⟩⟩
      · rintro _ rfl _ rfl
        rw [nI_1]
        obtain ⟨e1, e2⟩ := (hbit j).mp j2
        refine ih (k + 1) _ (uN r k j) (by omega) (by omega) (by omega) (ROW_ext hR h0 j1 e1 e2 (fun i hi hb => ?_)) (fun i hi => ?_)
        · have := (hbit i).mpr hb
          rw [j3 i hi] at this
          exact absurd this (by decide)
        · by_cases e : i = k
          · subst e; rw [u_s, uN_s]
          · rw [u_n e, uN_n e]; exact hro i (by omega)
theorem s_ringfind (hG : GR N nr) {rl : Int32} {ro : Nat → Int32} {rc : Nat → Int64} {K : (Int32 × (Nat → Int32) × (Nat → Int64)) → Prop} (hK : ∀ rl ro rc, RG N nr rl ro → K (rl, ro, rc)) : wX3_find (nI N) nr rl ro rc K := by
  have hN := hG.1
  refine ⟨N + 1, s_find7 hG (fun rl ro rc hF => ?_) (N + 1) 0 _ _ _ (by omega) (by omega) (Or.inl ⟨rfl, fun q hq => by omega⟩)⟩
  rcases hF with ⟨rfl, a2⟩ | ⟨M, p, rfl, b2, b3, b4, b5, b6, b7, b8⟩
  · refine ⟨fun _ => hK _ _ _ (Or.inl ⟨rfl, mkNo hG (fun q hq s c1 _ c3 => a2 q hq s c1 (by omega))⟩), fun h => absurd rfl h⟩
  · have hM := mkMin hG b3 b4 b6 b7 b8
    have hMN := hM.2.2.2.1
    refine ⟨fun e => ?_, fun _ => ?_⟩
    · have := nI_inj (a := M) (b := 0) (by omega) (by omega) e
      omega
    · unfold wX3_fillRow
      refine ⟨vp_in_nI (n := 0) (by omega) (by omega), ?_⟩
      show wX3_oddWalkFrom (nI N) nr rc (ro 0) _
      rw [b2]
      refine s_oddWalk hG b3 (fun s rc a1 a2 a3 a4 a5 => ?_) (fun rc a1 => absurd b6 (a1 M b4 b5))
      have e : s = M := by
        rcases Nat.lt_trichotomy s M with h | h | h
        · exact absurd a3 (b7 p b3 s a1 h)
        · exact h
        · exact absurd b6 (a4 M h b4)
      subst e
      refine ⟨s + 1, s_fill13 hG hM a5 (fun ro r hR hro => hK _ _ _ (Or.inr ⟨s, p, r, rfl, hM, hR, hro⟩)) (s + 1) 1 ro (fun _ => p) (by omega) (by have := hM.2.2.1; omega) (by omega) ⟨rfl, fun k k1 k2 => by omega⟩ (fun i hi => ?_)⟩
      have : i = 0 := by omega
      subst this; exact b2
end RNG
