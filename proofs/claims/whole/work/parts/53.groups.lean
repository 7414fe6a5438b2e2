def NT (N : Nat) (nr : Nat → Int64) (v r : Int64) : Prop := ∀ j, tb r j = true ↔ ∃ x, x < N ∧ tb v x = true ∧ tb (nr x) j = true
theorem s_nearTo {N : Nat} (hN : N ≤ 40) {nr : Nat → Int64} {v : Int64} {K : Int64 → Prop} (hK : ∀ r, NT N nr v r → K r) : wX0_nearTo (nI N) nr v K := by
  have key : ∀ (m p : Nat) (a : Int64), p ≤ N → N - p < m → (∀ j, tb a j = true ↔ ∃ x, x < p ∧ tb v x = true ∧ tb (nr x) j = true) → lpX0_nearTo_5 (nI N) nr K (fun v3 => K v3) m v a (nI p) := by
    intro m
    induction m with
    | zero => intro p a _ h; omega
    | succ m ih =>
      intro p a h1 h2 hI
      rw [lpX0_nearTo_5.eq_2]
      refine ⟨fun h => ?_, fun h => ?_⟩
      · have e : p = N := by rw [nI_leI (by omega) (by omega)] at h; omega
        subst e; exact hK a hI
      · have hp : p < N := by rw [nI_leI (by omega) (by omega)] at h; omega
        refine s_bit ?_
        rw [lg_0, and_b1 _ (by omega)]
        refine ⟨fun hz => ?_, fun hz => ⟨vp_in_nI (by omega) (by omega), ?_⟩⟩
        · unfold bkX0_nearTo_36
          rintro _ rfl
          rw [nI_1]
          refine ih (p + 1) a (by omega) (by omega) (fun j => (hI j).trans ⟨?_, ?_⟩)
          · rintro ⟨x, a1, a2⟩; exact ⟨x, by omega, a2⟩
          · rintro ⟨x, a1, a2, a3⟩
            have : x ≠ p := fun e => by subst e; rw [hz] at a2; exact absurd a2 (by decide)
            exact ⟨x, by omega, a2, a3⟩
        · have hz1 : tb v p = true := by simpa using hz
          rintro _ rfl
          unfold bkX0_nearTo_36
          rintro _ rfl
          rw [nI_1, nI_clamp (by omega)]
          refine ih (p + 1) _ (by omega) (by omega) (fun j => ?_)
          rw [tb_or, Bool.or_eq_true, hI j]
          constructor
          · rintro (⟨x, a1, a2⟩ | h)
            · exact ⟨x, by omega, a2⟩
            · exact ⟨p, by omega, hz1, h⟩
          · rintro ⟨x, a1, a2, a3⟩
            by_cases e : x = p
            · subst e; exact Or.inr a3
            · exact Or.inl ⟨x, by omega, a2, a3⟩
  exact ⟨N + 1, key (N + 1) 0 0 (by omega) (by omega) (fun j => ⟨fun h => by rw [tb_0] at h; exact absurd h (by decide), fun ⟨x, a, _⟩ => by omega⟩)⟩
theorem s_around {N : Nat} (hN : N ≤ 40) {nm nr : Nat → Int64} (hnm : ∀ p, p < N → nm p = nr p) {v : Int64} {K : Int64 → Prop} (hK : ∀ r, NT N nr v r → K r) : wX5_around (nI N) nm v K := by
  have key : ∀ (m p : Nat) (a : Int64), p ≤ N → N - p < m → (∀ j, tb a j = true ↔ ∃ x, x < p ∧ tb v x = true ∧ tb (nr x) j = true) → lpX5_around_5 (nI N) nm K (fun v3 => K v3) m v a (nI p) := by
    intro m
    induction m with
    | zero => intro p a _ h; omega
    | succ m ih =>
      intro p a h1 h2 hI
      rw [lpX5_around_5.eq_2]
      refine ⟨fun h => ?_, fun h => ?_⟩
      · have e : p = N := by rw [nI_leI (by omega) (by omega)] at h; omega
        subst e; exact hK a hI
      · have hp : p < N := by rw [nI_leI (by omega) (by omega)] at h; omega
        rw [lg_0, shr_1 _ (by omega)]
        refine ⟨fun hz => ?_, fun hz => ⟨vp_in_nI (by omega) (by omega), ?_⟩⟩
        · have hz0 : tb v p = false := by simpa using hz
          unfold bkX5_around_37
          rintro _ rfl _ rfl
          rw [nI_1]
          refine ih (p + 1) _ (by omega) (by omega) (fun j => ?_)
          rw [tb_or, tb_0, Bool.or_false, hI j]
          constructor
          · rintro ⟨x, a1, a2⟩; exact ⟨x, by omega, a2⟩
          · rintro ⟨x, a1, a2, a3⟩
            have : x ≠ p := fun e => by subst e; rw [hz0] at a2; exact absurd a2 (by decide)
            exact ⟨x, by omega, a2, a3⟩
        · unfold bkX5_around_37
          rintro _ rfl _ rfl
          rw [nI_1, nI_clamp (by omega), hnm p hp]
          refine ih (p + 1) _ (by omega) (by omega) (fun j => ?_)
          rw [tb_or, Bool.or_eq_true, hI j]
          constructor
          · rintro (⟨x, a1, a2⟩ | h)
            · exact ⟨x, by omega, a2⟩
            · exact ⟨p, by omega, hz, h⟩
          · rintro ⟨x, a1, a2, a3⟩
            by_cases e : x = p
            · subst e; exact Or.inr a3
            · exact Or.inl ⟨x, by omega, a2, a3⟩
  exact ⟨N + 1, key (N + 1) 0 0 (by omega) (by omega) (fun j => ⟨fun h => by rw [tb_0] at h; exact absurd h (by decide), fun ⟨x, a, _⟩ => by omega⟩)⟩
theorem and_bb (x : Int64) {i j : Nat} (hi : i < 64) (hj : j < 64) : (x &&& (b1 i ||| b1 j)) = 0 ↔ tb x i = false ∧ tb x j = false := by
  constructor
  · intro h
    have h1 : tb (x &&& (b1 i ||| b1 j)) i = false := by rw [h, tb_0]
    have h2 : tb (x &&& (b1 i ||| b1 j)) j = false := by rw [h, tb_0]
    rw [tb_and, tb_or, tb_b1 hi, tb_b1 hj] at h1 h2
    simp at h1 h2
    exact ⟨h1, h2⟩
  · rintro ⟨h1, h2⟩
    apply tb_ext
    intro k _
    rw [tb_and, tb_or, tb_b1 hi, tb_b1 hj, tb_0]
    by_cases e1 : k = i
    · subst e1; rw [h1]; rfl
    · by_cases e2 : k = j
      · subst e2; rw [h2]; rfl
      · simp [e1, e2]
def ST (N : Nat) (g : Nat → Bool) (v r : Int64) : Prop := ∀ j, tb r j = true ↔ ∃ x, 1 ≤ x ∧ x < N ∧ g x = true ∧ (tb v (x - 1) = true ∨ tb v x = true) ∧ (j = x - 1 ∨ j = x)
theorem s_stitchedTo {N : Nat} (hN : N ≤ 40) {sl : Nat → Int32} {g : Nat → Bool} (hs : ∀ p, p < N → sl p = z1 (g p)) {v : Int64} {K : Int64 → Prop} (hK : ∀ r, ST N g v r → K r) : wX0_stitchedTo (nI N) sl v K := by
  have key : ∀ (m p : Nat) (a : Int64), 1 ≤ p → N ≤ p ∨ N - p < m → 0 < m → (∀ j, tb a j = true ↔ ∃ x, 1 ≤ x ∧ x < p ∧ x < N ∧ g x = true ∧ (tb v (x - 1) = true ∨ tb v x = true) ∧ (j = x - 1 ∨ j = x)) → p ≤ N ∨ p = 1 → lpX0_stitchedTo_5 (nI N) sl K (fun v3 => K v3) m v a (nI p) := by
    intro m
    induction m with
    | zero => intro p a _ _ h; omega
    | succ m ih =>
      intro p a h0 h1 _ hI hpN
      rw [lpX0_stitchedTo_5.eq_2]
      refine ⟨fun h => ?_, fun h => ?_⟩
      · have e : N ≤ p := by rw [nI_leI (by omega) (by omega)] at h; omega
        refine hK a (fun j => (hI j).trans ⟨?_, ?_⟩)
        · rintro ⟨x, a1, a2, a3, a4⟩; exact ⟨x, a1, a3, a4⟩
        · rintro ⟨x, a1, a3, a4⟩; exact ⟨x, a1, by omega, a3, a4⟩
      · have hp : p < N := by rw [nI_leI (by omega) (by omega)] at h; omega
        rw [sub1 h0]
        refine s_bit (s_bit ?_)
        rintro _ rfl
        refine ⟨vp_in_nI (by omega) (by omega), ?_⟩
        rw [nI_clamp (by omega), hs p hp, lg_0, and_bb _ (by omega) (by omega)]
        have no : ∀ (hno : ¬ (g p = true ∧ (tb v (p - 1) = true ∨ tb v p = true))), bkX0_stitchedTo_53 (nI N) sl K (fun v1 v3 v5 => lpX0_stitchedTo_5 (nI N) sl K (fun v3 => K v3) m v1 v3 v5) v a (nI p) := by
          intro hno
          unfold bkX0_stitchedTo_53
          rintro _ rfl
          rw [nI_1]
          refine ih (p + 1) a (by omega) (by omega) (by omega) (fun j => (hI j).trans ⟨?_, ?_⟩) (by omega)
          · rintro ⟨x, a1, a2, a3⟩; exact ⟨x, a1, by omega, a3⟩
          · rintro ⟨x, a1, a2, a3, a4, a5, a6⟩
            have : x ≠ p := fun e => by subst e; exact hno ⟨a4, a5⟩
            exact ⟨x, a1, by omega, a3, a4, a5, a6⟩
        refine br_z (fun hz => no (fun h => by rw [hz] at h; exact absurd h.1 (by decide))) (fun hz => ⟨fun hw => no (fun h => ?_), fun hw => ?_⟩)
        · rw [hw.1, hw.2] at h; exact absurd h.2 (by simp)
        · have hw2 : tb v (p - 1) = true ∨ tb v p = true := by
            cases e1 : tb v (p - 1)
            · cases e2 : tb v p
              · exact absurd ⟨e1, e2⟩ hw
              · exact Or.inr rfl
            · exact Or.inl rfl
          rintro _ rfl
          unfold bkX0_stitchedTo_53
          rintro _ rfl
          rw [nI_1]
          refine ih (p + 1) _ (by omega) (by omega) (by omega) (fun j => ?_) (by omega)
          rw [tb_or, tb_or, tb_b1 (by omega), tb_b1 (by omega), Bool.or_eq_true, Bool.or_eq_true, hI j, decide_eq_true_eq, decide_eq_true_eq]
          constructor
          · rintro (⟨x, a1, a2, a3⟩ | h)
            · exact ⟨x, a1, by omega, a3⟩
            · exact ⟨p, h0, by omega, hp, hz, hw2, h⟩
          · rintro ⟨x, a1, a2, a3, a4, a5, a6⟩
            by_cases e : x = p
            · subst e; exact Or.inr a6
            · exact Or.inl ⟨x, a1, by omega, a3, a4, a5, a6⟩
  exact ⟨N + 1, key (N + 1) 1 0 (by omega) (by omega) (by omega) (fun j => ⟨fun h => by rw [tb_0] at h; exact absurd h (by decide), fun ⟨x, a, b, _⟩ => by omega⟩) (by omega)⟩
def AD (N : Nat) (nr : Nat → Int64) (g : Nat → Bool) (x y : Nat) : Prop := x < N ∧ y < N ∧ (tb (nr x) y = true ∨ (y = x + 1 ∧ g y = true) ∨ (x = y + 1 ∧ g x = true))
def CC (N : Nat) (nr : Nat → Int64) (g : Nat → Bool) (p j : Nat) : Prop := ∀ S : Nat → Prop, S p → (∀ x y, S x → AD N nr g x y → S y) → S j
theorem CC_s {N : Nat} {nr : Nat → Int64} {g : Nat → Bool} {p x y : Nat} (h : CC N nr g p x) (ha : AD N nr g x y) : CC N nr g p y := fun S h1 h2 => h2 x y (h S h1 h2) ha
theorem CC_lt {N : Nat} {nr : Nat → Int64} {g : Nat → Bool} {p j : Nat} (hp : p < N) (h : CC N nr g p j) : j < N := h (fun j => j < N) hp (fun _ _ _ ha => ha.2.1)
theorem cntB_lt {f f' : Nat → Bool} {y : Nat} (hy : f y = false) (hy2 : f' y = true) : ∀ {N : Nat}, y < N → (∀ j, f j = true → f' j = true) → cntB f N + 1 ≤ cntB f' N
  | 0, h, _ => by omega
  | N + 1, h, hm => by
    rw [cntB_s, cntB_s]
    by_cases e : y = N
    · subst e
      rw [hy, hy2]
      have : ∀ M, cntB f M ≤ cntB f' M := by
        intro M
        induction M with
        | zero => exact Nat.le_refl 0
        | succ M ih =>
          rw [cntB_s, cntB_s]
          cases e1 : f M
          · simp; omega
          · rw [hm M e1]; simp; omega
      have := this y
      simp; omega
    · have := cntB_lt hy hy2 (N := N) (by omega) hm
      cases e1 : f N
      · simp; omega
      · rw [hm N e1]; simp; omega
section GRP
variable {N : Nat} {nr : Nat → Int64} {g : Nat → Bool} {p : Nat}
def GI (N : Nat) (nr : Nat → Int64) (g : Nat → Bool) (p t : Nat) (G : Int64) : Prop := tb G p = true ∧ (∀ j, tb G j = true → CC N nr g p j) ∧ ((∀ j, CC N nr g p j → tb G j = true) ∨ t + 1 ≤ cntB (tb G) N)
theorem GI_step {t : Nat} {G G' : Int64} (h : GI N nr g p t G) (h1 : ∀ j, tb G j = true → tb G' j = true) (h2 : ∀ x y, tb G x = true → AD N nr g x y → tb G' y = true) (h3 : ∀ j, tb G' j = true → CC N nr g p j) : GI N nr g p (t + 1) G' ∧ (G = G' → ∀ j, CC N nr g p j → tb G' j = true) := by
  obtain ⟨a1, a2, a3⟩ := h
  have hst : G = G' → ∀ j, CC N nr g p j → tb G' j = true := by
    rintro rfl j hj
    exact hj (fun j => tb G j = true) a1 h2
  refine ⟨⟨h1 p a1, h3, ?_⟩, hst⟩
  rcases a3 with a3 | a3
  · exact Or.inl (fun j hj => h1 j (a3 j hj))
  · by_cases hc : ∀ x y, tb G x = true → AD N nr g x y → tb G y = true
    · exact Or.inl (fun j hj => h1 j (hj (fun j => tb G j = true) a1 hc))
    · right
      have : ∃ x y, tb G x = true ∧ AD N nr g x y ∧ tb G y = false := by
        apply Classical.byContradiction
        intro hn
        apply hc
        intro x y hx ha
        cases e : tb G y
        · exact absurd ⟨x, y, hx, ha, e⟩ hn
        · rfl
      obtain ⟨x, y, hx, ha, hy⟩ := this
      have := cntB_lt hy (h2 x y hx ha) ha.2.1 h1
      omega
theorem GI_0 (hN : N ≤ 40) (hp : p < N) : GI N nr g p 0 (b1 p) := by
  have hb : ∀ j, tb (b1 p) j = decide (j = p) := fun j => tb_b1 (by omega) j
  refine ⟨by rw [hb]; simp, fun j hj => ?_, Or.inr ?_⟩
  · rw [hb] at hj
    have : j = p := by simpa using hj
    subst this
    exact fun S h1 _ => h1
  · have := cntB_lt (f := fun _ => false) (f' := tb (b1 p)) (y := p) rfl (by rw [hb]; simp) hp (fun j h => absurd h (by decide))
    omega
theorem GI_end {G : Int64} (h : GI N nr g p N G) : ∀ j, tb G j = true ↔ CC N nr g p j := by
  obtain ⟨a1, a2, a3⟩ := h
  rcases a3 with a3 | a3
  · exact fun j => ⟨a2 j, a3 j⟩
  · have := cntB_le (tb G) N; omega
theorem s_groupOf {sl : Nat → Int32} (hG : GR N nr) (hs : ∀ p, p < N → sl p = z1 (g p)) (hp : p < N) {K : Int64 → Prop} (hK : ∀ r, (∀ j, tb r j = true ↔ CC N nr g p j) → K r) : wX0_groupOf (nI N) nr sl (nI p) K := by
  have hN := hG.1
  have key : ∀ (m t : Nat) (G B : Int64), t ≤ N → N - t < m → GI N nr g p t G → (G = B → ∀ j, CC N nr g p j → tb G j = true) → lpX0_groupOf_11 (nI N) nr sl K (fun v2 => K v2) m G B (nI t) := by
    intro m
    induction m with
    | zero => intro t G B _ h; omega
    | succ m ih =>
      intro t G B h1 h2 hI hB
      rw [lpX0_groupOf_11.eq_2]
      refine ⟨fun h => ?_, fun h => ?_⟩
      · have e : t = N := by rw [nI_leI (by omega) (by omega)] at h; omega
        subst e; exact hK G (GI_end hI)
      · have ht : t < N := by rw [nI_leI (by omega) (by omega)] at h; omega
        rw [lg_0]
        refine ⟨fun e => hK G (fun j => ⟨hI.2.1 j, hB e j⟩), fun _ => ?_⟩
        refine s_nearTo hN (fun r hr => s_stitchedTo hN hs (fun r' hr' => ?_))
        rintro _ rfl _ rfl
        rw [nI_1]
        have hst := GI_step (G' := G ||| (r ||| r')) hI (fun j hj => by rw [tb_or, hj]; rfl) (fun x y hx ha => ?_) (fun j hj => ?_)
        · exact ih (t + 1) _ G (by omega) (by omega) hst.1 (fun e => hst.2 e.symm)
        · rw [tb_or, tb_or, Bool.or_eq_true, Bool.or_eq_true]
          obtain ⟨b1, b2, b3 | ⟨b3, b4⟩ | ⟨b3, b4⟩⟩ := ha
          · exact Or.inr (Or.inl ((hr y).mpr ⟨x, b1, hx, b3⟩))
          · refine Or.inr (Or.inr ((hr' y).mpr ⟨y, by omega, b2, b4, Or.inl ?_, Or.inr rfl⟩))
            rw [b3, Nat.add_sub_cancel]; exact hx
          · refine Or.inr (Or.inr ((hr' y).mpr ⟨x, by omega, b1, b4, Or.inr hx, Or.inl (by omega)⟩))
        · rw [tb_or, tb_or, Bool.or_eq_true, Bool.or_eq_true] at hj
          rcases hj with hj | hj | hj
          · exact hI.2.1 j hj
          · obtain ⟨x, c1, c2, c3⟩ := (hr j).mp hj
            exact CC_s (hI.2.1 x c2) ⟨c1, (hG.2 x c1 j c3).1, Or.inl c3⟩
          · obtain ⟨x, c1, c2, c3, c4, c5⟩ := (hr' j).mp hj
            have up : AD N nr g (x - 1) x := ⟨by omega, c2, Or.inr (Or.inl ⟨by omega, c3⟩)⟩
            have dn : AD N nr g x (x - 1) := ⟨c2, by omega, Or.inr (Or.inr ⟨by omega, c3⟩)⟩
            rcases c4 with c4 | c4
            · rcases c5 with rfl | rfl
              · exact hI.2.1 _ c4
              · exact CC_s (hI.2.1 _ c4) up
            · rcases c5 with rfl | rfl
              · exact CC_s (hI.2.1 _ c4) dn
              · exact hI.2.1 _ c4
  unfold wX0_groupOf
  refine s_bit ⟨N + 1, key (N + 1) 0 (b1 p) 0 (by omega) (by omega) (GI_0 hN hp) (fun e => ?_)⟩
  have h1 : tb (b1 p) p = true := by rw [tb_b1 (by omega)]; simp
  rw [e, tb_0] at h1
  exact absurd h1 (by decide)
theorem three : ∀ k, k < 63 → (3 : Int64) <<< ((nI k).toInt64 &&& 63) = b1 k ||| b1 (k + 1) := by decide +kernel
theorem s_g27 {st : Nat → Int32} {nm : Nat → Int64} (hG : GR N nr) (hs : ∀ p, p < N → st p = z1 (g p)) {t : Int32} {G : Int64} {K : Int64 → Prop} {k103 : Int64 → Int32 → Prop}
    (hK : ∀ G', (∀ j, tb G j = true → tb G' j = true) → (∀ x, 1 ≤ x → x < N → g x = true → (tb G (x - 1) = true ∨ tb G x = true) → tb G' (x - 1) = true ∧ tb G' x = true) → (∀ S : Nat → Prop, (∀ j, tb G j = true → S j) → (∀ x y, S x → AD N nr g x y → S y) → ∀ j, tb G' j = true → S j) → k103 G' t) :
    ∀ (m q : Nat) (A : Int64), 1 ≤ q → N ≤ q ∨ N - q < m → 0 < m → q ≤ N ∨ q = 1 → (∀ j, tb G j = true → tb A j = true) → (∀ x, 1 ≤ x → x < q → x < N → g x = true → (tb G (x - 1) = true ∨ tb G x = true) → tb A (x - 1) = true ∧ tb A x = true) → (∀ S : Nat → Prop, (∀ j, tb G j = true → S j) → (∀ x y, S x → AD N nr g x y → S y) → ∀ j, tb A j = true → S j) →
    lpX5_groupOf_27 (nI N) st nm K k103 m A t (nI q) := by
  have hN := hG.1
  intro m
  induction m with
  | zero => intro q A _ _ h; omega
  | succ m ih =>
    intro q A h0 h1 _ hqN hm ha hs2
    rw [lpX5_groupOf_27.eq_2]
    refine ⟨fun h => ?_, fun h => ?_⟩
    · have e : N ≤ q := by rw [nI_leI (by omega) (by omega)] at h; omega
      exact hK A hm (fun x a1 a2 a3 a4 => ha x a1 (by omega) a2 a3 a4) hs2
    · have hq : q < N := by rw [nI_leI (by omega) (by omega)] at h; omega
      rw [sub1 h0, lg_0, shr_1 _ (by omega), lg_0, shr_1 _ (by omega)]
      have nxt : ∀ (hno : ¬ (g q = true ∧ (tb A (q - 1) = true ∨ tb A q = true))), bkX5_groupOf_94 (nI N) st nm K (fun v2 v4 v5 => lpX5_groupOf_27 (nI N) st nm K k103 m v2 v4 v5) t (nI q) A := by
        intro hno
        unfold bkX5_groupOf_94 bkX5_groupOf_95
        rintro _ rfl _ rfl
        rw [nI_1, show A ||| 0 = A from tb_ext (fun j _ => by rw [tb_or, tb_0, Bool.or_false])]
        refine ih (q + 1) A (by omega) (by omega) (by omega) (by omega) hm (fun x a1 a2 a3 a4 a5 => ?_) hs2
        by_cases e : x = q
        · subst e
          exact absurd ⟨a4, a5.elim (fun h => Or.inl (hm _ h)) (fun h => Or.inr (hm _ h))⟩ hno
        · exact ha x a1 (by omega) a3 a4 a5
      have hit : (tb A (q - 1) = true ∨ tb A q = true) → bkX5_groupOf_65 (nI N) st nm K (fun v2 v4 v5 => lpX5_groupOf_27 (nI N) st nm K k103 m v2 v4 v5) A t (nI q) 1 := by
        intro hb
        unfold bkX5_groupOf_65
        refine ⟨vp_in_nI (by omega) (by omega), ?_⟩
        rw [nI_clamp (by omega), hs q hq]
        refine br_z (fun hz => nxt (fun h => by rw [hz] at h; exact absurd h.1 (by decide))) (fun hz => ⟨fun h => absurd h (by decide), fun _ => ?_⟩)
        unfold bkX5_groupOf_95
        rintro _ rfl _ rfl
        rw [nI_1, sub1 h0, three _ (by omega), Nat.sub_add_cancel h0]
        have hA' : ∀ j, tb (A ||| (b1 (q - 1) ||| b1 q)) j = true ↔ tb A j = true ∨ j = q - 1 ∨ j = q := by
          intro j
          rw [tb_or, tb_or, tb_b1 (by omega), tb_b1 (by omega), Bool.or_eq_true, Bool.or_eq_true, decide_eq_true_eq, decide_eq_true_eq]
        refine ih (q + 1) _ (by omega) (by omega) (by omega) (by omega) (fun j hj => (hA' j).mpr (Or.inl (hm j hj))) (fun x a1 a2 a3 a4 a5 => ?_) (fun S s1 s2 j hj => ?_)
        · by_cases e : x = q
          · subst e
            exact ⟨(hA' _).mpr (Or.inr (Or.inl rfl)), (hA' _).mpr (Or.inr (Or.inr rfl))⟩
          · have := ha x a1 (by omega) a3 a4 a5
            exact ⟨(hA' _).mpr (Or.inl this.1), (hA' _).mpr (Or.inl this.2)⟩
        · have up : AD N nr g (q - 1) q := ⟨by omega, hq, Or.inr (Or.inl ⟨by omega, hz⟩)⟩
          have dn : AD N nr g q (q - 1) := ⟨hq, by omega, Or.inr (Or.inr ⟨by omega, hz⟩)⟩
          rcases (hA' j).mp hj with h | rfl | rfl
          · exact hs2 S s1 s2 j h
          · rcases hb with h | h
            · exact hs2 S s1 s2 _ h
            · exact s2 _ _ (hs2 S s1 s2 _ h) dn
          · rcases hb with h | h
            · exact s2 _ _ (hs2 S s1 s2 _ h) up
            · exact hs2 S s1 s2 _ h
      refine ⟨fun hz => ?_, fun hz => ⟨fun hw => ?_, fun hw => ?_⟩⟩
      · unfold bkX5_groupOf_60
        exact hit (Or.inr hz)
      · unfold bkX5_groupOf_65
        have hn2 : ¬ (g q = true ∧ (tb A (q - 1) = true ∨ tb A q = true)) := fun h => h.2.elim hw hz
        refine ⟨vp_in_nI (by omega) (by omega), fun _ => nxt hn2, fun _ => ⟨fun _ => nxt hn2, fun h => absurd rfl h⟩⟩
      · unfold bkX5_groupOf_60
        exact hit (Or.inl hw)
theorem s_groupOf5 {st : Nat → Int32} {nm : Nat → Int64} (hG : GR N nr) (hnm : ∀ p, p < N → nm p = nr p) (hs : ∀ p, p < N → st p = z1 (g p)) (hp : p < N) {K : Int64 → Prop} (hK : ∀ r, (∀ j, tb r j = true ↔ CC N nr g p j) → K r) : wX5_groupOf (nI N) st nm (nI p) K := by
  have hN := hG.1
  have key : ∀ (m t : Nat) (G : Int64), t ≤ N → N - t < m → GI N nr g p t G → lpX5_groupOf_7 (nI N) st nm K (fun v2 => K v2) m G (nI t) := by
    intro m
    induction m with
    | zero => intro t G _ h; omega
    | succ m ih =>
      intro t G h1 h2 hI
      rw [lpX5_groupOf_7.eq_2]
      refine ⟨fun h => ?_, fun h => ?_⟩
      · have e : t = N := by rw [nI_leI (by omega) (by omega)] at h; omega
        subst e; exact hK G (GI_end hI)
      · have ht : t < N := by rw [nI_leI (by omega) (by omega)] at h; omega
        refine s_around hN hnm (fun r hr => ?_)
        rintro _ rfl
        have hsound : ∀ j, tb (G ||| r) j = true → CC N nr g p j := by
          intro j hj
          rw [tb_or, Bool.or_eq_true] at hj
          rcases hj with hj | hj
          · exact hI.2.1 j hj
          · obtain ⟨x, c1, c2, c3⟩ := (hr j).mp hj
            exact CC_s (hI.2.1 x c2) ⟨c1, (hG.2 x c1 j c3).1, Or.inl c3⟩
        refine ⟨N + 1, s_g27 (G := G ||| r) hG hs (fun G' g1 g2 g3 => ?_) (N + 1) 1 _ (by omega) (by omega) (by omega) (by omega) (fun j hj => hj) (fun x a1 a2 => by omega) (fun S s1 s2 j hj => s1 j hj)⟩
        rintro _ rfl
        rw [nI_1]
        refine ih (t + 1) G' (by omega) (by omega) (GI_step hI (fun j hj => g1 j (by rw [tb_or, hj]; rfl)) (fun x y hx ha => ?_) (fun j hj => g3 (fun j => CC N nr g p j) hsound (fun x y hx ha => CC_s hx ha) j hj)).1
        have hx2 : tb (G ||| r) x = true := by rw [tb_or, hx]; rfl
        obtain ⟨b1, b2, b3 | ⟨b3, b4⟩ | ⟨b3, b4⟩⟩ := ha
        · exact g1 y (by rw [tb_or, (hr y).mpr ⟨x, b1, hx, b3⟩, Bool.or_true])
        · exact (g2 y (by omega) b2 b4 (Or.inl (by rw [b3, Nat.add_sub_cancel]; exact hx2))).2
        · have := (g2 x (by omega) b1 b4 (Or.inr hx2)).1
          rw [b3, Nat.add_sub_cancel] at this
          exact this
  unfold wX5_groupOf
  rintro _ rfl
  exact ⟨N + 1, key (N + 1) 0 (b1 p) (by omega) (by omega) (GI_0 hN hp)⟩
end GRP
def GS (N : Nat) (nr : Nat → Int64) (g : Nat → Bool) : Nat → Nat → Int64 → Prop
  | 0, k, v => k = 0 ∧ v = 0
  | p + 1, k, v => ∃ k' v', GS N nr g p k' v' ∧ ((tb v' p = true ∧ k = k' ∧ v = v') ∨ (tb v' p = false ∧ k = k' + 1 ∧ ∃ r, (∀ j, tb r j = true ↔ CC N nr g p j) ∧ v = v' ||| r))
theorem GS_uniq {N : Nat} {nr : Nat → Int64} {g : Nat → Bool} : ∀ {p k v k' v'}, GS N nr g p k v → GS N nr g p k' v' → k = k' ∧ v = v'
  | 0, _, _, _, _, h, h' => ⟨h.1.trans h'.1.symm, h.2.trans h'.2.symm⟩
  | p + 1, _, _, _, _, ⟨k1, v1, h1, h2⟩, ⟨k1', v1', h1', h2'⟩ => by
    obtain ⟨rfl, rfl⟩ := GS_uniq h1 h1'
    rcases h2 with ⟨a1, a2, a3⟩ | ⟨a1, a2, r, a3, a4⟩
    · rcases h2' with ⟨b1, b2, b3⟩ | ⟨b1, b2, r', b3, b4⟩
      · exact ⟨a2.trans b2.symm, a3.trans b3.symm⟩
      · rw [a1] at b1; exact absurd b1 (by decide)
    · rcases h2' with ⟨b1, b2, b3⟩ | ⟨b1, b2, r', b3, b4⟩
      · rw [a1] at b1; exact absurd b1 (by decide)
      · refine ⟨a2.trans b2.symm, ?_⟩
        have : r = r' := tb_ext (fun j _ => by
          have := (a3 j).trans (b3 j).symm
          cases e1 : tb r j <;> cases e2 : tb r' j <;> simp_all)
        rw [a4, b4, this]
theorem GS_le {N : Nat} {nr : Nat → Int64} {g : Nat → Bool} : ∀ {p k v}, GS N nr g p k v → k ≤ p
  | 0, _, _, h => by rw [h.1]; exact Nat.le_refl 0
  | p + 1, _, _, ⟨k1, v1, h1, h2⟩ => by
    have := GS_le h1
    rcases h2 with ⟨_, h, _⟩ | ⟨_, h, _⟩ <;> omega
theorem s_countGroups {N : Nat} {nr : Nat → Int64} {g : Nat → Bool} {sl : Nat → Int32} (hG : GR N nr) (hs : ∀ p, p < N → sl p = z1 (g p)) {K : Int32 → Prop} (hK : ∀ k v, GS N nr g N k v → K (nI k)) : wX0_countGroups (nI N) nr sl K := by
  have hN := hG.1
  have key : ∀ (m p k : Nat) (v : Int64), p ≤ N → N - p < m → GS N nr g p k v → lpX0_countGroups_7 (nI N) nr sl K (fun v1 => K v1) m (nI k) v (nI p) := by
    intro m
    induction m with
    | zero => intro p k v _ h; omega
    | succ m ih =>
      intro p k v h1 h2 hI
      rw [lpX0_countGroups_7.eq_2]
      refine ⟨fun h => ?_, fun h => ?_⟩
      · have e : p = N := by rw [nI_leI (by omega) (by omega)] at h; omega
        subst e; exact hK k v hI
      · have hp : p < N := by rw [nI_leI (by omega) (by omega)] at h; omega
        refine s_bit ?_
        rw [lg_0, and_b1 _ (by omega)]
        refine ⟨fun hz => ?_, fun hz => ?_⟩
        · unfold bkX0_countGroups_40
          rintro _ rfl
          rw [nI_1]
          exact ih (p + 1) k v (by omega) (by omega) ⟨k, v, hI, Or.inl ⟨by simpa using hz, rfl, rfl⟩⟩
        · refine s_groupOf hG hs hp (fun r hr => ?_)
          rintro _ rfl _ rfl
          unfold bkX0_countGroups_40
          rintro _ rfl
          rw [nI_1, nI_1]
          exact ih (p + 1) (k + 1) _ (by omega) (by omega) ⟨k, v, hI, Or.inr ⟨hz, rfl, r, hr, rfl⟩⟩
  exact ⟨N + 1, key (N + 1) 0 0 0 (by omega) (by omega) ⟨rfl, rfl⟩⟩
theorem s_groups16 {N : Nat} {nr nm : Nat → Int64} {g : Nat → Bool} {st : Nat → Int32} (hG : GR N nr) (hnm : ∀ p, p < N → nm p = nr p) (hs : ∀ p, p < N → st p = z1 (g p)) {kd kn kc : Int32} {cn xs ys x2 y2 my po so : Nat → Int32}
    {K : Int32 → (Int32 × Int32 × (Nat → Int32) × (Nat → Int32) × (Nat → Int32) × (Nat → Int64)) → Prop} {k54 : Int32 → Int32 → (Nat → Int32) → (Nat → Int32) → (Nat → Int32) → (Nat → Int64) → Int32 → Prop} (hK : ∀ k v, GS N nr g N k v → k54 kc (nI N) po so st nm (nI k)) :
    ∃ z, lpX5_groups_16 kd kn cn xs ys x2 y2 my K k54 z kc (nI N) po so st nm 0 0 0 := by
  have hN := hG.1
  have key : ∀ (m p k : Nat) (v : Int64), p ≤ N → N - p < m → GS N nr g p k v → lpX5_groups_16 kd kn cn xs ys x2 y2 my K k54 m kc (nI N) po so st nm v (nI k) (nI p) := by
    intro m
    induction m with
    | zero => intro p k v _ h; omega
    | succ m ih =>
      intro p k v h1 h2 hI
      rw [lpX5_groups_16.eq_2]
      refine ⟨fun h => ?_, fun h => ?_⟩
      · have e : p = N := by rw [nI_leI (by omega) (by omega)] at h; omega
        subst e; exact hK k v hI
      · have hp : p < N := by rw [nI_leI (by omega) (by omega)] at h; omega
        rw [lg_0, shr_0 _ (by omega)]
        refine ⟨fun hz => ?_, fun hz => ?_⟩
        · unfold bkX5_groups_48
          rintro _ rfl
          rw [nI_1]
          exact ih (p + 1) k v (by omega) (by omega) ⟨k, v, hI, Or.inl ⟨by simpa using hz, rfl, rfl⟩⟩
        · rintro _ rfl
          refine s_groupOf5 hG hnm hs hp (fun r hr => ?_)
          rintro _ rfl
          unfold bkX5_groups_48
          rintro _ rfl
          rw [nI_1, nI_1]
          exact ih (p + 1) (k + 1) _ (by omega) (by omega) ⟨k, v, hI, Or.inr ⟨hz, rfl, r, hr, rfl⟩⟩
  exact ⟨N + 1, key (N + 1) 0 0 0 (by omega) (by omega) ⟨rfl, rfl⟩⟩
