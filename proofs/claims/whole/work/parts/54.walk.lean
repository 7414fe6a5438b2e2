def Wk (N : Nat) (nr : Nat → Int64) (p : Nat) : Nat → Nat → Prop
  | 0, j => j = p
  | k + 1, j => ∃ x, x < N ∧ Wk N nr p k x ∧ tb (nr x) j = true
section WALK
variable {N : Nat} {nr : Nat → Int64}
theorem W_lt (hG : GR N nr) {p j : Nat} (hp : p < N) : ∀ {k : Nat}, Wk N nr p k j → j < N
  | 0, h => by rw [show j = p from h]; exact hp
  | _ + 1, ⟨x, hx, _, h⟩ => (hG.2 x hx j h).1
theorem W_pre {p x : Nat} (hp : p < N) (hx : tb (nr p) x = true) : ∀ {k j : Nat}, Wk N nr x k j → Wk N nr p (k + 1) j
  | 0, j, h => ⟨p, hp, rfl, by rw [show j = x from h]; exact hx⟩
  | _ + 1, _, ⟨y, hy, h1, h2⟩ => ⟨y, hy, W_pre hp hx h1, h2⟩
theorem W_sym (hG : GR N nr) {p : Nat} : ∀ {k j : Nat}, Wk N nr p k j → Wk N nr j k p
  | 0, _, h => Eq.symm h
  | _ + 1, j, ⟨x, hx, h1, h2⟩ => W_pre (hG.2 x hx j h2).1 (hG.2 x hx j h2).2.2 (W_sym hG h1)
theorem W_app {p x : Nat} {a : Nat} (h : Wk N nr p a x) : ∀ {b y : Nat}, Wk N nr x b y → Wk N nr p (a + b) y
  | 0, y, h2 => by rw [show y = x from h2]; exact h
  | _ + 1, _, ⟨z, hz, h3, h4⟩ => ⟨z, hz, W_app h h3, h4⟩
theorem W_seq (hG : GR N nr) {p : Nat} (hp : p < N) : ∀ {k j : Nat}, Wk N nr p k j → ∃ w : Nat → Nat, w 0 = p ∧ w k = j ∧ (∀ i, i ≤ k → w i < N) ∧ ∀ i l, i + l ≤ k → Wk N nr (w i) l (w (i + l))
  | 0, j, h => by
    refine ⟨fun _ => p, rfl, Eq.symm h, fun _ _ => hp, fun i l hl => ?_⟩
    have : l = 0 := by omega
    subst this
    exact rfl
  | k + 1, j, ⟨x, hx, h1, h2⟩ => by
    obtain ⟨w, a1, a2, a3, a4⟩ := W_seq hG hp h1
    have hj := (hG.2 x hx j h2).1
    refine ⟨fun i => if i ≤ k then w i else j, ?_, ?_, fun i hi => ?_, fun i l hl => ?_⟩
    · show (if 0 ≤ k then w 0 else j) = p
      rw [if_pos (by omega)]; exact a1
    · show (if k + 1 ≤ k then w (k + 1) else j) = j
      rw [if_neg (by omega)]
    · show (if i ≤ k then w i else j) < N
      split
      · exact a3 i (by omega)
      · exact hj
    · show Wk N nr (if i ≤ k then w i else j) l (if i + l ≤ k then w (i + l) else j)
      by_cases e : i + l ≤ k
      · rw [if_pos (by omega), if_pos e]; exact a4 i l e
      · rw [if_neg e]
        cases l with
        | zero => rw [if_neg (by omega)]; exact rfl
        | succ l =>
          rw [if_pos (by omega)]
          have h5 := a4 i l (by omega)
          rw [show i + l = k by omega, a2] at h5
          exact ⟨x, hx, h5, h2⟩
theorem php : ∀ (N M : Nat) (f : Nat → Nat), N < M → (∀ i, i < M → f i < N) → ∃ i j, i < j ∧ j < M ∧ f i = f j
  | 0, M, f, h, hf => by have := hf 0 (by omega); omega
  | N + 1, M, f, h, hf => by
    by_cases hc : ∃ i, i < M - 1 ∧ f i = f (M - 1)
    · obtain ⟨i, h1, h2⟩ := hc
      exact ⟨i, M - 1, h1, by omega, h2⟩
    · have hne : ∀ i, i < M - 1 → f i ≠ f (M - 1) := fun i hi e => hc ⟨i, hi, e⟩
      obtain ⟨i, j, a1, a2, a3⟩ := php N (M - 1) (fun i => if f (M - 1) < f i then f i - 1 else f i) (by omega) (fun i hi => by
        have h1 := hf i (by omega)
        have h2 := hf (M - 1) (by omega)
        have h3 := hne i hi
        show (if f (M - 1) < f i then f i - 1 else f i) < N
        split <;> omega)
      refine ⟨i, j, a1, by omega, ?_⟩
      have h3 := hne i (by omega)
      have h4 := hne j (by omega)
      have a4 : (if f (M - 1) < f i then f i - 1 else f i) = (if f (M - 1) < f j then f j - 1 else f j) := a3
      split at a4 <;> split at a4 <;> omega
theorem shortW (hG : GR N nr) : ∀ (s q : Nat), q < N → s % 2 = 1 → Wk N nr q s q → ∃ s' q', s' ≤ N ∧ s' ≤ s ∧ s' % 2 = 1 ∧ q' < N ∧ Wk N nr q' s' q' := by
  intro s
  induction s using Nat.strongRecOn with
  | ind s ih =>
    intro q hq hs hw
    by_cases hsN : s ≤ N
    · exact ⟨s, q, hsN, Nat.le_refl _, hs, hq, hw⟩
    · obtain ⟨w, a1, a2, a3, a4⟩ := W_seq hG hq hw
      obtain ⟨i, j, b1, b2, b3⟩ := php N s w (by omega) (fun i hi => a3 i (by omega))
      have c1 := a4 i (j - i) (by omega)
      rw [show i + (j - i) = j by omega, ← b3] at c1
      by_cases hl : (j - i) % 2 = 1
      · obtain ⟨s', q', d1, d2, d3⟩ := ih (j - i) (by omega) (w i) (a3 i (by omega)) hl c1
        exact ⟨s', q', d1, by omega, d3⟩
      · have c2 := a4 0 i (by omega)
        rw [Nat.zero_add, a1] at c2
        have c3 := a4 j (s - j) (by omega)
        rw [show j + (s - j) = s by omega, ← b3, a2] at c3
        have c4 := W_app c2 c3
        obtain ⟨s', q', d1, d2, d3⟩ := ih (i + (s - j)) (by omega) q hq (by omega) c4
        exact ⟨s', q', d1, by omega, d3⟩
theorem W_1 (hG : GR N nr) {q : Nat} : ¬ Wk N nr q 1 q := by
  rintro ⟨x, hx, h1, h2⟩
  have e : x = q := h1
  subst e
  exact (hG.2 x hx x h2).2.1 rfl
def NoOdd (N : Nat) (nr : Nat → Int64) : Prop := ∀ q, q < N → ∀ s, s % 2 = 1 → ¬ Wk N nr q s q
def MinO (N : Nat) (nr : Nat → Int64) (M p : Nat) : Prop := p < N ∧ M % 2 = 1 ∧ 3 ≤ M ∧ M ≤ N ∧ Wk N nr p M p ∧ (∀ q, q < N → ∀ s, s % 2 = 1 → s < M → ¬ Wk N nr q s q) ∧ (∀ q, q < p → ¬ Wk N nr q M q)
theorem MinO_uniq {M p M' p' : Nat} (h : MinO N nr M p) (h' : MinO N nr M' p') : M = M' ∧ p = p' := by
  obtain ⟨a1, a2, a3, a4, a5, a6, a7⟩ := h
  obtain ⟨b1, b2, b3, b4, b5, b6, b7⟩ := h'
  have e : M = M' := by
    rcases Nat.lt_trichotomy M M' with h | h | h
    · exact absurd a5 (b6 p a1 M a2 h)
    · exact h
    · exact absurd b5 (a6 p' b1 M' b2 h)
  subst e
  refine ⟨rfl, ?_⟩
  rcases Nat.lt_trichotomy p p' with h | h | h
  · exact absurd a5 (b7 p h)
  · exact h
  · exact absurd b5 (a7 p' h)
theorem mkMin (hG : GR N nr) {M p : Nat} (hp : p < N) (hM : M % 2 = 1) (hw : Wk N nr p M p) (h1 : ∀ q, q < N → ∀ s, s % 2 = 1 → s < M → ¬ Wk N nr q s q) (h2 : ∀ q, q < p → ¬ Wk N nr q M q) : MinO N nr M p := by
  obtain ⟨s', q', d1, d2, d3, d4, d5⟩ := shortW hG M p hp hM hw
  have e : ¬ s' < M := fun h => h1 q' d4 s' d3 h d5
  have e1 : M ≠ 1 := fun h => W_1 hG (h ▸ hw)
  exact ⟨hp, hM, by omega, by omega, hw, h1, h2⟩
theorem mkNo (hG : GR N nr) (h : ∀ q, q < N → ∀ s, s % 2 = 1 → 3 ≤ s → s ≤ N → ¬ Wk N nr q s q) : NoOdd N nr := by
  intro q hq s hs hw
  obtain ⟨s', q', d1, d2, d3, d4, d5⟩ := shortW hG s q hq hs hw
  have e1 : s' ≠ 1 := fun h => W_1 hG (h ▸ d5)
  exact h q' d4 s' d3 (by omega) d1 d5
def RC (N : Nat) (nr : Nat → Int64) (p M : Nat) (r : Nat → Nat) (k : Nat) : Prop := r k < N ∧ tb (nr (r (k - 1))) (r k) = true ∧ Wk N nr p (M - k) (r k) ∧ ∀ j, j < r k → ¬ (tb (nr (r (k - 1))) j = true ∧ Wk N nr p (M - k) j)
def ROW (N : Nat) (nr : Nat → Int64) (p M : Nat) (r : Nat → Nat) (m : Nat) : Prop := r 0 = p ∧ ∀ k, 1 ≤ k → k < m → RC N nr p M r k
theorem ROW_uniq {p M : Nat} {r r' : Nat → Nat} (h : ROW N nr p M r M) (h' : ROW N nr p M r' M) : ∀ k, k < M → r k = r' k := by
  intro k
  induction k with
  | zero => intro _; rw [h.1, h'.1]
  | succ k ih =>
    intro hk
    have e := ih (by omega)
    obtain ⟨a1, a2, a3, a4⟩ := h.2 (k + 1) (by omega) hk
    obtain ⟨b1, b2, b3, b4⟩ := h'.2 (k + 1) (by omega) hk
    rw [Nat.add_sub_cancel] at a2 a4 b2 b4
    rw [e] at a2 a4
    rcases Nat.lt_trichotomy (r (k + 1)) (r' (k + 1)) with h | h | h
    · exact absurd ⟨a2, a3⟩ (b4 _ h)
    · exact h
    · exact absurd ⟨b2, b3⟩ (a4 _ h)
theorem ROW_W {p M : Nat} {r : Nat → Nat} {m : Nat} (hp : p < N) (h : ROW N nr p M r m) : ∀ k, k < m → r k < N ∧ Wk N nr p k (r k) := by
  intro k
  induction k with
  | zero => intro _; rw [h.1]; exact ⟨hp, rfl⟩
  | succ k ih =>
    intro hk
    obtain ⟨a1, a2, _⟩ := h.2 (k + 1) (by omega) hk
    rw [Nat.add_sub_cancel] at a2
    exact ⟨a1, r k, (ih (by omega)).1, (ih (by omega)).2, a2⟩
theorem ROW_nx (hG : GR N nr) {p M : Nat} {r : Nat → Nat} {k : Nat} (hM : MinO N nr M p) (h : ROW N nr p M r k) (hk : 1 ≤ k) (hkM : k < M) : ∃ j, j < N ∧ tb (nr (r (k - 1))) j = true ∧ Wk N nr p (M - k) j := by
  have h1 : Wk N nr p (M - k + 1) (r (k - 1)) := by
    by_cases e : k = 1
    · subst e
      rw [Nat.sub_self, h.1, Nat.sub_add_cancel (by omega)]
      exact hM.2.2.2.2.1
    · have := (h.2 (k - 1) (by omega) (by omega)).2.2.1
      rw [show M - k + 1 = M - (k - 1) by omega]
      exact this
  obtain ⟨x, hx, h2, h3⟩ := h1
  exact ⟨x, hx, (hG.2 x hx _ h3).2.2, h2⟩
def DW (N : Nat) (nr : Nat → Int64) (p k j : Nat) : Prop := Wk N nr p k j ∧ ∀ k', k' < k → k' % 2 = k % 2 → ¬ Wk N nr p k' j
theorem ROW_D (hG : GR N nr) {p M : Nat} {r : Nat → Nat} {k : Nat} (hM : MinO N nr M p) (h : ROW N nr p M r k) (hk : 1 ≤ k) (hkM : k < M) {j : Nat} (hj : tb (nr (r (k - 1))) j = true) : DW N nr p (M - k) j ↔ Wk N nr p (M - k) j := by
  refine ⟨fun h => h.1, fun hw => ⟨hw, fun k' hk' hpar hw' => ?_⟩⟩
  obtain ⟨c1, c2⟩ := ROW_W hM.1 h (k - 1) (by omega)
  have h1 : Wk N nr p k j := by
    rw [show k = k - 1 + 1 by omega]
    exact ⟨r (k - 1), c1, c2, hj⟩
  have h2 := W_app h1 (W_sym hG hw')
  have := hM.2.1
  exact hM.2.2.2.2.2.1 p hM.1 (k + k') (by omega) (by omega) h2
theorem DW_pred {p k j : Nat} (h : DW N nr p (k + 1) j) : ∃ x, x < N ∧ DW N nr p k x ∧ tb (nr x) j = true := by
  obtain ⟨⟨x, hx, h1, h2⟩, h3⟩ := h
  exact ⟨x, hx, ⟨h1, fun k' hk' hp hw => h3 (k' + 1) (by omega) (by omega) ⟨x, hx, hw, h2⟩⟩, h2⟩
theorem DW_least {p j : Nat} : ∀ (k : Nat), Wk N nr p k j → ∃ k0, k0 ≤ k ∧ k0 % 2 = k % 2 ∧ DW N nr p k0 j := by
  intro k
  induction k using Nat.strongRecOn with
  | ind k ih =>
    intro hw
    by_cases hc : ∃ k', k' < k ∧ k' % 2 = k % 2 ∧ Wk N nr p k' j
    · obtain ⟨k', a1, a2, a3⟩ := hc
      obtain ⟨k0, b1, b2, b3⟩ := ih k' a1 a3
      exact ⟨k0, by omega, by omega, b3⟩
    · exact ⟨k, Nat.le_refl _, rfl, hw, fun k' h1 h2 h3 => hc ⟨k', h1, h2, h3⟩⟩
theorem DW_empty {p k : Nat} (h : ∀ j, ¬ DW N nr p k j) : ∀ k', k ≤ k' → ∀ j, ¬ DW N nr p k' j := by
  intro k' hk
  induction hk with
  | refl => exact h
  | step _ ih =>
    intro j hd
    obtain ⟨x, _, h1, _⟩ := DW_pred hd
    exact ih x h1
end WALK
def RG (N : Nat) (nr : Nat → Int64) (rl : Int32) (ro : Nat → Int32) : Prop := (rl = 0 ∧ NoOdd N nr) ∨ ∃ M p r, rl = nI M ∧ MinO N nr M p ∧ ROW N nr p M r M ∧ ∀ k, k < M → ro k = nI (r k)
theorem RG_uniq {N : Nat} {nr : Nat → Int64} (hG : GR N nr) {rl rl' : Int32} {ro ro' : Nat → Int32} (h : RG N nr rl ro) (h' : RG N nr rl' ro') : ∃ M, M ≤ 40 ∧ rl = nI M ∧ rl' = nI M ∧ ∀ k, k < M → ro k = ro' k := by
  rcases h with ⟨a1, a2⟩ | ⟨M, p, r, a1, a2, a3, a4⟩
  · rcases h' with ⟨b1, b2⟩ | ⟨M', p', r', b1, b2, b3, b4⟩
    · exact ⟨0, by omega, a1, b1, fun k hk => by omega⟩
    · exact absurd b2.2.2.2.2.1 (a2 p' b2.1 M' b2.2.1)
  · rcases h' with ⟨b1, b2⟩ | ⟨M', p', r', b1, b2, b3, b4⟩
    · exact absurd a2.2.2.2.2.1 (b2 p a2.1 M a2.2.1)
    · obtain ⟨rfl, rfl⟩ := MinO_uniq a2 b2
      have h1 := a2.2.2.2.1
      have h2 := hG.1
      exact ⟨M, by omega, a1, b1, fun k hk => by rw [a4 k hk, b4 k hk, ROW_uniq a3 b3 k hk]⟩
