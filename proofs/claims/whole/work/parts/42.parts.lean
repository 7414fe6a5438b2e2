def op (ms : Nat → Int32) (s k : Nat) : Nat := if k = 0 ∨ ms (4 * s + k - 1) ≠ 0 then 1 else 0
def cS (ms : Nat → Int32) (s : Nat) : Nat → Nat
  | 0 => 0
  | k + 1 => cS ms s k + op ms s k
def cA (ms : Nat → Int32) (c : Nat → Nat) : Nat → Nat
  | 0 => 0
  | s + 1 => cA ms c s + cS ms s (c s)
def PO (ms : Nat → Int32) (c : Nat → Nat) (s k : Nat) : Nat := cA ms c s + cS ms s (k + 1) - 1
theorem op_le (ms : Nat → Int32) (s k : Nat) : op ms s k ≤ 1 := by unfold op; split <;> omega
theorem op_0 (ms : Nat → Int32) (s : Nat) : op ms s 0 = 1 := by simp [op]
theorem cS_le (ms : Nat → Int32) (s k : Nat) : cS ms s k ≤ k := by
  induction k with
  | zero => exact Nat.le_refl 0
  | succ k ih => have := op_le ms s k; show cS ms s k + op ms s k ≤ k + 1; omega
theorem cS_mono (ms : Nat → Int32) (s : Nat) {k j : Nat} (h : k ≤ j) : cS ms s k ≤ cS ms s j := by
  induction h with
  | refl => exact Nat.le_refl _
  | step _ ih => show _ ≤ cS ms s _ + op ms s _; omega
theorem cS_pos (ms : Nat → Int32) (s : Nat) {k : Nat} (h : 0 < k) : 1 ≤ cS ms s k := by
  have h1 : cS ms s 1 = 1 := by show 0 + op ms s 0 = 1; rw [op_0]
  have := cS_mono ms s (k := 1) (j := k) h
  omega
theorem cA_le {ms : Nat → Int32} {c : Nat → Nat} {n : Nat} (hc : ∀ i, i < 10 → c i ≤ 4) (hn : n ≤ 10) : cA ms c n ≤ 4 * n := by
  induction n with
  | zero => exact Nat.le_refl 0
  | succ n ih =>
    have h1 := ih (by omega)
    have h2 := cS_le ms n (c n)
    have h3 := hc n (by omega)
    show cA ms c n + cS ms n (c n) ≤ 4 * (n + 1)
    omega
theorem cA_mono {ms : Nat → Int32} {c : Nat → Nat} {s t : Nat} (h : s ≤ t) : cA ms c s ≤ cA ms c t := by
  induction h with
  | refl => exact Nat.le_refl _
  | step _ ih => show _ ≤ cA ms c _ + cS ms _ _; omega
theorem PO_lo {ms : Nat → Int32} {c : Nat → Nat} {s k : Nat} : cA ms c s ≤ PO ms c s k := by
  have := cS_pos ms s (k := k + 1) (by omega)
  unfold PO; omega
theorem PO_hi {ms : Nat → Int32} {c : Nat → Nat} {s k : Nat} (hk : k < c s) : PO ms c s k < cA ms c (s + 1) := by
  have h1 := cS_pos ms s (k := k + 1) (by omega)
  have h2 := cS_mono ms s (k := k + 1) (j := c s) hk
  show cA ms c s + cS ms s (k + 1) - 1 < cA ms c s + cS ms s (c s)
  omega
theorem PO_lt {ms : Nat → Int32} {c : Nat → Nat} {n s k : Nat} (hs : s < n) (hk : k < c s) : PO ms c s k < cA ms c n :=
  Nat.lt_of_lt_of_le (PO_hi hk) (cA_mono hs)
theorem PO_ap {ms : Nat → Int32} {c : Nat → Nat} {s k t i : Nat} (h : s < t) (hk : k < c s) : PO ms c s k < PO ms c t i :=
  Nat.lt_of_lt_of_le (PO_hi hk) (Nat.le_trans (cA_mono h) PO_lo)
def Pr (c : Nat → Nat) (s k s' k' : Nat) : Prop := (s' < s ∧ k' < c s') ∨ (s' = s ∧ k' < k)
theorem PO_pr {ms : Nat → Int32} {c : Nat → Nat} {s k s' k' : Nat} (h : Pr c s k s' k') : PO ms c s' k' < cA ms c s + cS ms s k := by
  rcases h with ⟨h1, h2⟩ | ⟨rfl, h2⟩
  · have h3 := PO_hi (ms := ms) h2
    have h4 := cA_mono (ms := ms) (c := c) (s := s' + 1) (t := s) h1
    omega
  · have h1 := cS_pos ms s' (k := k' + 1) (by omega)
    have h3 := cS_mono ms s' (k := k' + 1) (j := k) h2
    unfold PO
    omega
theorem Pr_s {c : Nat → Nat} {s k s' k' : Nat} (h : Pr c s (k + 1) s' k') : Pr c s k s' k' ∨ (s' = s ∧ k' = k) := by
  rcases h with h | ⟨h1, h2⟩
  · exact Or.inl (Or.inl h)
  · by_cases e : k' = k
    · exact Or.inr ⟨h1, e⟩
    · exact Or.inl (Or.inr ⟨h1, by omega⟩)
theorem Pr_up {c : Nat → Nat} {s k s' k' : Nat} (h : Pr c s k s' k') : Pr c s (k + 1) s' k' := by
  rcases h with h | ⟨a, b⟩
  · exact Or.inl h
  · exact Or.inr ⟨a, by omega⟩
theorem Pr_b {c : Nat → Nat} (hc : ∀ i, i < 10 → c i ≤ 4) {s k s' k' : Nat} (hs : s < 10) (hk : k ≤ 4) (h : Pr c s k s' k') : s' < 10 ∧ k' < 4 := by
  rcases h with ⟨a, b⟩ | ⟨a, b⟩
  · have := hc s' (by omega)
    omega
  · omega
theorem Pr_n {c : Nat → Nat} {s k : Nat} : ¬ Pr c s k s k := by
  rintro (⟨a, _⟩ | ⟨_, a⟩) <;> omega
def slS (ms : Nat → Int32) (c : Nat → Nat) (s : Nat) (f : Nat → Bool) : Nat → Nat → Bool
  | 0 => f
  | k + 1 => fun p => if op ms s k = 1 ∧ p = cA ms c s + cS ms s k then decide (k ≠ 0) else slS ms c s f k p
def slA (ms : Nat → Int32) (c : Nat → Nat) : Nat → Nat → Bool
  | 0 => fun _ => false
  | s + 1 => slS ms c s (slA ms c s) (c s)
def cntB (f : Nat → Bool) : Nat → Nat
  | 0 => 0
  | k + 1 => cntB f k + (if f k then 1 else 0)
theorem cntB_le (f : Nat → Bool) (k : Nat) : cntB f k ≤ k := by
  induction k with
  | zero => exact Nat.le_refl 0
  | succ k ih => show cntB f k + _ ≤ k + 1; split <;> omega
theorem cntB_cong {f g : Nat → Bool} {k : Nat} (h : ∀ j, j < k → f j = g j) : cntB f k = cntB g k := by
  induction k with
  | zero => rfl
  | succ k ih =>
    show cntB f k + _ = cntB g k + _
    rw [ih (fun j hj => h j (by omega)), h k (by omega)]
def okc (w : Int32) (x : Nat) : Prop := w = -1 ∨ w = nI x
theorem mulN (a b : Nat) : nI a * nI b = nI (a * b) := pk_mul a b
def NumI (ms wt : Nat → Int32) (c : Nat → Nat) (s k : Nat) (np ns : Int32) (pf : Nat → Int32) (nr : Nat → Int64) (sl cl : Nat → Int32) : Prop :=
  np = nI (cA ms c s + cS ms s k) ∧ ns = nI (cntB (slS ms c s (slA ms c s) k) (cA ms c s + cS ms s k)) ∧ (∀ s' k', Pr c s k s' k' → pf (4 * s' + k') = nI (PO ms c s' k')) ∧
  (∀ p, p < cA ms c s + cS ms s k → sl p = z1 (slS ms c s (slA ms c s) k p) ∧ nr p = 0 ∧ ∀ x, x < 4 → (tc (cl p) x = true ↔ ∀ s' k', Pr c s k s' k' → PO ms c s' k' = p → okc (wt (4 * s' + k')) x))
theorem s_openPart {B : Nat} (hB : B < 40) {nr : Nat → Int64} {sl cl : Nat → Int32} {b : Bool} {K : (Int32 × (Nat → Int64) × (Nat → Int32) × (Nat → Int32)) → Prop} (h : K (nI (B + 1), vp_updL nr B 0, upd sl B (z1 b), upd cl B 15)) : wX0_openPart (nI B) nr sl cl (z1 b) K := by
  unfold wX0_openPart
  refine ⟨vp_in_nI hB (by omega), ?_⟩
  rintro _ rfl
  refine ⟨vp_in_nI hB (by omega), ?_⟩
  rintro _ rfl
  refine ⟨vp_in_nI hB (by omega), ?_⟩
  rintro _ rfl _ rfl
  rw [nI_clamp (by omega), nI_1, z1_vp]
  exact h
theorem box_inj {c : Nat → Nat} (hc : ∀ i, i < 10 → c i ≤ 4) {s k s' k' : Nat} (hs : s < 10) (hk : k < 4) (hk' : k' < 4) (h : 4 * s' + k' = 4 * s + k) : s' = s ∧ k' = k := by omega
theorem s_add41 {ms wt : Nat → Int32} {c : Nat → Nat} {n s k : Nat} (hn : n ≤ 10) (hc : ∀ i, i < 10 → c i ≤ 4) (hs : s < n) (hk : k < c s) (hw : wt (4 * s + k) = -1 ∨ ∃ x, x < 4 ∧ wt (4 * s + k) = nI x)
    {np ns : Int32} {pf : Nat → Int32} {nr : Nat → Int64} {sl cl : Nat → Int32} {K : (Int32 × Int32 × (Nat → Int32) × (Nat → Int64) × (Nat → Int32) × (Nat → Int32)) → Prop}
    (h1 : np = nI (cA ms c s + cS ms s (k + 1))) (h2 : ns = nI (cntB (slS ms c s (slA ms c s) (k + 1)) (cA ms c s + cS ms s (k + 1)))) (h3 : ∀ s' k', Pr c s k s' k' → pf (4 * s' + k') = nI (PO ms c s' k'))
    (h4 : ∀ p, p < cA ms c s + cS ms s (k + 1) → sl p = z1 (slS ms c s (slA ms c s) (k + 1) p) ∧ nr p = 0 ∧ ∀ x, x < 4 → (tc (cl p) x = true ↔ ∀ s' k', Pr c s k s' k' → PO ms c s' k' = p → okc (wt (4 * s' + k')) x))
    (hK : ∀ np ns pf nr sl cl, NumI ms wt c s (k + 1) np ns pf nr sl cl → K (np, ns, pf, nr, sl, cl)) : bkX0_addToParts_41 ms wt K np ns pf nr sl cl (nI (4 * s + k)) := by
  have hks := hc s (by omega)
  have hp1 := cS_pos ms s (k := k + 1) (by omega)
  have hA := cA_le (ms := ms) (n := s) hc (by omega)
  have hS := cS_le ms s (k + 1)
  have hPO : np - 1 = nI (PO ms c s k) := by
    rw [h1, show (1 : Int32) = nI 1 from rfl, pk_sub (by omega)]; rfl
  have hPl : PO ms c s k < cA ms c s + cS ms s (k + 1) := by unfold PO; omega
  have hpf : ∀ s' k', Pr c s (k + 1) s' k' → upd pf (4 * s + k) (nI (PO ms c s k)) (4 * s' + k') = nI (PO ms c s' k') := by
    intro s' k' h
    rcases Pr_s h with h | ⟨rfl, rfl⟩
    · rw [u_n, h3 s' k' h]
      intro e
      obtain ⟨h5, h6⟩ := Pr_b hc (by omega) (by omega) h
      obtain ⟨rfl, rfl⟩ := box_inj hc (s := s) (k := k) (by omega) (by omega) h6 e
      exact Pr_n h
    · exact u_s
  unfold bkX0_addToParts_41
  refine ⟨vp_in_nI (by omega) (by omega), ?_⟩
  rintro _ rfl
  rw [hPO, nI_clamp (show 4 * s + k < 2 ^ 31 by omega), nI_clamp (show PO ms c s k < 2 ^ 31 by omega)]
  refine ⟨vp_in_nI (by omega) (by omega), fun hw1 => ?_, fun hw1 => ⟨vp_in_nI (by omega) (by omega), vp_in_nI (by omega) (by omega), vp_in_nI (by omega) (by omega), ?_⟩⟩
  · refine hK _ _ _ _ _ _ ⟨h1, h2, hpf, fun p hp => ⟨(h4 p hp).1, (h4 p hp).2.1, fun x hx => ((h4 p hp).2.2 x hx).trans ⟨fun h s' k' hpr e => ?_, fun h s' k' hpr e => h s' k' (Pr_up hpr) e⟩⟩⟩
    rcases Pr_s hpr with hpr | ⟨rfl, rfl⟩
    · exact h s' k' hpr e
    · exact Or.inl hw1
  · rintro _ rfl
    obtain ⟨y, hy, ey⟩ : ∃ y, y < 4 ∧ wt (4 * s + k) = nI y := hw.elim (fun h => absurd h hw1) id
    rw [ey]
    refine hK _ _ _ _ _ _ ⟨h1, h2, hpf, fun p hp => ⟨(h4 p hp).1, (h4 p hp).2.1, fun x hx => ?_⟩⟩
    by_cases e : p = PO ms c s k
    · subst e
      rw [u_s, tc_and, tc_c1 (by omega), Bool.and_eq_true, (h4 _ hp).2.2 x hx]
      constructor
      · rintro ⟨a, b⟩ s' k' hpr e
        rcases Pr_s hpr with hpr | ⟨rfl, rfl⟩
        · exact a s' k' hpr e
        · rw [ey]; right; rw [of_decide_eq_true b]
      · intro h
        refine ⟨fun s' k' hpr e => h s' k' (Pr_up hpr) e, ?_⟩
        rcases h s k (Or.inr ⟨rfl, by omega⟩) rfl with h9 | h9
        · exact absurd h9 hw1
        · rw [ey] at h9
          exact decide_eq_true (nI_inj (by omega) (by omega) h9).symm
    · rw [u_n e]
      refine ((h4 p hp).2.2 x hx).trans ⟨fun h s' k' hpr e2 => ?_, fun h s' k' hpr e => h s' k' (Pr_up hpr) e⟩
      rcases Pr_s hpr with hpr | ⟨rfl, rfl⟩
      · exact h s' k' hpr e2
      · exact absurd e2.symm e
