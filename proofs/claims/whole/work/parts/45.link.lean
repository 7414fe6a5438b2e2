def sumN (f : Nat → Nat) : Nat → Nat
  | 0 => 0
  | k + 1 => sumN f k + f k
theorem sumN_cong {f g : Nat → Nat} {k : Nat} (h : ∀ j, j < k → f j = g j) : sumN f k = sumN g k := by
  induction k with
  | zero => rfl
  | succ k ih =>
    show sumN f k + f k = sumN g k + g k
    rw [ih (fun j hj => h j (by omega)), h k (by omega)]
theorem sumN_inc {f g : Nat → Nat} {P : Nat} : ∀ {N : Nat}, P < N → (∀ j, j < N → j ≠ P → f j = g j) → f P = g P + 1 → sumN f N = sumN g N + 1
  | 0, h, _, _ => by omega
  | N + 1, h, h1, h2 => by
    show sumN f N + f N = sumN g N + g N + 1
    by_cases e : P = N
    · subst e
      rw [sumN_cong (fun j hj => h1 j (by omega) (by omega)), h2]
      omega
    · rw [sumN_inc (N := N) (by omega) (fun j hj => h1 j (by omega)) h2, h1 N (by omega) (by omega)]
      omega
theorem sumN_le {f : Nat → Nat} {B : Nat} : ∀ {N : Nat}, (∀ j, j < N → f j ≤ B) → sumN f N ≤ N * B
  | 0, _ => by simp [sumN]
  | N + 1, h => by
    have h1 := sumN_le (N := N) (fun j hj => h j (by omega))
    have h2 := h N (by omega)
    show sumN f N + f N ≤ (N + 1) * B
    rw [Nat.add_mul]
    omega
theorem cntB_inc {f g : Nat → Bool} {Q : Nat} : ∀ {N : Nat}, Q < N → (∀ j, j < N → j ≠ Q → f j = g j) → f Q = true → g Q = false → cntB f N = cntB g N + 1
  | 0, h, _, _, _ => by omega
  | N + 1, h, h1, h2, h3 => by
    show cntB f N + (if f N then 1 else 0) = cntB g N + (if g N then 1 else 0) + 1
    by_cases e : Q = N
    · subst e
      rw [cntB_cong (fun j hj => h1 j (by omega) (by omega)), h2, h3]
      simp
    · rw [cntB_inc (N := N) (by omega) (fun j hj => h1 j (by omega)) h2 h3, h1 N (by omega) (by omega)]
      omega
def PC (nr : Nat → Int64) (N : Nat) : Nat := sumN (fun p => cntB (fun q => decide (p < q) && tb (nr p) q) N) N
theorem PC_le (nr : Nat → Int64) (N : Nat) : PC nr N ≤ N * N := sumN_le (fun _ _ => cntB_le _ _)
def V4 (c : Nat → Nat) (n s t k i : Nat) : Prop := s < t ∧ t < n ∧ k < c s ∧ i < c t
def D4 (s t k i s' t' k' i' : Nat) : Prop := s' < s ∨ (s' = s ∧ (t' < t ∨ (t' = t ∧ (k' < k ∨ (k' = k ∧ i' < i)))))
def NB (d : Nat) (xl xr yl yh ms : Nat → Int32) (c : Nat → Nat) (n : Nat) (D : Nat → Nat → Nat → Nat → Prop) (p j : Nat) : Prop :=
  ∃ s t k i, V4 c n s t k i ∧ D s t k i ∧ TN d xl xr yl yh (4 * s + k) (4 * t + i) = true ∧ ((PO ms c s k = p ∧ PO ms c t i = j) ∨ (PO ms c t i = p ∧ PO ms c s k = j))
theorem NB_sym {d : Nat} {xl xr yl yh ms : Nat → Int32} {c : Nat → Nat} {n : Nat} {D : Nat → Nat → Nat → Nat → Prop} {p j : Nat} (h : NB d xl xr yl yh ms c n D p j) : NB d xl xr yl yh ms c n D j p := by
  obtain ⟨s, t, k, i, h1, h2, h3, h4⟩ := h
  exact ⟨s, t, k, i, h1, h2, h3, h4.elim (fun h => Or.inr ⟨h.2, h.1⟩) (fun h => Or.inl ⟨h.2, h.1⟩)⟩
theorem NB_mono {d : Nat} {xl xr yl yh ms : Nat → Int32} {c : Nat → Nat} {n : Nat} {D E : Nat → Nat → Nat → Nat → Prop} (h : ∀ s t k i, V4 c n s t k i → D s t k i → E s t k i) {p j : Nat} (hp : NB d xl xr yl yh ms c n D p j) : NB d xl xr yl yh ms c n E p j := by
  obtain ⟨s, t, k, i, h1, h2, h3⟩ := hp
  exact ⟨s, t, k, i, h1, h s t k i h1 h2, h3⟩
def NI (d : Nat) (xl xr yl yh ms : Nat → Int32) (c : Nat → Nat) (n : Nat) (D : Nat → Nat → Nat → Nat → Prop) (nq : Int32) (nr : Nat → Int64) : Prop :=
  (∀ p, p < cA ms c n → ∀ j, tb (nr p) j = true ↔ NB d xl xr yl yh ms c n D p j) ∧ nq = nI (PC nr (cA ms c n))
theorem NI_cong {d : Nat} {xl xr yl yh ms : Nat → Int32} {c : Nat → Nat} {n : Nat} {D E : Nat → Nat → Nat → Nat → Prop} (h : ∀ s t k i, V4 c n s t k i → (D s t k i ↔ E s t k i)) {nq : Int32} {nr : Nat → Int64} (hi : NI d xl xr yl yh ms c n D nq nr) : NI d xl xr yl yh ms c n E nq nr :=
  ⟨fun p hp j => (hi.1 p hp j).trans ⟨NB_mono (fun s t k i hv hd => (h s t k i hv).mp hd), NB_mono (fun s t k i hv hd => (h s t k i hv).mpr hd)⟩, hi.2⟩
theorem s_bit {j : Nat} {K : Int64 → Prop} (h : K (b1 j)) : wX4_bit (nI j) K := h
theorem s_areNear {nr : Nat → Int64} {p j : Nat} (hp : p < 40) (hj : j < 64) {K : Int32 → Prop} (h : K (z1 (tb (nr p) j))) : wX0_areNear nr (nI p) (nI j) K := by
  unfold wX0_areNear
  refine ⟨vp_in_nI hp (by omega), s_bit ?_⟩
  rw [nI_clamp (by omega), lg_0, and_b1 _ hj]
  refine ⟨fun c => by rw [c] at h; exact h, fun c => ?_⟩
  have : tb (nr p) j = true := by simpa using c
  rw [this] at h; exact h
theorem s_link {d : Nat} {xl xr yl yh ms : Nat → Int32} {c : Nat → Nat} {n s t k i : Nat} {D E : Nat → Nat → Nat → Nat → Prop} (hN : cA ms c n ≤ 40) (hv : V4 c n s t k i) (hT : TN d xl xr yl yh (4 * s + k) (4 * t + i) = true)
    (hE : ∀ s' t' k' i', V4 c n s' t' k' i' → (E s' t' k' i' ↔ D s' t' k' i' ∨ (s' = s ∧ t' = t ∧ k' = k ∧ i' = i)))
    {nq : Int32} {nr : Nat → Int64} (hI : NI d xl xr yl yh ms c n D nq nr) {K : (Int32 × (Nat → Int64)) → Prop} (hK : ∀ nq nr, NI d xl xr yl yh ms c n E nq nr → K (nq, nr)) : wX0_link nq nr (nI (PO ms c s k)) (nI (PO ms c t i)) K := by
  have hQ : PO ms c t i < cA ms c n := PO_lt hv.2.1 hv.2.2.2
  have hPQ : PO ms c s k < PO ms c t i := PO_ap hv.1 hv.2.2.1
  generalize eP : PO ms c s k = P at *
  generalize eQ : PO ms c t i = Q at *
  have hnew : ∀ p j, NB d xl xr yl yh ms c n E p j ↔ NB d xl xr yl yh ms c n D p j ∨ (p = P ∧ j = Q) ∨ (p = Q ∧ j = P) := by
    intro p j
    constructor
    · rintro ⟨s', t', k', i', h1, h2, h3, h4⟩
      rcases (hE s' t' k' i' h1).mp h2 with h5 | ⟨rfl, rfl, rfl, rfl⟩
      · exact Or.inl ⟨s', t', k', i', h1, h5, h3, h4⟩
      · rw [eP, eQ] at h4
        rcases h4 with ⟨a, b⟩ | ⟨a, b⟩
        · exact Or.inr (Or.inl ⟨a.symm, b.symm⟩)
        · exact Or.inr (Or.inr ⟨a.symm, b.symm⟩)
    · rintro (h | ⟨rfl, rfl⟩ | ⟨rfl, rfl⟩)
      · exact NB_mono (fun s t k i hv hd => (hE s t k i hv).mpr (Or.inl hd)) h
      · exact ⟨s, t, k, i, hv, (hE s t k i hv).mpr (Or.inr ⟨rfl, rfl, rfl, rfl⟩), hT, Or.inl ⟨eP, eQ⟩⟩
      · exact ⟨s, t, k, i, hv, (hE s t k i hv).mpr (Or.inr ⟨rfl, rfl, rfl, rfl⟩), hT, Or.inr ⟨eQ, eP⟩⟩
  unfold wX0_link
  apply s_areNear (by omega) (by omega)
  refine br_zn (fun hb => ?_) (fun hb => ?_)
  · refine hK _ _ ⟨fun p hp j => (hI.1 p hp j).trans ?_, hI.2⟩
    have h1 := (hI.1 P (by omega) Q).mp hb
    rw [hnew]
    refine ⟨Or.inl, ?_⟩
    rintro (h | ⟨rfl, rfl⟩ | ⟨rfl, rfl⟩)
    · exact h
    · exact h1
    · exact NB_sym h1
  · refine ⟨vp_in_nI (by omega) (by omega), s_bit ⟨vp_in_nI (by omega) (by omega), ?_⟩⟩
    rintro _ rfl
    refine ⟨vp_in_nI (by omega) (by omega), s_bit ⟨vp_in_nI (by omega) (by omega), ?_⟩⟩
    rintro _ rfl _ rfl
    rw [nI_clamp (show P < 2 ^ 31 by omega), nI_clamp (show Q < 2 ^ 31 by omega)]
    have hbits : ∀ p j, j < 64 → tb (vp_updL (vp_updL nr P (nr P ||| b1 Q)) Q (vp_updL nr P (nr P ||| b1 Q) Q ||| b1 P) p) j = (tb (nr p) j || (decide (p = P ∧ j = Q) || decide (p = Q ∧ j = P))) := by
      intro p j _
      by_cases e1 : p = Q
      · subst e1
        rw [uL_s, uL_n (by omega), tb_or, tb_b1 (by omega)]
        have : ¬ p = P := by omega
        simp [this]
      · rw [uL_n e1]
        by_cases e2 : p = P
        · subst e2
          rw [uL_s, tb_or, tb_b1 (by omega)]
          simp [e1]
        · rw [uL_n e2]
          simp [e1, e2]
    refine hK _ _ ⟨fun p hp j => ?_, ?_⟩
    · rw [hnew]
      by_cases hj : j < 64
      · rw [hbits p j hj, ← hI.1 p hp j]
        simp
      · rw [tb_big (by omega)]
        refine ⟨fun h => by simp at h, ?_⟩
        rintro (h | ⟨_, rfl⟩ | ⟨_, rfl⟩)
        · rw [← hI.1 p hp j, tb_big (by omega)] at h
          exact h
        · omega
        · omega
    · have hPC : PC (vp_updL (vp_updL nr P (nr P ||| b1 Q)) Q (vp_updL nr P (nr P ||| b1 Q) Q ||| b1 P)) (cA ms c n) = PC nr (cA ms c n) + 1 := by
        unfold PC
        refine sumN_inc (P := P) (by omega) (fun p hp hne => cntB_cong (fun q hq => ?_)) (cntB_inc (Q := Q) hQ (fun q hq hne => ?_) ?_ ?_)
        · rw [hbits p q (by omega)]
          by_cases e1 : p = Q
          · have h2 : ¬ (p < q ∧ q = P) := by omega
            by_cases h3 : q = P
            · have h4 : ¬ p < q := by omega
              simp [h4]
            · simp [h3, hne]
          · simp [e1, hne]
        · rw [hbits P q (by omega)]
          have : ¬ P = Q := by omega
          simp [hne, this]
        · rw [hbits P Q (by omega)]
          simp [hPQ]
        · show (decide (P < Q) && tb (nr P) Q) = false
          rw [hb]; simp
      rw [hPC, hI.2, nI_1]
