def MV (c : Nat → Nat) (n s k t i : Nat) : Prop := s < n ∧ k < c s ∧ t < n ∧ i < c t ∧ t ≠ s
def MNB (d : Nat) (xl xr yl yh ms : Nat → Int32) (c : Nat → Nat) (n : Nat) (D : Nat → Nat → Nat → Nat → Prop) (p j : Nat) : Prop :=
  ∃ s k t i, MV c n s k t i ∧ D s k t i ∧ TN d xl xr yl yh (4 * s + k) (4 * t + i) = true ∧ PO ms c s k = p ∧ PO ms c t i = j
def MI (d : Nat) (xl xr yl yh ms : Nat → Int32) (c : Nat → Nat) (n : Nat) (D : Nat → Nat → Nat → Nat → Prop) (nr : Nat → Int64) : Prop :=
  ∀ p, p < cA ms c n → ∀ j, tb (nr p) j = true ↔ MNB d xl xr yl yh ms c n D p j
theorem MI_cong {d : Nat} {xl xr yl yh ms : Nat → Int32} {c : Nat → Nat} {n : Nat} {D E : Nat → Nat → Nat → Nat → Prop} (h : ∀ s k t i, MV c n s k t i → (D s k t i ↔ E s k t i)) {nr : Nat → Int64} (hi : MI d xl xr yl yh ms c n D nr) : MI d xl xr yl yh ms c n E nr := by
  intro p hp j
  refine (hi p hp j).trans ⟨?_, ?_⟩
  · rintro ⟨s, k, t, i, h1, h2, h3⟩
    exact ⟨s, k, t, i, h1, (h s k t i h1).mp h2, h3⟩
  · rintro ⟨s, k, t, i, h1, h2, h3⟩
    exact ⟨s, k, t, i, h1, (h s k t i h1).mpr h2, h3⟩
section MDL
variable {d n : Nat} {bx xl xr yl yh ms pf : Nat → Int32} {c : Nat → Nat}
theorem m_13 (hd : d ≤ 1000) (hn : n ≤ 10) (hb : ∀ i, i < 10 → bx i = nI (c i) ∧ c i ≤ 4 ∧ (n ≤ i → c i = 0)) (hco : ∀ s k, s < n → k < c s → COK xl xr yl yh (4 * s + k)) (hpf : ∀ s k, s < n → k < c s → pf (4 * s + k) = nI (PO ms c s k)) {s k t : Nat} (hs : s < n) (ht : t < n) (hk : k < c s)
    {K : (Nat → Int64) → Prop} {k80 : (Nat → Int64) → Int32 → Int32 → Int32 → Prop} (hK : ∀ nr, MI d xl xr yl yh ms c n (D4 s k (t + 1) 0) nr → k80 nr (nI s) (nI (4 * s + k)) (nI t)) :
    ∀ (m i : Nat) (nr : Nat → Int64), i ≤ c t → c t - i < m → MI d xl xr yl yh ms c n (D4 s k t i) nr → lpX5_findNear_13 (nI d) (nI n) bx xl yl xr yh pf K k80 m nr (nI s) (nI (4 * s + k)) (nI t) (nI i) := by
  have hcs := (hb s (by omega)).2.1
  have hct := (hb t (by omega)).2.1
  have hN : cA ms c n ≤ 40 := Nat.le_trans (cA_le (fun i hi => (hb i hi).2.1) hn) (by omega)
  intro m
  induction m with
  | zero => intro i nr h1 h2; omega
  | succ m ih =>
    intro i nr h1 h2 hI
    rw [lpX5_findNear_13.eq_2]
    refine ⟨vp_in_nI (by omega) (by omega), ?_⟩
    rw [nI_clamp (show t < 2 ^ 31 by omega), (hb t (by omega)).1]
    refine ⟨fun h => ?_, fun h => ⟨fun he => ?_, fun he => ?_⟩⟩
    · have e : i = c t := by rw [nI_leI (by omega) (by omega)] at h; omega
      subst e
      refine hK _ (MI_cong (fun s' k' t' i' hv => ?_) hI)
      have h9 : t' = t → i' < c t := fun e => e ▸ hv.2.2.2.1
      unfold D4
      omega
    · have e : t = s := nI_inj (by omega) (by omega) he
      refine hK _ (MI_cong (fun s' k' t' i' hv => ?_) hI)
      have h9 := hv.2.2.2.2
      unfold D4
      omega
    · have hts : t ≠ s := fun e => he (by rw [e])
      have hi : i < c t := by rw [nI_leI (by omega) (by omega)] at h; omega
      have hP : PO ms c s k < cA ms c n := PO_lt hs hk
      have hQ : PO ms c t i < cA ms c n := PO_lt ht hi
      rintro _ rfl
      rw [slotJ, nI_clamp (show 4 * s + k < 2 ^ 31 by omega), nI_clamp (show 4 * t + i < 2 ^ 31 by omega), hpf s k hs hk, hpf t i ht hi]
      refine ⟨vp_in_nI (by omega) (by omega), vp_in_nI (by omega) (by omega), ?_⟩
      rw [nI_clamp (show PO ms c s k < 2 ^ 31 by omega)]
      have hE : ∀ s' k' t' i', MV c n s' k' t' i' → (D4 s k t (i + 1) s' k' t' i' ↔ D4 s k t i s' k' t' i' ∨ (s' = s ∧ k' = k ∧ t' = t ∧ i' = i)) := by
        intro s' t' k' i' _
        unfold D4
        omega
      apply s_isNear hd (by omega) (by omega) (hco s k hs hk) (hco t i ht hi)
      refine br_z (fun hz => ?_) (fun hz => ⟨vp_in_nI (by omega) (by omega), ?_⟩)
      · unfold bkX5_findNear_72
        refine ⟨vp_in_nI (by omega) (by omega), ?_⟩
        rintro _ rfl _ rfl
        rw [nI_1, nI_clamp (show PO ms c s k < 2 ^ 31 by omega)]
        refine ih (i + 1) _ (by omega) (by omega) (fun p hp j => ?_)
        have e1 : vp_updL nr (PO ms c s k) (nr (PO ms c s k) ||| 0) p = nr p := by
          by_cases e : p = PO ms c s k
          · subst e
            rw [uL_s]
            apply tb_ext
            intro j _
            rw [tb_or, tb_0]; simp
          · rw [uL_n e]
        rw [e1]
        refine (hI p hp j).trans ⟨?_, ?_⟩
        · rintro ⟨s', k', t', i', a1, a2, a3⟩
          exact ⟨s', k', t', i', a1, (hE s' k' t' i' a1).mpr (Or.inl a2), a3⟩
        · rintro ⟨s', k', t', i', a1, a2, a3, a4⟩
          rcases (hE s' k' t' i' a1).mp a2 with a5 | ⟨rfl, rfl, rfl, rfl⟩
          · exact ⟨s', k', t', i', a1, a5, a3, a4⟩
          · rw [hz] at a3; exact absurd a3 (by decide)
      · unfold bkX5_findNear_72
        refine ⟨vp_in_nI (by omega) (by omega), ?_⟩
        rintro _ rfl _ rfl
        rw [nI_1, nI_clamp (show PO ms c s k < 2 ^ 31 by omega)]
        refine ih (i + 1) _ (by omega) (by omega) (fun p hp j => ?_)
        have e1 : tb (vp_updL nr (PO ms c s k) (nr (PO ms c s k) ||| b1 (PO ms c t i)) p) j = (tb (nr p) j || decide (p = PO ms c s k ∧ j = PO ms c t i)) := by
          by_cases e : p = PO ms c s k
          · subst e
            rw [uL_s, tb_or, tb_b1 (by omega)]
            simp
          · rw [uL_n e]; simp [e]
        show tb (vp_updL nr (PO ms c s k) (nr (PO ms c s k) ||| b1 (PO ms c t i)) p) j = true ↔ _
        rw [e1, Bool.or_eq_true, hI p hp j, decide_eq_true_eq]
        constructor
        · rintro (⟨s', k', t', i', a1, a2, a3⟩ | ⟨rfl, rfl⟩)
          · exact ⟨s', k', t', i', a1, (hE s' k' t' i' a1).mpr (Or.inl a2), a3⟩
          · exact ⟨s, k, t, i, ⟨hs, hk, ht, hi, hts⟩, (hE s k t i ⟨hs, hk, ht, hi, hts⟩).mpr (Or.inr ⟨rfl, rfl, rfl, rfl⟩), hz, rfl, rfl⟩
        · rintro ⟨s', k', t', i', a1, a2, a3, a4, a5⟩
          rcases (hE s' k' t' i' a1).mp a2 with a6 | ⟨rfl, rfl, rfl, rfl⟩
          · exact Or.inl ⟨s', k', t', i', a1, a6, a3, a4, a5⟩
          · exact Or.inr ⟨a4.symm, a5.symm⟩
theorem m_2 (hd : d ≤ 1000) (hn : n ≤ 10) (hb : ∀ i, i < 10 → bx i = nI (c i) ∧ c i ≤ 4 ∧ (n ≤ i → c i = 0)) (hco : ∀ s k, s < n → k < c s → COK xl xr yl yh (4 * s + k)) (hpf : ∀ s k, s < n → k < c s → pf (4 * s + k) = nI (PO ms c s k)) {s k : Nat} (hs : s < n) (hk : k < c s)
    {K : (Nat → Int64) → Prop} {k86 : (Nat → Int64) → Prop} (hK : ∀ nr, MI d xl xr yl yh ms c n (D4 s (k + 1) 0 0) nr → k86 nr) :
    ∀ (m t : Nat) (nr : Nat → Int64), t ≤ n → n - t < m → MI d xl xr yl yh ms c n (D4 s k t 0) nr → lpX5_findNear_2 (nI d) (nI n) bx xl yl xr yh pf K k86 m nr (nI s) (nI (4 * s + k)) (nI t) := by
  intro m
  induction m with
  | zero => intro i nr h1 h2; omega
  | succ m ih =>
    intro t nr h1 h2 hI
    rw [lpX5_findNear_2.eq_2]
    refine ⟨fun h => ?_, fun h => ?_⟩
    · have e : t = n := by rw [nI_leI (by omega) (by omega)] at h; omega
      subst e
      refine hK _ (MI_cong (fun s' k' t' i' hv => ?_) hI)
      have := hv.2.2.1
      unfold D4
      omega
    · have ht : t < n := by rw [nI_leI (by omega) (by omega)] at h; omega
      refine ⟨c t + 1, m_13 hd hn hb hco hpf hs ht hk (fun nr hI2 => ?_) (c t + 1) 0 _ (by omega) (by omega) hI⟩
      rintro _ rfl
      rw [nI_1]
      exact ih (t + 1) _ (by omega) (by omega) hI2
theorem m_132 (hd : d ≤ 1000) (hn : n ≤ 10) (hb : ∀ i, i < 10 → bx i = nI (c i) ∧ c i ≤ 4 ∧ (n ≤ i → c i = 0)) (hco : ∀ s k, s < n → k < c s → COK xl xr yl yh (4 * s + k)) (hpf : ∀ s k, s < n → k < c s → pf (4 * s + k) = nI (PO ms c s k)) {s : Nat} (hs : s < n)
    {kp : Int32} {so st : Nat → Int32} {K : (Int32 × (Nat → Int32) × (Nat → Int32) × (Nat → Int32) × (Nat → Int64)) → Prop} {k158 : Int32 → (Nat → Int32) → (Nat → Int32) → (Nat → Int32) → (Nat → Int64) → Int32 → Prop} (hK : ∀ nr, MI d xl xr yl yh ms c n (D4 (s + 1) 0 0 0) nr → k158 kp pf so st nr (nI s)) :
    ∀ (m k : Nat) (nr : Nat → Int64), k ≤ c s → c s - k < m → MI d xl xr yl yh ms c n (D4 s k 0 0) nr → lpX5_findParts_132 (nI d) (nI n) bx xl yl xr yh ms K k158 m kp pf so st nr (nI s) (nI k) := by
  have hcs := (hb s (by omega)).2.1
  intro m
  induction m with
  | zero => intro i nr h1 h2; omega
  | succ m ih =>
    intro k nr h1 h2 hI
    rw [lpX5_findParts_132.eq_2]
    refine ⟨vp_in_nI (by omega) (by omega), ?_⟩
    rw [nI_clamp (show s < 2 ^ 31 by omega), (hb s (by omega)).1]
    refine ⟨fun h => ?_, fun h => ?_⟩
    · have e : k = c s := by rw [nI_leI (by omega) (by omega)] at h; omega
      subst e
      refine hK _ (MI_cong (fun s' k' t' i' hv => ?_) hI)
      have h9 : s' = s → k' < c s := fun e => e ▸ hv.2.1
      unfold D4
      omega
    · have hk : k < c s := by rw [nI_leI (by omega) (by omega)] at h; omega
      rw [slotJ]
      refine ⟨n + 1, m_2 hd hn hb hco hpf hs hk (fun nr hI2 => ?_) (n + 1) 0 _ (by omega) (by omega) hI⟩
      rintro _ rfl
      rw [nI_1]
      exact ih (k + 1) _ (by omega) (by omega) hI2
theorem m_122 (hd : d ≤ 1000) (hn : n ≤ 10) (hb : ∀ i, i < 10 → bx i = nI (c i) ∧ c i ≤ 4 ∧ (n ≤ i → c i = 0)) (hco : ∀ s k, s < n → k < c s → COK xl xr yl yh (4 * s + k)) (hpf : ∀ s k, s < n → k < c s → pf (4 * s + k) = nI (PO ms c s k))
    {kp : Int32} {so st : Nat → Int32} {K : (Int32 × (Nat → Int32) × (Nat → Int32) × (Nat → Int32) × (Nat → Int64)) → Prop} {k164 : Int32 → (Nat → Int32) → (Nat → Int32) → (Nat → Int32) → (Nat → Int64) → Prop} (hK : ∀ nr, MI d xl xr yl yh ms c n Full nr → k164 kp pf so st nr) :
    ∀ (m s : Nat) (nr : Nat → Int64), s ≤ n → n - s < m → MI d xl xr yl yh ms c n (D4 s 0 0 0) nr → lpX5_findParts_122 (nI d) (nI n) bx xl yl xr yh ms K k164 m kp pf so st nr (nI s) := by
  intro m
  induction m with
  | zero => intro i nr h1 h2; omega
  | succ m ih =>
    intro s nr h1 h2 hI
    rw [lpX5_findParts_122.eq_2]
    refine ⟨fun h => ?_, fun h => ?_⟩
    · have e : s = n := by rw [nI_leI (by omega) (by omega)] at h; omega
      subst e
      refine hK _ (MI_cong (fun s' k' t' i' hv => ?_) hI)
      have := hv.1
      unfold D4 Full
      exact ⟨fun _ => trivial, fun _ => by omega⟩
    · have hs : s < n := by rw [nI_leI (by omega) (by omega)] at h; omega
      refine ⟨c s + 1, m_132 hd hn hb hco hpf hs (fun nr hI2 => ?_) (c s + 1) 0 _ (by omega) (by omega) hI⟩
      rintro _ rfl
      rw [nI_1]
      exact ih (s + 1) _ (by omega) (by omega) hI2
end MDL
def MPR (d n : Nat) (c : Nat → Nat) (xl xr yl yh ms : Nat → Int32) (kp : Int32) (po st : Nat → Int32) (nr : Nat → Int64) : Prop :=
  kp = nI (cA ms c n) ∧ (∀ s k, s < n → k < c s → po (4 * s + k) = nI (PO ms c s k)) ∧ (∀ p, p < cA ms c n → st p = z1 (slA ms c n p)) ∧ MI d xl xr yl yh ms c n Full nr
theorem s_findParts {pg ps : Int32} {bx xl xr yl yh ms wt : Nat → Int32} {d n : Nat} {c : Nat → Nat} (hp : PLN pg ps bx xl xr yl yh ms wt d n c)
    {kp : Int32} {po so st : Nat → Int32} {nr : Nat → Int64} {K : (Int32 × (Nat → Int32) × (Nat → Int32) × (Nat → Int32) × (Nat → Int64)) → Prop} (hK : ∀ kp po so st nr, MPR d n c xl xr yl yh ms kp po st nr → K (kp, po, so, st, nr)) :
    wX5_findParts pg ps bx xl yl xr yh ms kp po so st nr K := by
  obtain ⟨⟨rfl, hd1, hd2⟩, ⟨rfl, hn⟩, hb, hu, hv⟩ := hp
  refine ⟨n + 1, m_7 hn hb (fun kp po so st nr hI => ?_) (n + 1) 0 _ _ _ _ _ (by omega) (by omega) ⟨rfl, ?_, ?_⟩⟩
  · obtain ⟨h1, h3, h4⟩ := hI
    have hpf : ∀ s k, s < n → k < c s → po (4 * s + k) = nI (PO ms c s k) := fun s k hs hk => h3 s k (Or.inl ⟨hs, hk⟩)
    refine ⟨n + 1, m_122 hd2 hn hb (fun s k hs hk => (hu s k hs hk).1) hpf (fun nr hI2 => hK _ _ _ _ _ ⟨h1, hpf, fun p hp => (h4 p hp).1, hI2⟩) (n + 1) 0 _ (by omega) (by omega) (fun p hp j => ?_)⟩
    rw [(h4 p hp).2, tb_0]
    refine ⟨fun h => by simp at h, ?_⟩
    rintro ⟨s', t', k', i', a1, a2, a3, a4⟩
    unfold D4 at a2
    omega
  · rintro s' k' (⟨a, _⟩ | ⟨_, a⟩) <;> omega
  · intro p hp
    have : p < 0 := hp
    omega
theorem NB_MNB {d n : Nat} {c : Nat → Nat} {xl xr yl yh ms : Nat → Int32} (hco : ∀ s k, s < n → k < c s → COK xl xr yl yh (4 * s + k)) {p j : Nat} : NB d xl xr yl yh ms c n Full p j ↔ MNB d xl xr yl yh ms c n Full p j := by
  constructor
  · rintro ⟨s, t, k, i, ⟨a1, a2, a3, a4⟩, _, a5, (⟨a6, a7⟩ | ⟨a6, a7⟩)⟩
    · exact ⟨s, k, t, i, ⟨by omega, a3, a2, a4, by omega⟩, trivial, a5, a6, a7⟩
    · exact ⟨t, i, s, k, ⟨a2, a4, by omega, a3, by omega⟩, trivial, by rw [TN_sym (hco t i a2 a4) (hco s k (by omega) a3)]; exact a5, a6, a7⟩
  · rintro ⟨s, k, t, i, ⟨a1, a2, a3, a4, a5⟩, _, a6, a7, a8⟩
    rcases Nat.lt_or_gt_of_ne a5 with h | h
    · exact ⟨t, s, i, k, ⟨h, a1, a4, a2⟩, trivial, by rw [TN_sym (hco t i a3 a4) (hco s k a1 a2)]; exact a6, Or.inr ⟨a7, a8⟩⟩
    · exact ⟨s, t, k, i, ⟨h, a3, a2, a4⟩, trivial, a6, Or.inl ⟨a7, a8⟩⟩
