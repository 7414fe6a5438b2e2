theorem s_usedUpTo {st cm : Nat → Int32} {g : Nat → Bool} {co : Nat → Nat} {p : Nat} (hp : p < 40) (hs : ∀ j, j ≤ p → st j = z1 (g j)) (hh : ∀ j, j ≤ p → cm j = nI (co j) ∧ co j < 4) {K : Int32 → Prop} (hK : K (nI (ud g co p))) : wX5_usedUpTo st cm (nI p) K := by
  have key : ∀ (m j : Nat), j ≤ p → p - j < m → lpX5_usedUpTo_4 st cm K (fun v2 => K v2) m (nI p) (nI (ud g co j)) (nI (j + 1)) := by
    intro m
    induction m with
    | zero => intro q _ h; omega
    | succ m ih =>
      intro j h1 h2
      rw [lpX5_usedUpTo_4.eq_2]
      refine ⟨fun h => ?_, fun h => ?_⟩
      · have e : j = p := by rw [nI_ltI (by omega) (by omega)] at h; omega
        subst e; exact hK
      · have hj : j < p := by rw [nI_ltI (by omega) (by omega)] at h; omega
        have e1 : nI (j + 1) - 1 = nI j := sub1 (by omega)
        have hn := ih (j + 1) (by omega) (by omega)
        have hK2 : ∀ u : Bool, u = (g (j + 1) && decide (co (j + 1) ≠ co j)) → bkX5_usedUpTo_41 st cm K (fun v1 v2 v3 => lpX5_usedUpTo_4 st cm K (fun v2 => K v2) m v1 v2 v3) (nI p) (nI (j + 1)) (nI (ud g co j)) (z1 u) := by
          intro u eu
          unfold bkX5_usedUpTo_41
          rintro _ rfl _ rfl
          have e2 : nI (ud g co j) + z1 u = nI (ud g co (j + 1)) := by
            show _ = nI (ud g co j + (if g (j + 1) && decide (co (j + 1) ≠ co j) then 1 else 0))
            rw [← eu]
            cases u
            · show nI _ + nI 0 = _
              rw [nI_add]; rfl
            · exact nI_1 _
          rw [e2, nI_1]
          exact hn
        refine ⟨vp_in_nI (by omega) (by omega), ?_⟩
        rw [nI_clamp (by omega), hs (j + 1) (by omega)]
        refine br_z (fun hz => ?_) (fun hz => ⟨vp_in_nI (by omega) (by omega), ?_, ?_⟩)
        · exact hK2 false (by rw [hz]; rfl)
        · rw [e1]; exact vp_in_nI (by omega) (by omega)
        · rw [e1, nI_clamp (by omega), (hh (j + 1) (by omega)).1, (hh j (by omega)).1]
          have b1 := (hh (j + 1) (by omega)).2
          have b2 := (hh j (by omega)).2
          refine ⟨fun he => ?_, fun he => ?_⟩
          · have : co (j + 1) = co j := nI_inj (by omega) (by omega) he
            exact hK2 false (by simp [this])
          · have : ¬ co (j + 1) = co j := fun e => he (by rw [e])
            exact hK2 true (by simp [this, hz])
  exact ⟨p + 1, key (p + 1) 0 (by omega) (by omega)⟩
section FITS
variable {n N : Nat} {c : Nat → Nat} {bx ms tl po st cm : Nat → Int32} {nm : Nat → Int64} {co : Nat → Nat} {p : Nat}
theorem s_f5_18 (hp : p < 40) (hh : ∀ j, j ≤ p → cm j = nI (co j) ∧ co j < 4) {a : Bool} {kn : Int32} {cn : Nat → Int32} {K : Int32 → Prop} {k66 : Int32 → Int32 → Prop} (hK : k66 (nI p) (z1 (a && ncf nm co p p))) :
    ∀ (m q : Nat), q ≤ p → p - q < m → lpX5_fits_18 kn cn tl po st nm cm K k66 m (nI p) (z1 (a && ncf nm co p q)) (nI q) := by
  intro m
  induction m with
  | zero => intro q _ h; omega
  | succ m ih =>
    intro q h1 h2
    rw [lpX5_fits_18.eq_2]
    refine ⟨fun h => ?_, fun h => ?_⟩
    · have e : q = p := by rw [nI_leI (by omega) (by omega)] at h; omega
      subst e; exact hK
    · have hq : q < p := by rw [nI_leI (by omega) (by omega)] at h; omega
      have hn := ih (q + 1) (by omega) (by omega)
      have en : (a && ncf nm co p (q + 1)) = ((a && ncf nm co p q) && !(tb (nm p) q && decide (co q = co p))) := by
        show (a && (ncf nm co p q && _)) = _
        rw [Bool.and_assoc]
      have hK2 : ∀ u : Bool, u = (a && ncf nm co p (q + 1)) → bkX5_fits_59 kn cn tl po st nm cm K (fun v1 v3 v4 => lpX5_fits_18 kn cn tl po st nm cm K k66 m v1 v3 v4) (nI p) (nI q) (z1 u) := by
        intro u eu
        unfold bkX5_fits_59
        rintro _ rfl
        rw [nI_1, eu]
        exact hn
      refine br_z (fun hz => ?_) (fun hz => ?_)
      · exact hK2 false (by rw [en, hz]; rfl)
      · apply s_areNear5 (by omega) (by omega)
        refine br_z (fun ht => ?_) (fun ht => ⟨vp_in_nI (by omega) (by omega), vp_in_nI (by omega) (by omega), ?_⟩)
        · exact hK2 true (by rw [en, hz, ht]; rfl)
        · rw [nI_clamp (by omega), nI_clamp (by omega), (hh q (by omega)).1, (hh p (by omega)).1]
          have b1 := (hh q (by omega)).2
          have b2 := (hh p (by omega)).2
          refine ⟨fun he => ?_, fun he => ?_⟩
          · have : co q = co p := nI_inj (by omega) (by omega) he
            exact hK2 false (by rw [en, hz, ht]; simp [this])
          · have : ¬ co q = co p := fun e => he (by rw [e])
            exact hK2 true (by rw [en, hz, ht]; simp [this])
def BO (ms tl : Nat → Int32) (c : Nat → Nat) (p x s k : Nat) : Prop := ∀ s' k', Pr c s k s' k' → PO ms c s' k' = p → okc (tl (4 * s' + k')) x
theorem BO_s {x s k : Nat} : BO ms tl c p x s (k + 1) ↔ BO ms tl c p x s k ∧ (PO ms c s k = p → okc (tl (4 * s + k)) x) := by
  constructor
  · intro h
    exact ⟨fun s' k' hpr e => h s' k' (Pr_up hpr) e, fun e => h s k (Or.inr ⟨rfl, by omega⟩) e⟩
  · rintro ⟨h1, h2⟩ s' k' hpr e
    rcases Pr_s hpr with hpr | ⟨rfl, rfl⟩
    · exact h1 s' k' hpr e
    · exact h2 e
theorem s_f5_81 (hn : n ≤ 10) (hb : ∀ i, i < 10 → bx i = nI (c i) ∧ c i ≤ 4 ∧ (n ≤ i → c i = 0)) (hpo : ∀ s k, s < n → k < c s → po (4 * s + k) = nI (PO ms c s k)) (htl : ∀ s k, s < n → k < c s → tl (4 * s + k) = -1 ∨ ∃ x, x < 4 ∧ tl (4 * s + k) = nI x)
    (hp : p < 40) {x s : Nat} (hx : x < 4) (hcm : cm p = nI x) (hs : s < n) {a : Prop} {kn : Int32} {K : Int32 → Prop} {k155 : Int32 → Int32 → Int32 → Prop} (hK : ∀ b : Bool, (b = true ↔ a ∧ BO ms tl c p x s (c s)) → k155 (nI p) (z1 b) (nI s)) :
    ∀ (m k : Nat) (b : Bool), k ≤ c s → c s - k < m → (b = true ↔ a ∧ BO ms tl c p x s k) → lpX5_fits_81 kn bx tl po st nm cm K k155 m (nI p) (z1 b) (nI s) (nI k) := by
  have hcs := (hb s (by omega)).2.1
  have hN : cA ms c n ≤ 40 := Nat.le_trans (cA_le (fun i hi => (hb i hi).2.1) hn) (by omega)
  intro m
  induction m with
  | zero => intro k b _ h; omega
  | succ m ih =>
    intro k b h1 h2 hI
    rw [lpX5_fits_81.eq_2]
    refine ⟨vp_in_nI (by omega) (by omega), ?_⟩
    rw [nI_clamp (show s < 2 ^ 31 by omega), (hb s (by omega)).1]
    refine ⟨fun h => ?_, fun h => ?_⟩
    · have e : k = c s := by rw [nI_leI (by omega) (by omega)] at h; omega
      subst e
      exact hK b hI
    · have hk : k < c s := by rw [nI_leI (by omega) (by omega)] at h; omega
      have hQ : PO ms c s k < cA ms c n := PO_lt hs hk
      rintro _ rfl
      rw [slotJ]
      have hK2 : ∀ u : Bool, (u = true ↔ b = true ∧ (PO ms c s k = p → okc (tl (4 * s + k)) x)) → bkX5_fits_148 kn bx tl po st nm cm K (fun v1 v3 v4 v5 => lpX5_fits_81 kn bx tl po st nm cm K k155 m v1 v3 v4 v5) (nI p) (nI s) (nI k) (z1 u) := by
        intro u eu
        unfold bkX5_fits_148
        rintro _ rfl
        rw [nI_1]
        refine ih (k + 1) u (by omega) (by omega) ?_
        rw [eu, hI, BO_s, and_assoc]
      refine br_z (fun hz => ?_) (fun hz => ⟨vp_in_nI (by omega) (by omega), ?_⟩)
      · exact hK2 false (by rw [hz]; simp)
      · rw [nI_clamp (show 4 * s + k < 2 ^ 31 by omega), hpo s k hs hk]
        refine ⟨fun he => ?_, fun he => ⟨vp_in_nI (by omega) (by omega), fun ht => ?_, fun ht => ⟨vp_in_nI (by omega) (by omega), vp_in_nI (by omega) (by omega), ?_⟩⟩⟩
        · have : PO ms c s k ≠ p := fun e => he (by rw [e])
          exact hK2 true (by rw [hz]; simp [this])
        · refine hK2 true ⟨fun _ => ⟨hz, fun _ => ?_⟩, fun _ => rfl⟩
          rcases htl s k hs hk with h3 | ⟨y, hy, h3⟩
          · exact Or.inl h3
          · rw [h3] at ht; exact absurd ht (nI_pos (by omega))
        · have e : PO ms c s k = p := nI_inj (by omega) (by omega) he
          rw [nI_clamp (by omega), hcm]
          refine ⟨fun h3 => ?_, fun h3 => ?_⟩
          · refine hK2 false ⟨fun h => absurd h (by decide), fun h => ?_⟩
            rcases h.2 e with h4 | h4
            · rw [h4] at ht; exact absurd (by decide) ht
            · exact absurd h4 h3
          · exact hK2 true ⟨fun _ => ⟨hz, fun _ => Or.inr h3⟩, fun _ => rfl⟩
theorem s_f5_69 (hn : n ≤ 10) (hb : ∀ i, i < 10 → bx i = nI (c i) ∧ c i ≤ 4 ∧ (n ≤ i → c i = 0)) (hpo : ∀ s k, s < n → k < c s → po (4 * s + k) = nI (PO ms c s k)) (htl : ∀ s k, s < n → k < c s → tl (4 * s + k) = -1 ∨ ∃ x, x < 4 ∧ tl (4 * s + k) = nI x)
    (hp : p < 40) {x : Nat} (hx : x < 4) (hcm : cm p = nI x) {a : Prop} {K : Int32 → Prop} {k161 : Int32 → Prop} (hK : ∀ b : Bool, (b = true ↔ a ∧ BO ms tl c p x n 0) → k161 (z1 b)) :
    ∀ (m s : Nat) (b : Bool), s ≤ n → n - s < m → (b = true ↔ a ∧ BO ms tl c p x s 0) → lpX5_fits_69 (nI n) bx tl po st nm cm K k161 m (nI p) (z1 b) (nI s) := by
  intro m
  induction m with
  | zero => intro k b _ h; omega
  | succ m ih =>
    intro s b h1 h2 hI
    rw [lpX5_fits_69.eq_2]
    refine ⟨fun h => ?_, fun h => ?_⟩
    · have e : s = n := by rw [nI_leI (by omega) (by omega)] at h; omega
      subst e
      exact hK b hI
    · have hs : s < n := by rw [nI_leI (by omega) (by omega)] at h; omega
      refine ⟨c s + 1, s_f5_81 hn hb hpo htl hp hx hcm hs (a := a) (fun b hb2 => ?_) (c s + 1) 0 b (by omega) (by omega) hI⟩
      rintro _ rfl
      rw [nI_1]
      refine ih (s + 1) b (by omega) (by omega) (hb2.trans (and_congr_right (fun _ => ?_)))
      constructor
      · rintro h s' k' (⟨a, b⟩ | ⟨_, b⟩) e
        · by_cases es : s' = s
          · subst es; exact h s' k' (Or.inr ⟨rfl, b⟩) e
          · exact h s' k' (Or.inl ⟨by omega, b⟩) e
        · omega
      · rintro h s' k' (⟨a, b⟩ | ⟨rfl, b⟩) e
        · exact h s' k' (Or.inl ⟨by omega, b⟩) e
        · exact h s' k' (Or.inl ⟨by omega, b⟩) e
theorem s_fits5 (hn : n ≤ 10) (hb : ∀ i, i < 10 → bx i = nI (c i) ∧ c i ≤ 4 ∧ (n ≤ i → c i = 0)) (hpo : ∀ s k, s < n → k < c s → po (4 * s + k) = nI (PO ms c s k)) (htl : ∀ s k, s < n → k < c s → tl (4 * s + k) = -1 ∨ ∃ x, x < 4 ∧ tl (4 * s + k) = nI x)
    {g : Nat → Bool} {nr : Nat → Int64} {cl : Nat → Int32} {most : Nat} (hm : most < 1000) (hp : p < 40) (hs : ∀ j, j ≤ p → st j = z1 (g j)) (hh : ∀ j, j ≤ p → cm j = nI (co j) ∧ co j < 4) (hnm : nm p = nr p) (hcl : tc (cl p) (co p) = true ↔ ∀ s k, s < n → k < c s → PO ms c s k = p → okc (tl (4 * s + k)) (co p))
    {K : Int32 → Prop} (hK : K (z1 (FT g nr cl most p co))) : wX5_fits (nI n) bx tl po st nm cm (nI p) (nI most) K := by
  have hul := ud_le g co p
  have hcp := hh p (by omega)
  unfold wX5_fits
  refine s_usedUpTo hp hs hh ?_
  have hncf : ncf nm co p p = ncf nr co p p := by
    have h1 := ncf_iff (nr := nm) (co := co) (p := p) (q := p)
    have h2 := ncf_iff (nr := nr) (co := co) (p := p) (q := p)
    rw [hnm] at h1
    have h3 := h1.trans h2.symm
    cases e1 : ncf nm co p p <;> cases e2 : ncf nr co p p <;> simp_all
  have hK2 : ∀ u : Bool, u = decide (ud g co p ≤ most) → bkX5_fits_14 (nI n) bx tl po st nm cm K (nI p) (z1 u) := by
    intro u eu
    unfold bkX5_fits_14
    refine ⟨p + 1, ?_⟩
    have h18 := s_f5_18 (nm := nm) (tl := tl) (po := po) (st := st) (a := u) (kn := nI n) (cn := bx) (K := K) (k66 := fun (v1 : Int32) (v3 : Int32) => (∃ z69, lpX5_fits_69 (nI n) bx tl po st nm cm K (fun (v3 : Int32) => (narrow .boolean (.int v3) = .int v3 ∧ K v3 )) z69 v1 v3 0)) hp hh ?_ (p + 1) 0 (by omega) (by omega)
    · rw [show (u && ncf nm co p 0) = u by show (u && true) = u; simp] at h18
      exact h18
    · refine ⟨n + 1, s_f5_69 hn hb hpo htl hp hcp.2 hcp.1 (a := (u && ncf nm co p p) = true) (fun b hb2 => ⟨z1_nar _, ?_⟩) (n + 1) 0 _ (by omega) (by omega) ⟨fun h => ⟨h, ?_⟩, fun h => h.1⟩⟩
      · rintro s' k' (⟨a, _⟩ | ⟨_, a⟩) <;> omega
      · have e : b = FT g nr cl most p co := by
          have h4 : BO ms tl c p (co p) n 0 ↔ tc (cl p) (co p) = true := by
            rw [hcl]
            constructor
            · intro h s k hs hk e
              exact h s k (Or.inl ⟨hs, hk⟩) e
            · rintro h s k (⟨a, b⟩ | ⟨_, b⟩) e
              · exact h s k a b e
              · omega
          rw [h4, hncf, eu] at hb2
          unfold FT
          rw [← Bool.and_eq_true] at hb2
          cases b <;> cases e2 : ((decide (ud g co p ≤ most) && ncf nr co p p) && tc (cl p) (co p)) <;> simp_all
        rw [e]; exact hK
  refine ⟨fun h => ?_, fun h => ?_⟩
  · rw [nI_ltI (by omega) (by omega)] at h
    exact hK2 false (by rw [decide_eq_false (by omega)])
  · rw [nI_ltI (by omega) (by omega)] at h
    exact hK2 true (by rw [decide_eq_true (by omega)])
end FITS
