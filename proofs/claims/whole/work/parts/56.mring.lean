section MRG
variable {N : Nat} {nr nm : Nat → Int64}
theorem s_walk (hG : GR N nr) (hnm : ∀ p, p < N → nm p = nr p) {p size : Nat} (hp : p < N) (hs : size ≤ 41) {re : Nat → Int64} {K : (Nat → Int64) → Prop} (hK : ∀ re : Nat → Int64, (∀ k, k ≤ size → ∀ j, tb (re k) j = true ↔ Wk N nr p k j) → K re) : wX5_walk (nI N) nm re (nI p) (nI size) K := by
  have hN := hG.1
  have key : ∀ (m k : Nat) (re : Nat → Int64), 1 ≤ k → k ≤ size + 1 → size + 1 - k < m → (∀ i, i < k → ∀ j, tb (re i) j = true ↔ Wk N nr p i j) → lpX5_walk_11 (nI N) nm K (fun re => K re) m re (nI size) (nI k) := by
    intro m
    induction m with
    | zero => intro k re _ _ h; omega
    | succ m ih =>
      intro k re h0 h1 h2 hI
      rw [lpX5_walk_11.eq_2, nI_ltI (by omega) (by omega)]
      refine ⟨fun h => hK re (fun i hi => hI i (by omega)), fun h => ?_⟩
      rw [sub1 h0, nI_clamp (show k - 1 < 2 ^ 31 by omega)]
      refine ⟨vp_in_nI (by omega) (by omega), s_around hN hnm (fun r hr => ⟨vp_in_nI (by omega) (by omega), ?_⟩)⟩
      rintro _ rfl _ rfl
      rw [nI_1, nI_clamp (by omega)]
      refine ih (k + 1) _ (by omega) (by omega) (by omega) (fun i hi j => ?_)
      by_cases e : i = k
      · subst e
        rw [uL_s, hr j]
        constructor
        · rintro ⟨x, a1, a2, a3⟩
          rw [show i = i - 1 + 1 by omega]
          exact ⟨x, a1, (hI (i - 1) (by omega) x).mp a2, a3⟩
        · intro h
          rw [show i = i - 1 + 1 by omega] at h
          obtain ⟨x, a1, a2, a3⟩ := h
          exact ⟨x, a1, (hI (i - 1) (by omega) x).mpr a2, a3⟩
      · rw [uL_n e]; exact hI i (by omega) j
  refine ⟨vp_in_nI (n := 0) (by omega) (by omega), ?_⟩
  rintro _ rfl
  refine ⟨size + 2, key (size + 2) 1 _ (by omega) (by omega) (by omega) (fun i hi j => ?_)⟩
  have e : i = 0 := by omega
  subst e
  show tb (vp_updL re 0 (b1 p) 0) j = true ↔ _
  rw [uL_s, tb_b1 (by omega), decide_eq_true_eq]
  exact Iff.rfl
theorem s_take22 (hG : GR N nr) (hnm : ∀ p, p < N → nm p = nr p) {M k a p : Nat} (hM : M ≤ 40) (hk : 1 ≤ k) (hkM : k < M) (ha : a < N) {re : Nat → Int64} (hre : ∀ j, tb (re (M - k)) j = true ↔ Wk N nr p (M - k) j) {rg : Nat → Int32} (hrg : rg (k - 1) = nI a) (hex : ∃ j, j < N ∧ tb (nr a) j = true ∧ Wk N nr p (M - k) j)
    {kr : Int32} {K : (Int32 × (Nat → Int32)) → Prop} {k63 : Int32 → (Nat → Int32) → Int32 → Int32 → Int32 → Prop} (hK : ∀ j, j < N → tb (nr a) j = true → Wk N nr p (M - k) j → (∀ i, i < j → ¬ (tb (nr a) i = true ∧ Wk N nr p (M - k) i)) → k63 kr rg (nI M) (nI k) (nI j)) :
    ∃ z, lpX5_takeRing_22 nm re K k63 z kr rg (nI M) (nI k) 0 := by
  have hN := hG.1
  obtain ⟨j0, hj0, hj1, hj2⟩ := hex
  have key : ∀ (m i : Nat), i ≤ j0 → j0 - i < m → (∀ i', i' < i → ¬ (tb (nr a) i' = true ∧ Wk N nr p (M - k) i')) → lpX5_takeRing_22 nm re K k63 m kr rg (nI M) (nI k) (nI i) := by
    intro m
    induction m with
    | zero => intro i _ h; omega
    | succ m ih =>
      intro i h1 h2 hI
      have nxt : ¬ (tb (nr a) i = true ∧ Wk N nr p (M - k) i) → bkX5_takeRing_57 nm re K (fun kr rg v2 v3 v4 => lpX5_takeRing_22 nm re K k63 m kr rg v2 v3 v4) kr rg (nI M) (nI k) (nI i) := by
        intro hno
        unfold bkX5_takeRing_57
        rintro _ rfl
        rw [nI_1]
        have : i ≠ j0 := fun e => hno (by rw [e]; exact ⟨hj1, hj2⟩)
        refine ih (i + 1) (by omega) (by omega) (fun i' hi' => ?_)
        by_cases e : i' = i
        · subst e; exact hno
        · exact hI i' (by omega)
      rw [lpX5_takeRing_22.eq_2, sub1 hk, nI_clamp (show k - 1 < 2 ^ 31 by omega), hrg, pk_sub (by omega), nI_clamp (show M - k < 2 ^ 31 by omega), lg_0, shr_0 _ (by omega)]
      refine ⟨vp_in_nI (by omega) (by omega), s_areNear5 (by omega) (by omega) ?_⟩
      rw [hnm a ha]
      refine br_z (fun hz => nxt (fun h => by rw [hz] at h; exact absurd h.1 (by decide))) (fun hz => ⟨vp_in_nI (by omega) (by omega), fun hw => ?_, fun hw => nxt (fun h => ?_)⟩)
      · have hw1 : tb (re (M - k)) i = true := by simpa using hw
        exact hK i (by omega) hz ((hre i).mp hw1) hI
      · have := (hre i).mpr h.2
        rw [hw] at this
        exact absurd this (by decide)
  exact ⟨j0 + 1, key (j0 + 1) 0 (by omega) (by omega) (fun i' hi' => by omega)⟩
theorem s_takeRing (hG : GR N nr) (hnm : ∀ p, p < N → nm p = nr p) {M p : Nat} (hM : MinO N nr M p) {re : Nat → Int64} (hre : ∀ k, k ≤ M → ∀ j, tb (re k) j = true ↔ Wk N nr p k j) {kr : Int32} {rg : Nat → Int32} {K : (Int32 × (Nat → Int32)) → Prop} (hK : ∀ rg, RG N nr (nI M) rg → K (nI M, rg)) : wX5_takeRing nm re kr rg (nI p) (nI M) K := by
  have hN := hG.1
  have hMN := hM.2.2.2.1
  have hM3 := hM.2.2.1
  have key : ∀ (m k : Nat) (rg : Nat → Int32) (r : Nat → Nat), 1 ≤ k → k ≤ M → M - k < m → ROW N nr p M r k → (∀ i, i < k → rg i = nI (r i)) → lpX5_takeRing_14 nm re K (fun kr rg => K (kr, rg)) m (nI M) rg (nI M) (nI k) := by
    intro m
    induction m with
    | zero => intro k rg r _ _ h; omega
    | succ m ih =>
      intro k rg r h0 h1 h2 hR hrg
      rw [lpX5_takeRing_14.eq_2, nI_leI (by omega) (by omega)]
      refine ⟨fun h => ?_, fun h => ?_⟩
      · have e : k = M := by omega
        subst e
        exact hK rg (Or.inr ⟨k, p, r, rfl, hM, hR, hrg⟩)
      · have hkM : k < M := by omega
        obtain ⟨c1, c2⟩ := ROW_W hM.1 hR (k - 1) (by omega)
        refine s_take22 hG hnm (by omega) h0 hkM c1 (hre (M - k) (by omega)) (hrg (k - 1) (by omega)) (ROW_nx hG hM hR h0 hkM) (fun j j1 j2 j3 j4 => ⟨vp_in_nI (by omega) (by omega), ?_⟩)
        rintro _ rfl _ rfl
        rw [nI_1, nI_clamp (by omega)]
        refine ih (k + 1) _ (uN r k j) (by omega) (by omega) (by omega) (ROW_ext hR h0 j1 j2 j3 j4) (fun i hi => ?_)
        by_cases e : i = k
        · subst e; rw [u_s, uN_s]
        · rw [u_n e, uN_n e]; exact hrg i (by omega)
  refine ⟨vp_in_nI (n := 0) (by omega) (by omega), ?_⟩
  rintro _ rfl
  refine ⟨M + 1, key (M + 1) 1 _ (fun _ => p) (by omega) (by omega) (by omega) ⟨rfl, fun k k1 k2 => by omega⟩ (fun i hi => ?_)⟩
  have e : i = 0 := by omega
  subst e
  exact u_s
section FR
variable {kd kn : Int32} {cn xs ys x2 y2 my po so st : Nat → Int32} {K : (Int32 × Int32 × (Nat → Int32) × (Nat → Int32) × (Nat → Int32) × (Nat → Int64) × (Nat → Int32) × (Nat → Int64)) → Prop}
theorem s_fr28 (hG : GR N nr) (hnm : ∀ p, p < N → nm p = nr p) {s : Nat} (hs : s % 2 = 1) (hs3 : 3 ≤ s) (hsN : s ≤ N) (hmin : ∀ q, q < N → ∀ s', s' % 2 = 1 → s' < s → ¬ Wk N nr q s' q)
    {k76 : Int32 → Int32 → (Nat → Int32) → (Nat → Int32) → (Nat → Int32) → (Nat → Int64) → (Nat → Int32) → (Nat → Int64) → Int32 → Prop} (hK : ∀ kr rg re, ((kr = 0 ∧ ∀ q, q < N → ¬ Wk N nr q s q) ∨ (¬ kr = 0 ∧ RG N nr kr rg)) → k76 (nI N) kr po so st nm rg re (nI s)) :
    ∀ (m i : Nat) (kr : Int32) (rg : Nat → Int32) (re : Nat → Int64), i ≤ N → N - i < m → ((kr = 0 ∧ ∀ q, q < i → ¬ Wk N nr q s q) ∨ (¬ kr = 0 ∧ RG N nr kr rg)) → lpX5_findRing_28 kd kn cn xs ys x2 y2 my K k76 m (nI N) kr po so st nm rg re (nI s) (nI i) := by
  have hN := hG.1
  intro m
  induction m with
  | zero => intro i kr rg re _ h; omega
  | succ m ih =>
    intro i kr rg re h1 h2 hI
    rw [lpX5_findRing_28.eq_2, nI_leI (by omega) (by omega)]
    refine ⟨fun h => ?_, fun h => ⟨fun h3 => ?_, fun h3 => ?_⟩⟩
    · have e : i = N := by omega
      subst e; exact hK _ _ _ hI
    · rcases hI with ⟨a, _⟩ | hR
      · exact absurd a h3
      · exact hK _ _ _ (Or.inr hR)
    · rcases hI with ⟨rfl, hq⟩ | hR
      · refine s_walk hG hnm (show i < N by omega) (by omega) (fun re hre => ⟨vp_in_nI (by omega) (by omega), ?_⟩)
        rw [nI_clamp (by omega), lg_0, shr_1 _ (by omega), hre s (Nat.le_refl _) i]
        refine ⟨fun hw => ?_, fun hw => ?_⟩
        · unfold bkX5_findRing_70
          rintro _ rfl
          rw [nI_1]
          refine ih (i + 1) 0 rg re (by omega) (by omega) (Or.inl ⟨rfl, fun q hq2 => ?_⟩)
          by_cases e : q = i
          · subst e; exact hw
          · exact hq q (by omega)
        · refine s_takeRing hG hnm (mkMin hG (show i < N by omega) hs hw hmin hq) hre (fun rg hR => ?_)
          unfold bkX5_findRing_70
          rintro _ rfl
          rw [nI_1]
          refine ih (i + 1) (nI s) rg re (by omega) (by omega) (Or.inr ⟨fun e => ?_, hR⟩)
          have := nI_inj (a := s) (b := 0) (by omega) (by omega) e
          omega
      · exact absurd h3 hR.1
theorem s_fr11 (hG : GR N nr) (hnm : ∀ p, p < N → nm p = nr p) 
    {k82 : Int32 → Int32 → (Nat → Int32) → (Nat → Int32) → (Nat → Int32) → (Nat → Int64) → (Nat → Int32) → (Nat → Int64) → Prop} (hK : ∀ kr rg re, RG N nr kr rg → k82 (nI N) kr po so st nm rg re) :
    ∀ (m s : Nat) (kr : Int32) (rg : Nat → Int32) (re : Nat → Int64), s % 2 = 1 → 3 ≤ s → s ≤ 45 → N + 1 - s < m → ((kr = 0 ∧ ∀ q, q < N → ∀ s', s' % 2 = 1 → s' < s → ¬ Wk N nr q s' q) ∨ (¬ kr = 0 ∧ RG N nr kr rg)) → lpX5_findRing_11 kd kn cn xs ys x2 y2 my K k82 m (nI N) kr po so st nm rg re (nI s) := by
  have hN := hG.1
  intro m
  induction m with
  | zero => intro s kr rg re _ _ _ h; omega
  | succ m ih =>
    intro s kr rg re hs hs3 hs45 h2 hI
    rw [lpX5_findRing_11.eq_2, nI_ltI (by omega) (by omega)]
    refine ⟨fun h => ?_, fun h => ⟨fun h3 => ?_, fun h3 => ?_⟩⟩
    · rcases hI with ⟨rfl, hq⟩ | hR
      · exact hK _ _ _ (Or.inl ⟨rfl, mkNo hG (fun q hq1 s' a1 a2 a3 => hq q hq1 s' a1 (by omega))⟩)
      · exact hK _ _ _ hR.2
    · rcases hI with ⟨a, _⟩ | hR
      · exact absurd a h3
      · exact hK _ _ _ hR.2
    · rcases hI with ⟨rfl, hq⟩ | hR
      · refine ⟨N + 1, s_fr28 hG hnm hs hs3 (by omega) hq (fun kr rg re hI2 => ?_) (N + 1) 0 0 rg re (by omega) (by omega) (Or.inl ⟨rfl, fun q hq2 => by omega⟩)⟩
        rintro _ rfl
        rw [show (2 : Int32) = nI 2 from rfl, nI_add]
        refine ih (s + 2) kr rg re (by omega) (by omega) (by omega) (by omega) ?_
        rcases hI2 with ⟨rfl, h4⟩ | hR
        · refine Or.inl ⟨rfl, fun q hq1 s' a1 a2 => ?_⟩
          by_cases e : s' = s
          · subst e; exact h4 q hq1
          · exact hq q hq1 s' a1 (by omega)
        · exact Or.inr hR
      · exact absurd h3 hR.1
end FR
end MRG
theorem s_findRing {pg ps : Int32} {bx xl xr yl yh ms wt : Nat → Int32} {d n : Nat} {c : Nat → Nat} (hp : PLN pg ps bx xl xr yl yh ms wt d n c) {nq : Int32} {nr : Nat → Int64} (hr : NI d xl xr yl yh ms c n Full nq nr)
    {kp kr : Int32} {po so st : Nat → Int32} {nm : Nat → Int64} {rg : Nat → Int32} {re : Nat → Int64} {K : (Int32 × Int32 × (Nat → Int32) × (Nat → Int32) × (Nat → Int32) × (Nat → Int64) × (Nat → Int32) × (Nat → Int64)) → Prop}
    (hK : ∀ kp kr po so st nm rg re, MPR d n c xl xr yl yh ms kp po st nm → RG (cA ms c n) nr kr rg → K (kp, kr, po, so, st, nm, rg, re)) : wX5_findRing pg ps bx xl yl xr yh ms kp kr po so st nm rg re K := by
  have hp0 := hp
  obtain ⟨⟨rfl, hd1, hd2⟩, ⟨rfl, hn⟩, hb, hu, hv⟩ := hp0
  have hG := NI_GR hn (fun i hi => (hb i hi).2.1) hr
  have hco : ∀ s k, s < n → k < c s → COK xl xr yl yh (4 * s + k) := fun s k hs hk => (hu s k hs hk).1
  refine s_findParts hp (fun kp po so st nm hM => ?_)
  have hM0 := hM
  obtain ⟨rfl, m2, m3, m4⟩ := hM0
  refine ⟨cA ms c n + 2, s_fr11 hG (MI_eq hco hr m4) (fun kr rg re hR => hK _ _ _ _ _ _ _ _ hM hR) (cA ms c n + 2) 3 0 rg re (by omega) (by omega) (by omega) (by omega) (Or.inl ⟨rfl, fun q hq s' a1 a2 => ?_⟩)⟩
  have e : s' = 1 := by omega
  subst e
  exact W_1 hG
