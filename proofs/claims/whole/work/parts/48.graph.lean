def GR (N : Nat) (nr : Nat → Int64) : Prop := N ≤ 40 ∧ ∀ p, p < N → ∀ j, tb (nr p) j = true → j < N ∧ j ≠ p ∧ tb (nr j) p = true
theorem NI_GR {d n : Nat} {c : Nat → Nat} {xl xr yl yh ms : Nat → Int32} (hn : n ≤ 10) (hc : ∀ i, i < 10 → c i ≤ 4) {nq : Int32} {nr : Nat → Int64} (h : NI d xl xr yl yh ms c n Full nq nr) : GR (cA ms c n) nr := by
  refine ⟨Nat.le_trans (cA_le hc hn) (by omega), fun p hp j hj => ?_⟩
  have h1 := (h.1 p hp j).mp hj
  have h2 : j < cA ms c n := by
    obtain ⟨s, t, k, i, ⟨a1, a2, a3, a4⟩, _, _, (⟨a6, a7⟩ | ⟨a6, a7⟩)⟩ := h1
    · rw [← a7]; exact PO_lt a2 a4
    · rw [← a7]; exact PO_lt (by omega) a3
  refine ⟨h2, ?_, (h.1 j h2 p).mpr (NB_sym h1)⟩
  obtain ⟨s, t, k, i, ⟨a1, a2, a3, a4⟩, _, _, (⟨a6, a7⟩ | ⟨a6, a7⟩)⟩ := h1
  · have := PO_ap (ms := ms) (i := i) a1 a3; omega
  · have := PO_ap (ms := ms) (i := i) a1 a3; omega
theorem MI_eq {d n : Nat} {c : Nat → Nat} {xl xr yl yh ms : Nat → Int32} (hco : ∀ s k, s < n → k < c s → COK xl xr yl yh (4 * s + k)) {nq : Int32} {nr nm : Nat → Int64} (h : NI d xl xr yl yh ms c n Full nq nr) (hm : MI d xl xr yl yh ms c n Full nm) : ∀ p, p < cA ms c n → nm p = nr p := by
  intro p hp
  apply tb_ext
  intro j _
  have h1 := (h.1 p hp j).trans ((NB_MNB hco).trans (hm p hp j).symm)
  cases e1 : tb (nm p) j <;> cases e2 : tb (nr p) j <;> simp_all
theorem cntB_0 {f : Nat → Bool} : ∀ {k : Nat}, (∀ j, j < k → f j = false) → cntB f k = 0
  | 0, _ => rfl
  | k + 1, h => by show cntB f k + (if f k then 1 else 0) = 0; rw [cntB_0 (fun j hj => h j (by omega)), h k (by omega)]; rfl
theorem cntB_s (f : Nat → Bool) (k : Nat) : cntB f (k + 1) = cntB f k + (if f k then 1 else 0) := rfl
theorem cntB_mono (f : Nat → Bool) {k j : Nat} (h : k ≤ j) : cntB f k ≤ cntB f j := by
  induction h with
  | refl => exact Nat.le_refl _
  | step _ ih => rw [cntB_s]; omega
theorem sumN_s (f : Nat → Nat) (k : Nat) : sumN f (k + 1) = sumN f k + f k := rfl
theorem sumN_mono (f : Nat → Nat) {k j : Nat} (h : k ≤ j) : sumN f k ≤ sumN f j := by
  induction h with
  | refl => exact Nat.le_refl _
  | step _ ih => rw [sumN_s]; omega
theorem s_areNear5 {nr : Nat → Int64} {p j : Nat} (hp : p < 40) (hj : j < 64) {K : Int32 → Prop} (h : K (z1 (tb (nr p) j))) : wX5_areNear nr (nI p) (nI j) K := by
  unfold wX5_areNear
  refine ⟨vp_in_nI hp (by omega), ?_⟩
  rw [nI_clamp (by omega), lg_0, shr_1 _ hj]
  refine ⟨fun c => ?_, fun c => by rw [c] at h; exact h⟩
  have : tb (nr p) j = false := by simpa using c
  rw [this] at h; exact h
def fP (nr : Nat → Int64) (p q : Nat) : Bool := decide (p < q) && tb (nr p) q
def gP (nr : Nat → Int64) (N p : Nat) : Nat := cntB (fP nr p) N
theorem PC_eq (nr : Nat → Int64) (N : Nat) : PC nr N = sumN (gP nr N) N := rfl
theorem nIadd (a b : Nat) : nI a + nI b = nI (a + b) := nI_add a b
theorem s_pairs16 {nr : Nat → Int64} {N p A : Nat} (hN : N ≤ 40) (hp : p < N) {K : Int32 → Prop} {k47 : Int32 → Int32 → Prop} (hK : k47 (nI (A + gP nr N p)) (nI p)) :
    ∀ (m q : Nat), p < q → q ≤ N → N - q < m → lpX5_pairs_16 (nI N) nr K k47 m (nI (A + cntB (fP nr p) q)) (nI p) (nI q) := by
  intro m
  induction m with
  | zero => intro q _ _ h; omega
  | succ m ih =>
    intro q h0 h1 h2
    rw [lpX5_pairs_16.eq_2]
    refine ⟨fun h => ?_, fun h => ?_⟩
    · have e : q = N := by rw [nI_leI (by omega) (by omega)] at h; omega
      subst e; exact hK
    · have hq : q < N := by rw [nI_leI (by omega) (by omega)] at h; omega
      have hn := ih (q + 1) (by omega) (by omega) (by omega)
      rw [cntB_s] at hn
      apply s_areNear5 (by omega) (by omega)
      refine br_z (fun hz => ?_) (fun hz => ?_)
      · unfold bkX5_pairs_39
        rintro _ rfl _ rfl
        rw [show (0 : Int32) = nI 0 from rfl, nI_add, nI_1]
        have e : fP nr p q = false := by unfold fP; rw [hz]; simp
        rw [e] at hn
        exact hn
      · unfold bkX5_pairs_39
        rintro _ rfl _ rfl
        rw [nI_1, nI_1]
        have e : fP nr p q = true := by unfold fP; rw [hz]; simp [h0]
        rw [e] at hn
        exact hn
theorem s_pairs {nr : Nat → Int64} {N : Nat} (hN : N ≤ 40) {K : Int32 → Prop} (hK : K (nI (PC nr N))) : wX5_pairs (nI N) nr K := by
  have key : ∀ (m p : Nat), p ≤ N → N - p < m → lpX5_pairs_4 (nI N) nr K (fun v1 => K v1) m (nI (sumN (gP nr N) p)) (nI p) := by
    intro m
    induction m with
    | zero => intro q _ h; omega
    | succ m ih =>
      intro p h1 h2
      rw [lpX5_pairs_4.eq_2]
      refine ⟨fun h => ?_, fun h => ?_⟩
      · have e : p = N := by rw [nI_leI (by omega) (by omega)] at h; omega
        subst e; exact hK
      · have hp : p < N := by rw [nI_leI (by omega) (by omega)] at h; omega
        rintro _ rfl
        rw [nI_1]
        have hs := s_pairs16 (nr := nr) (A := sumN (gP nr N) p) (K := K) (k47 := fun (v1 : Int32) (v2 : Int32) => (∀ i9 : Int32, i9 = v2 + 1 → lpX5_pairs_4 (nI N) nr K (fun v1 => K v1) m v1 i9)) hN hp ?_ (N + 1) (p + 1) (by omega) (by omega) (by omega)
        · rw [cntB_0 (f := fP nr p) (k := p + 1) (fun j hj => by unfold fP; rw [decide_eq_false (by omega)]; rfl)] at hs
          exact ⟨N + 1, hs⟩
        · rintro _ rfl
          rw [nI_1]
          have := ih (p + 1) (by omega) (by omega)
          rw [sumN_s] at this
          exact this
  exact ⟨N + 1, key (N + 1) 0 (by omega) (by omega)⟩
theorem s_stitches {st : Nat → Int32} {g : Nat → Bool} {N : Nat} (hN : N ≤ 40) (hs : ∀ p, p < N → st p = z1 (g p)) {K : Int32 → Prop} (hK : K (nI (cntB g N))) : wX5_stitches (nI N) st K := by
  have key : ∀ (m p : Nat), p ≤ N → N - p < m → lpX5_stitches_4 (nI N) st K (fun v1 => K v1) m (nI (cntB g p)) (nI p) := by
    intro m
    induction m with
    | zero => intro q _ h; omega
    | succ m ih =>
      intro p h1 h2
      rw [lpX5_stitches_4.eq_2]
      refine ⟨fun h => ?_, fun h => ?_⟩
      · have e : p = N := by rw [nI_leI (by omega) (by omega)] at h; omega
        subst e; exact hK
      · have hp : p < N := by rw [nI_leI (by omega) (by omega)] at h; omega
        refine ⟨vp_in_nI (by omega) (by omega), ?_⟩
        rw [nI_clamp (by omega), hs p hp]
        have hn := ih (p + 1) (by omega) (by omega)
        rw [cntB_s] at hn
        refine br_z (fun hz => ?_) (fun hz => ?_)
        · unfold bkX5_stitches_27
          rintro _ rfl _ rfl
          rw [show (0 : Int32) = nI 0 from rfl, nI_add, nI_1]
          rw [hz] at hn
          exact hn
        · unfold bkX5_stitches_27
          rintro _ rfl _ rfl
          rw [nI_1, nI_1]
          rw [hz] at hn
          exact hn
  exact ⟨N + 1, key (N + 1) 0 (by omega) (by omega)⟩
def IsP (nr : Nat → Int64) (N k p q : Nat) : Prop := p < q ∧ q < N ∧ tb (nr p) q = true ∧ sumN (gP nr N) p + cntB (fP nr p) q = k
theorem IsP_le {nr : Nat → Int64} {N k k' p q p' q' : Nat} (h : IsP nr N k p q) (h' : IsP nr N k' p' q') (hl : p < p' ∨ (p = p' ∧ q < q')) : k < k' := by
  obtain ⟨a1, a2, a3, a4⟩ := h
  obtain ⟨b1, b2, b3, b4⟩ := h'
  have hf : cntB (fP nr p) (q + 1) = cntB (fP nr p) q + 1 := by
    rw [cntB_s]
    have : fP nr p q = true := by unfold fP; rw [a3]; simp [a1]
    rw [this]; rfl
  rcases hl with h | ⟨rfl, h⟩
  · have h1 := sumN_mono (gP nr N) (k := p + 1) (j := p') h
    rw [sumN_s] at h1
    have h2 := cntB_mono (fP nr p) (k := q + 1) (j := N) a2
    have h3 : gP nr N p = cntB (fP nr p) N := rfl
    omega
  · have h2 := cntB_mono (fP nr p) (k := q + 1) (j := q') h
    omega
theorem IsP_uniq {nr : Nat → Int64} {N k p q p' q' : Nat} (h : IsP nr N k p q) (h' : IsP nr N k p' q') : p = p' ∧ q = q' := by
  have h1 : ¬ (p < p' ∨ (p = p' ∧ q < q')) := fun e => Nat.lt_irrefl _ (IsP_le h h' e)
  have h2 : ¬ (p' < p ∨ (p' = p ∧ q' < q)) := fun e => Nat.lt_irrefl _ (IsP_le h' h e)
  omega
theorem nI_dec {a : Nat} (h : 1 ≤ a) : nI a + (-1) = nI (a - 1) := by
  rw [← sub1 h, Int32.sub_eq_add_neg]
theorem s_pop20 {nr : Nat → Int64} {N p k : Nat} (hN : N ≤ 40) (hk : k < 2000) (hp : p < N) {v2 : Int32} {K : Int32 → Prop} {k44 k65 : Int32 → Int32 → Int32 → Prop} (h44 : ∀ q, IsP nr N k p q → k44 v2 (nI p) (nI q)) (h65 : ∀ r, k = r + sumN (gP nr N) (p + 1) → k65 v2 (nI r) (nI p)) :
    ∀ (m q r : Nat), p < q → q ≤ N → N - q < m → k = r + sumN (gP nr N) p + cntB (fP nr p) q → lpX0_partOfPair_20 (nI N) nr K k44 k65 m v2 (nI r) (nI p) (nI q) := by
  intro m
  induction m with
  | zero => intro q r _ _ h; omega
  | succ m ih =>
    intro q r h0 h1 h2 hi
    rw [lpX0_partOfPair_20.eq_2]
    refine ⟨fun h => ?_, fun h => ?_⟩
    · have e : q = N := by rw [nI_leI (by omega) (by omega)] at h; omega
      subst e
      refine h65 r ?_
      rw [sumN_s]
      have h3 : gP nr q p = cntB (fP nr p) q := rfl
      omega
    · have hq : q < N := by rw [nI_leI (by omega) (by omega)] at h; omega
      have hcs := cntB_s (fP nr p) q
      apply s_areNear (by omega) (by omega)
      refine br_z (fun hz => ?_) (fun hz => ?_)
      · have e : fP nr p q = false := by unfold fP; rw [hz]; simp
        rw [e] at hcs
        unfold bkX0_partOfPair_59
        rintro _ rfl
        rw [nI_1]
        exact ih (q + 1) r (by omega) (by omega) (by omega) (by rw [hcs]; exact hi)
      · have e : fP nr p q = true := by unfold fP; rw [hz]; simp [h0]
        rw [e] at hcs
        refine ⟨fun hr => ?_, fun hr => ?_⟩
        · have hr1 : r ≠ 0 := fun e => hr (by rw [e]; rfl)
          rintro _ rfl
          unfold bkX0_partOfPair_59
          rintro _ rfl
          rw [nI_1, nI_dec (by omega)]
          exact ih (q + 1) (r - 1) (by omega) (by omega) (by omega) (by rw [hcs]; simp only [if_true]; omega)
        · have hr1 : r = 0 := by rw [show (0 : Int32) = nI 0 from rfl] at hr; exact nI_inj (by omega) (by omega) hr
          exact h44 q ⟨h0, hq, hz, by omega⟩
theorem s_partOfPair {nr : Nat → Int64} {N k : Nat} (hN : N ≤ 40) (hk : k < PC nr N) {v2 : Int32} {K : Int32 → Prop} (hK : ∀ p q, IsP nr N k p q → (¬ v2 = 0 → K (nI q)) ∧ (v2 = 0 → K (nI p))) : wX0_partOfPair (nI N) nr (nI k) v2 K := by
  have hk2 : k < 2000 := by
    have := PC_le nr N
    have h2 : N * N ≤ 40 * 40 := Nat.mul_le_mul hN hN
    omega
  have key : ∀ (m p r : Nat), p ≤ N → N - p < m → k = r + sumN (gP nr N) p → lpX0_partOfPair_5 (nI N) nr K (fun (v2 : Int32) (v4 : Int32) (v5 : Int32) => ((¬ v2 = 0 → K v5 ) ∧ (v2 = 0 → K v4 ))) (K (-1)) m v2 (nI r) (nI p) := by
    intro m
    induction m with
    | zero => intro p r _ h; omega
    | succ m ih =>
      intro p r h1 h2 hi
      rw [lpX0_partOfPair_5.eq_2]
      refine ⟨fun h => ?_, fun h => ?_⟩
      · have e : p = N := by rw [nI_leI (by omega) (by omega)] at h; omega
        subst e
        rw [PC_eq] at hk
        omega
      · have hp : p < N := by rw [nI_leI (by omega) (by omega)] at h; omega
        rintro _ rfl
        rw [nI_1]
        refine ⟨N + 1, s_pop20 hN hk2 hp (fun q hq => hK p q hq) (fun r' hr => ?_) (N + 1) (p + 1) r (by omega) (by omega) (by omega) ?_⟩
        · rintro _ rfl
          rw [nI_1]
          exact ih (p + 1) r' (by omega) (by omega) hr
        · rw [cntB_0 (f := fP nr p) (k := p + 1) (fun j hj => by unfold fP; rw [decide_eq_false (by omega)]; rfl)]
          exact hi
  exact ⟨N + 1, key (N + 1) 0 k (by omega) (by omega) (by show k = k + 0; omega)⟩
section PR5
variable {kd kn : Int32} {cn xs ys x2 y2 my : Nat → Int32}
theorem s_pop70 {nr : Nat → Int64} {N p k : Nat} (hN : N ≤ 40) (hk : k < 2000) (hp : p < N) {kc v2 : Int32} {po so st : Nat → Int32} {K : Int32 → (Int32 × Int32 × (Nat → Int32) × (Nat → Int32) × (Nat → Int32) × (Nat → Int64)) → Prop} {k94 k115 : Int32 → Int32 → (Nat → Int32) → (Nat → Int32) → (Nat → Int32) → (Nat → Int64) → Int32 → Int32 → Int32 → Prop}
    (h44 : ∀ q, IsP nr N k p q → k94 kc (nI N) po so st nr v2 (nI p) (nI q)) (h65 : ∀ r, k = r + sumN (gP nr N) (p + 1) → k115 kc (nI N) po so st nr v2 (nI r) (nI p)) :
    ∀ (m q r : Nat), p < q → q ≤ N → N - q < m → k = r + sumN (gP nr N) p + cntB (fP nr p) q → lpX5_pair_70 kd kn cn xs ys x2 y2 my K k94 k115 m kc (nI N) po so st nr v2 (nI r) (nI p) (nI q) := by
  intro m
  induction m with
  | zero => intro q r _ _ h; omega
  | succ m ih =>
    intro q r h0 h1 h2 hi
    rw [lpX5_pair_70.eq_2]
    refine ⟨fun h => ?_, fun h => ?_⟩
    · have e : q = N := by rw [nI_leI (by omega) (by omega)] at h; omega
      subst e
      refine h65 r ?_
      rw [sumN_s]
      have h3 : gP nr q p = cntB (fP nr p) q := rfl
      omega
    · have hq : q < N := by rw [nI_leI (by omega) (by omega)] at h; omega
      have hcs := cntB_s (fP nr p) q
      apply s_areNear5 (by omega) (by omega)
      refine br_z (fun hz => ?_) (fun hz => ?_)
      · have e : fP nr p q = false := by unfold fP; rw [hz]; simp
        rw [e] at hcs
        unfold bkX5_pair_109
        rintro _ rfl
        rw [nI_1]
        exact ih (q + 1) r (by omega) (by omega) (by omega) (by rw [hcs]; exact hi)
      · have e : fP nr p q = true := by unfold fP; rw [hz]; simp [h0]
        rw [e] at hcs
        refine ⟨fun hr => ?_, fun hr => ?_⟩
        · have hr1 : r ≠ 0 := fun e => hr (by rw [e]; rfl)
          rintro _ rfl
          unfold bkX5_pair_109
          rintro _ rfl
          rw [nI_1, nI_dec (by omega)]
          exact ih (q + 1) (r - 1) (by omega) (by omega) (by omega) (by rw [hcs]; simp only [if_true]; omega)
        · have hr1 : r = 0 := by rw [show (0 : Int32) = nI 0 from rfl] at hr; exact nI_inj (by omega) (by omega) hr
          exact h44 q ⟨h0, hq, hz, by omega⟩
theorem s_pair40 {nr : Nat → Int64} {N k : Nat} (hN : N ≤ 40) (hk : k < PC nr N) {kc v2 : Int32} {po so st : Nat → Int32} {K : Int32 → (Int32 × Int32 × (Nat → Int32) × (Nat → Int32) × (Nat → Int32) × (Nat → Int64)) → Prop} (hK : ∀ p q, IsP nr N k p q → (¬ v2 = 0 → K (nI q) (0, nI N, po, so, st, nr)) ∧ (v2 = 0 → K (nI p) (0, nI N, po, so, st, nr))) : bkX5_pair_40 kd kn cn xs ys x2 y2 my K kc (nI N) po so st nr (nI k) v2 0 := by
  have hk2 : k < 2000 := by
    have := PC_le nr N
    have h2 : N * N ≤ 40 * 40 := Nat.mul_le_mul hN hN
    omega
  have key : ∀ (m p r : Nat), p ≤ N → N - p < m → k = r + sumN (gP nr N) p → lpX5_pair_48 kd kn cn xs ys x2 y2 my K (fun (kc : Int32) (kp : Int32) (po : (Nat → Int32)) (so : (Nat → Int32)) (st : (Nat → Int32)) (nr : (Nat → Int64)) (v2 : Int32) (v4 : Int32) (v5 : Int32) => ((¬ v2 = 0 → K v5 (kc, kp, po, so, st, nr)) ∧ (v2 = 0 → K v4 (kc, kp, po, so, st, nr)))) (fun (kc : Int32) (kp : Int32) (po : (Nat → Int32)) (so : (Nat → Int32)) (st : (Nat → Int32)) (nr : (Nat → Int64)) => K 0 (kc, kp, po, so, st, nr)) m 0 (nI N) po so st nr v2 (nI r) (nI p) := by
    intro m
    induction m with
    | zero => intro p r _ h; omega
    | succ m ih =>
      intro p r h1 h2 hi
      rw [lpX5_pair_48.eq_2]
      refine ⟨fun h => ?_, fun h => ⟨fun h3 => absurd rfl h3, fun _ => ?_⟩⟩
      · have e : p = N := by rw [nI_leI (by omega) (by omega)] at h; omega
        subst e
        rw [PC_eq] at hk
        omega
      · have hp : p < N := by rw [nI_leI (by omega) (by omega)] at h; omega
        rintro _ rfl
        rw [nI_1]
        refine ⟨N + 1, s_pop70 hN hk2 hp (fun q hq => hK p q hq) (fun r' hr => ?_) (N + 1) (p + 1) r (by omega) (by omega) (by omega) ?_⟩
        · rintro _ rfl
          rw [nI_1]
          exact ih (p + 1) r' (by omega) (by omega) hr
        · rw [cntB_0 (f := fP nr p) (k := p + 1) (fun j hj => by unfold fP; rw [decide_eq_false (by omega)]; rfl)]
          exact hi
  exact ⟨N + 1, key (N + 1) 0 k (by omega) (by omega) (by show k = k + 0; omega)⟩
theorem s_pair40n {nr : Nat → Int64} {N : Nat} (hN : N ≤ 40) {kc v1 v2 s1 : Int32} (h1 : ¬ s1 = 0) {po so st : Nat → Int32} {K : Int32 → (Int32 × Int32 × (Nat → Int32) × (Nat → Int32) × (Nat → Int32) × (Nat → Int64)) → Prop} (hK : K 0 (s1, nI N, po, so, st, nr)) : bkX5_pair_40 kd kn cn xs ys x2 y2 my K kc (nI N) po so st nr v1 v2 s1 := by
  refine ⟨1, ?_⟩
  rw [lpX5_pair_48.eq_2]
  exact ⟨fun _ => hK, fun _ => ⟨fun _ => hK, fun h => absurd h h1⟩⟩
theorem s_countBoxes {n : Nat} {c : Nat → Nat} {bx : Nat → Int32} (hn : n ≤ 10) (hb : ∀ i, i < 10 → bx i = nI (c i) ∧ c i ≤ 4 ∧ (n ≤ i → c i = 0)) {K : Int32 → Prop} (hK : K (nI (sumN c n))) : wX2_countBoxes (nI n) bx K := by
  have key : ∀ (m p : Nat), p ≤ n → n - p < m → lpX2_countBoxes_4 (nI n) bx K (fun v1 => K v1) m (nI (sumN c p)) (nI p) := by
    intro m
    induction m with
    | zero => intro q _ h; omega
    | succ m ih =>
      intro p h1 h2
      rw [lpX2_countBoxes_4.eq_2]
      refine ⟨fun h => ?_, fun h => ?_⟩
      · have e : p = n := by rw [nI_leI (by omega) (by omega)] at h; omega
        subst e; exact hK
      · have hp : p < n := by rw [nI_leI (by omega) (by omega)] at h; omega
        refine ⟨vp_in_nI (by omega) (by omega), ?_⟩
        rintro _ rfl _ rfl
        rw [nI_clamp (by omega), (hb p (by omega)).1, nI_add, nI_1]
        exact ih (p + 1) (by omega) (by omega)
  exact ⟨n + 1, key (n + 1) 0 (by omega) (by omega)⟩
theorem s_told29 {n : Nat} {c : Nat → Nat} {bx : Nat → Int32} (hn : n ≤ 10) (hb : ∀ i, i < 10 → bx i = nI (c i) ∧ c i ≤ 4 ∧ (n ≤ i → c i = 0)) {kc kp v1 : Int32} {po so st : Nat → Int32} {nr : Nat → Int64} {K : Int32 → (Int32 × Int32 × (Nat → Int32) × (Nat → Int32) × (Nat → Int32) × (Nat → Int64)) → Prop} {k52 : Int32 → Int32 → (Nat → Int32) → (Nat → Int32) → (Nat → Int32) → (Nat → Int64) → Int32 → Int32 → Prop} (hK : k52 kc kp po so st nr v1 (nI (sumN c n))) : ∃ z, lpX5_told_29 kd (nI n) bx xs ys x2 y2 my K k52 z kc kp po so st nr v1 0 0 := by
  have key : ∀ (m p : Nat), p ≤ n → n - p < m → lpX5_told_29 kd (nI n) bx xs ys x2 y2 my K k52 m kc kp po so st nr v1 (nI (sumN c p)) (nI p) := by
    intro m
    induction m with
    | zero => intro q _ h; omega
    | succ m ih =>
      intro p h1 h2
      rw [lpX5_told_29.eq_2]
      refine ⟨fun h => ?_, fun h => ?_⟩
      · have e : p = n := by rw [nI_leI (by omega) (by omega)] at h; omega
        subst e; exact hK
      · have hp : p < n := by rw [nI_leI (by omega) (by omega)] at h; omega
        refine ⟨vp_in_nI (by omega) (by omega), ?_⟩
        rintro _ rfl _ rfl
        rw [nI_clamp (by omega), (hb p (by omega)).1, nI_add, nI_1]
        exact ih (p + 1) (by omega) (by omega)
  exact ⟨n + 1, key (n + 1) 0 (by omega) (by omega)⟩
end PR5
