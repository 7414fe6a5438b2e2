def Full : Nat → Nat → Nat → Nat → Prop := fun _ _ _ _ => True
section CLS
variable {d n : Nat} {bx xl xr yl yh ms pf : Nat → Int32} {c : Nat → Nat}
theorem s_l25 (hd : d ≤ 1000) (hn : n ≤ 10) (hb : ∀ i, i < 10 → bx i = nI (c i) ∧ c i ≤ 4 ∧ (n ≤ i → c i = 0)) (hco : ∀ s k, s < n → k < c s → COK xl xr yl yh (4 * s + k)) (hpf : ∀ s k, s < n → k < c s → pf (4 * s + k) = nI (PO ms c s k)) {s t k : Nat} (hst : s < t) (ht : t < n) (hk : k < c s)
    {K : (Int32 × (Nat → Int64)) → Prop} {k85 : Int32 → (Nat → Int64) → Int32 → Int32 → Int32 → Prop} (hK : ∀ nq nr, NI d xl xr yl yh ms c n (D4 s t k (c t)) nq nr → k85 nq nr (nI s) (nI t) (nI k)) :
    ∀ (m i : Nat) (nq : Int32) (nr : Nat → Int64), i ≤ c t → c t - i < m → NI d xl xr yl yh ms c n (D4 s t k i) nq nr → lpX0_linkNearBoxes_25 (nI d) bx xl xr yl yh pf K k85 m nq nr (nI s) (nI t) (nI k) (nI (4 * s + k)) (nI i) := by
  have hcs := (hb s (by omega)).2.1
  have hct := (hb t (by omega)).2.1
  have hN : cA ms c n ≤ 40 := Nat.le_trans (cA_le (fun i hi => (hb i hi).2.1) hn) (by omega)
  intro m
  induction m with
  | zero => intro i nq nr h1 h2; omega
  | succ m ih =>
    intro i nq nr h1 h2 hI
    rw [lpX0_linkNearBoxes_25.eq_2]
    refine ⟨vp_in_nI (by omega) (by omega), ?_⟩
    rw [nI_clamp (show t < 2 ^ 31 by omega), (hb t (by omega)).1]
    refine ⟨fun h => ?_, fun h => ?_⟩
    · have e : i = c t := by rw [nI_leI (by omega) (by omega)] at h; omega
      subst e
      exact hK _ _ hI
    · have hi : i < c t := by rw [nI_leI (by omega) (by omega)] at h; omega
      unfold wX2_slot
      rw [slotI (by omega) (by omega)]
      have hE : ∀ s' t' k' i', V4 c n s' t' k' i' → (D4 s t k (i + 1) s' t' k' i' ↔ D4 s t k i s' t' k' i' ∨ (s' = s ∧ t' = t ∧ k' = k ∧ i' = i)) := by
        intro s' t' k' i' _
        unfold D4
        omega
      apply s_tooNear hd (by omega) (by omega) (hco s k (by omega) hk) (hco t i ht hi)
      refine br_z (fun hz => ?_) (fun hz => ?_)
      · unfold bkX0_linkNearBoxes_79
        rintro _ rfl
        rw [nI_1]
        refine ih (i + 1) _ _ (by omega) (by omega) ⟨fun p hp j => (hI.1 p hp j).trans ⟨NB_mono (fun a b c' e hv hd => (hE a b c' e hv).mpr (Or.inl hd)), ?_⟩, hI.2⟩
        rintro ⟨s', t', k', i', a1, a2, a3, a4⟩
        rcases (hE s' t' k' i' a1).mp a2 with a5 | ⟨rfl, rfl, rfl, rfl⟩
        · exact ⟨s', t', k', i', a1, a5, a3, a4⟩
        · rw [hz] at a3; exact absurd a3 (by decide)
      · refine ⟨vp_in_nI (by omega) (by omega), vp_in_nI (by omega) (by omega), ?_⟩
        rw [nI_clamp (show 4 * s + k < 2 ^ 31 by omega), nI_clamp (show 4 * t + i < 2 ^ 31 by omega), hpf s k (by omega) hk, hpf t i ht hi]
        refine s_link hN ⟨hst, ht, hk, hi⟩ hz hE hI (fun nq nr hI2 => ?_)
        unfold bkX0_linkNearBoxes_79
        rintro _ rfl
        rw [nI_1]
        exact ih (i + 1) _ _ (by omega) (by omega) hI2
theorem s_l2 (hd : d ≤ 1000) (hn : n ≤ 10) (hb : ∀ i, i < 10 → bx i = nI (c i) ∧ c i ≤ 4 ∧ (n ≤ i → c i = 0)) (hco : ∀ s k, s < n → k < c s → COK xl xr yl yh (4 * s + k)) (hpf : ∀ s k, s < n → k < c s → pf (4 * s + k) = nI (PO ms c s k)) {s t : Nat} (hst : s < t) (ht : t < n)
    {K : (Int32 × (Nat → Int64)) → Prop} {k91 : Int32 → (Nat → Int64) → Prop} (hK : ∀ nq nr, NI d xl xr yl yh ms c n (D4 s t (c s) 0) nq nr → k91 nq nr) :
    ∀ (m k : Nat) (nq : Int32) (nr : Nat → Int64), k ≤ c s → c s - k < m → NI d xl xr yl yh ms c n (D4 s t k 0) nq nr → lpX0_linkNearBoxes_2 (nI d) bx xl xr yl yh pf K k91 m nq nr (nI s) (nI t) (nI k) := by
  have hcs := (hb s (by omega)).2.1
  have hct := (hb t (by omega)).2.1
  intro m
  induction m with
  | zero => intro i nq nr h1 h2; omega
  | succ m ih =>
    intro k nq nr h1 h2 hI
    rw [lpX0_linkNearBoxes_2.eq_2]
    refine ⟨vp_in_nI (by omega) (by omega), ?_⟩
    rw [nI_clamp (show s < 2 ^ 31 by omega), (hb s (by omega)).1]
    refine ⟨fun h => ?_, fun h => ?_⟩
    · have e : k = c s := by rw [nI_leI (by omega) (by omega)] at h; omega
      subst e
      exact hK _ _ hI
    · have hk : k < c s := by rw [nI_leI (by omega) (by omega)] at h; omega
      unfold wX2_slot
      rw [slotI (by omega) (by omega)]
      refine ⟨c t + 1, s_l25 hd hn hb hco hpf hst ht hk (fun nq nr hI2 => ?_) (c t + 1) 0 _ _ (by omega) (by omega) hI⟩
      rintro _ rfl
      rw [nI_1]
      refine ih (k + 1) _ _ (by omega) (by omega) (NI_cong (fun s' t' k' i' hv => ?_) hI2)
      have h9 : t' = t → i' < c t := fun e => e ▸ hv.2.2.2
      unfold D4
      omega
theorem s_f22 (hd : d ≤ 1000) (hn : n ≤ 10) (hb : ∀ i, i < 10 → bx i = nI (c i) ∧ c i ≤ 4 ∧ (n ≤ i → c i = 0)) (hco : ∀ s k, s < n → k < c s → COK xl xr yl yh (4 * s + k)) (hpf : ∀ s k, s < n → k < c s → pf (4 * s + k) = nI (PO ms c s k)) {s : Nat} (hs : s < n)
    {K : (Int32 × (Nat → Int64)) → Prop} {k45 : Int32 → (Nat → Int64) → Int32 → Prop} (hK : ∀ nq nr, NI d xl xr yl yh ms c n (D4 s n 0 0) nq nr → k45 nq nr (nI s)) :
    ∀ (m t : Nat) (nq : Int32) (nr : Nat → Int64), s < t → t ≤ n → n - t < m → NI d xl xr yl yh ms c n (D4 s t 0 0) nq nr → lpX0_findNear_22 (nI d) (nI n) bx xl xr yl yh pf K k45 m nq nr (nI s) (nI t) := by
  intro m
  induction m with
  | zero => intro i nq nr h1 h2; omega
  | succ m ih =>
    intro t nq nr h0 h1 h2 hI
    rw [lpX0_findNear_22.eq_2]
    refine ⟨fun h => ?_, fun h => ?_⟩
    · have e : t = n := by rw [nI_leI (by omega) (by omega)] at h; omega
      subst e
      exact hK _ _ hI
    · have ht : t < n := by rw [nI_leI (by omega) (by omega)] at h; omega
      refine ⟨c s + 1, s_l2 hd hn hb hco hpf h0 ht (fun nq nr hI2 => ?_) (c s + 1) 0 _ _ (by omega) (by omega) hI⟩
      rintro _ rfl
      rw [nI_1]
      refine ih (t + 1) _ _ (by omega) (by omega) (by omega) (NI_cong (fun s' t' k' i' hv => ?_) hI2)
      have h9 : s' = s → k' < c s := fun e => e ▸ hv.2.2.1
      unfold D4
      omega
theorem s_f7 (hd : d ≤ 1000) (hn : n ≤ 10) (hb : ∀ i, i < 10 → bx i = nI (c i) ∧ c i ≤ 4 ∧ (n ≤ i → c i = 0)) (hco : ∀ s k, s < n → k < c s → COK xl xr yl yh (4 * s + k)) (hpf : ∀ s k, s < n → k < c s → pf (4 * s + k) = nI (PO ms c s k))
    {K : (Int32 × (Nat → Int64)) → Prop} {k51 : Int32 → (Nat → Int64) → Prop} (hK : ∀ nq nr, NI d xl xr yl yh ms c n Full nq nr → k51 nq nr) :
    ∀ (m s : Nat) (nq : Int32) (nr : Nat → Int64), s ≤ n → n - s < m → NI d xl xr yl yh ms c n (D4 s (s + 1) 0 0) nq nr → lpX0_findNear_7 (nI d) (nI n) bx xl xr yl yh pf K k51 m nq nr (nI s) := by
  intro m
  induction m with
  | zero => intro i nq nr h1 h2; omega
  | succ m ih =>
    intro s nq nr h1 h2 hI
    rw [lpX0_findNear_7.eq_2]
    refine ⟨fun h => ?_, fun h => ?_⟩
    · have e : s = n := by rw [nI_leI (by omega) (by omega)] at h; omega
      subst e
      refine hK _ _ (NI_cong (fun s' t' k' i' hv => ?_) hI)
      have := hv.1
      have := hv.2.1
      unfold D4 Full
      exact ⟨fun _ => trivial, fun _ => by omega⟩
    · have hs : s < n := by rw [nI_leI (by omega) (by omega)] at h; omega
      rintro _ rfl
      rw [nI_1]
      refine ⟨n + 1, s_f22 hd hn hb hco hpf hs (fun nq nr hI2 => ?_) (n + 1) (s + 1) _ _ (by omega) (by omega) (by omega) hI⟩
      rintro _ rfl
      rw [nI_1]
      refine ih (s + 1) _ _ (by omega) (by omega) (NI_cong (fun s' t' k' i' hv => ?_) hI2)
      have := hv.1
      have := hv.2.1
      unfold D4
      omega
theorem PC_0 {nr : Nat → Int64} {N : Nat} (h : ∀ p, p < N → nr p = 0) : PC nr N = 0 := by
  unfold PC
  have h2 : ∀ (f : Nat → Nat) (M : Nat), (∀ j, j < M → f j = 0) → sumN f M = 0 := by
    intro f M
    induction M with
    | zero => intro _; rfl
    | succ M ih => intro h; show sumN f M + f M = 0; rw [ih (fun j hj => h j (by omega)), h M (by omega)]
  have h3 : ∀ (f : Nat → Bool) (M : Nat), (∀ j, j < M → f j = false) → cntB f M = 0 := by
    intro f M
    induction M with
    | zero => intro _; rfl
    | succ M ih => intro h; show cntB f M + (if f M then 1 else 0) = 0; rw [ih (fun j hj => h j (by omega)), h M (by omega)]; rfl
  refine h2 _ _ (fun p hp => h3 _ _ (fun q _ => ?_))
  rw [h p hp, tb_0]; simp
theorem s_findNear (hd : d ≤ 1000) (hn : n ≤ 10) (hb : ∀ i, i < 10 → bx i = nI (c i) ∧ c i ≤ 4 ∧ (n ≤ i → c i = 0)) (hco : ∀ s k, s < n → k < c s → COK xl xr yl yh (4 * s + k)) (hpf : ∀ s k, s < n → k < c s → pf (4 * s + k) = nI (PO ms c s k))
    {nq : Int32} {nr : Nat → Int64} (h0 : ∀ p, p < cA ms c n → nr p = 0) {K : (Int32 × (Nat → Int64)) → Prop} (hK : ∀ nq nr, NI d xl xr yl yh ms c n Full nq nr → K (nq, nr)) : wX0_findNear (nI d) (nI n) bx xl xr yl yh pf nq nr K := by
  refine ⟨n + 1, s_f7 hd hn hb hco hpf hK (n + 1) 0 _ _ (by omega) (by omega) ⟨fun p hp j => ?_, ?_⟩⟩
  · rw [h0 p hp, tb_0]
    refine ⟨fun h => by simp at h, ?_⟩
    rintro ⟨s', t', k', i', a1, a2, a3, a4⟩
    have := a1.1
    unfold D4 at a2
    omega
  · rw [PC_0 h0]; rfl
end CLS
def NETR (d n : Nat) (c : Nat → Nat) (xl xr yl yh ms wt : Nat → Int32) (np nq ns : Int32) (pf : Nat → Int32) (nr : Nat → Int64) (sl cl : Nat → Int32) : Prop :=
  np = nI (cA ms c n) ∧ (∀ s k, s < n → k < c s → pf (4 * s + k) = nI (PO ms c s k)) ∧ (∀ p, p < cA ms c n → sl p = z1 (slA ms c n p)) ∧ NI d xl xr yl yh ms c n Full nq nr ∧ ns = nI (cntB (slA ms c n) (cA ms c n)) ∧
  (∀ p, p < cA ms c n → ∀ x, x < 4 → (tc (cl p) x = true ↔ ∀ s k, s < n → k < c s → PO ms c s k = p → okc (wt (4 * s + k)) x))
theorem s_refresh {pg ps : Int32} {bx xl xr yl yh ms wt : Nat → Int32} {d n : Nat} {c : Nat → Nat} (hp : PLN pg ps bx xl xr yl yh ms wt d n c)
    {nf np nq ns : Int32} {pf : Nat → Int32} {nr : Nat → Int64} {sl cl : Nat → Int32} (hf : nf = 0 ∨ nf = 1) (hr : nf = 1 → NETR d n c xl xr yl yh ms wt np nq ns pf nr sl cl)
    {K : (Int32 × Int32 × Int32 × Int32 × (Nat → Int32) × (Nat → Int64) × (Nat → Int32) × (Nat → Int32)) → Prop} (hK : ∀ np nq ns pf nr sl cl, NETR d n c xl xr yl yh ms wt np nq ns pf nr sl cl → K (1, np, nq, ns, pf, nr, sl, cl)) :
    wX0_refresh pg ps bx xl xr yl yh ms wt nf np nq ns pf nr sl cl K := by
  obtain ⟨⟨rfl, hd1, hd2⟩, ⟨rfl, hn⟩, hb, hu, hv⟩ := hp
  unfold wX0_refresh
  refine ⟨fun h => ?_, fun h => ?_⟩
  · have e : nf = 1 := hf.elim (fun e => absurd e h) id
    subst e
    exact hK _ _ _ _ _ _ _ (hr rfl)
  · refine s_numberParts hn hb (fun s k hs hk => (hu s k hs hk).2.2) (fun np ns pf nr sl cl hI => ?_)
    obtain ⟨h1, h2, h3, h4⟩ := hI
    have hpf : ∀ s k, s < n → k < c s → pf (4 * s + k) = nI (PO ms c s k) := fun s k hs hk => h3 s k (Or.inl ⟨hs, hk⟩)
    refine s_findNear hd2 hn hb (fun s k hs hk => (hu s k hs hk).1) hpf (fun p hp => (h4 p hp).2.1) (fun nq nr hI2 => ?_)
    refine hK _ _ _ _ _ _ _ ⟨h1, hpf, fun p hp => (h4 p hp).1, hI2, h2, fun p hp x hx => ((h4 p hp).2.2 x hx).trans ⟨fun h s k hs hk e => h s k (Or.inl ⟨hs, hk⟩) e, fun h s k hpr e => ?_⟩⟩
    rcases hpr with ⟨a, b⟩ | ⟨_, b⟩
    · exact h s k a b e
    · omega
