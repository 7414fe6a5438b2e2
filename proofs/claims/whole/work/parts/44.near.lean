def MNum (ms : Nat → Int32) (c : Nat → Nat) (s k : Nat) (kp : Int32) (po : Nat → Int32) (st : Nat → Int32) (nr : Nat → Int64) : Prop :=
  kp = nI (cA ms c s + cS ms s k) ∧ (∀ s' k', Pr c s k s' k' → po (4 * s' + k') = nI (PO ms c s' k')) ∧ (∀ p, p < cA ms c s + cS ms s k → st p = z1 (slS ms c s (slA ms c s) k p) ∧ nr p = 0)
theorem m_96 {kd kn : Int32} {cn xs ys x2 y2 ms : Nat → Int32} {c : Nat → Nat} {n s k : Nat} (hn : n ≤ 10) (hc : ∀ i, i < 10 → c i ≤ 4) (hs : s < n) (hk : k < c s)
    {kp : Int32} {po so st : Nat → Int32} {nr : Nat → Int64} {K : (Int32 × (Nat → Int32) × (Nat → Int32) × (Nat → Int32) × (Nat → Int64)) → Prop} {k17 : Int32 → (Nat → Int32) → (Nat → Int32) → (Nat → Int32) → (Nat → Int64) → Int32 → Int32 → Prop}
    (h1 : kp = nI (cA ms c s + cS ms s (k + 1))) (h3 : ∀ s' k', Pr c s k s' k' → po (4 * s' + k') = nI (PO ms c s' k')) (h4 : ∀ p, p < cA ms c s + cS ms s (k + 1) → st p = z1 (slS ms c s (slA ms c s) (k + 1) p) ∧ nr p = 0)
    (hK : ∀ kp po so st nr, MNum ms c s (k + 1) kp po st nr → k17 kp po so st nr (nI s) (nI (k + 1))) : bkX5_findParts_96 kd kn cn xs ys x2 y2 ms K k17 kp po so st nr (nI s) (nI k) (nI (4 * s + k)) := by
  have hks := hc s (by omega)
  have hp1 := cS_pos ms s (k := k + 1) (by omega)
  have hA := cA_le (ms := ms) (n := s) hc (by omega)
  have hS := cS_le ms s (k + 1)
  have hPO : kp - 1 = nI (PO ms c s k) := by rw [h1, sub1 (by omega)]; rfl
  unfold bkX5_findParts_96
  refine ⟨vp_in_nI (by omega) (by omega), ?_⟩
  rintro _ rfl _ rfl
  rw [hPO, nI_clamp (by omega), nI_1]
  refine hK _ _ _ _ _ ⟨h1, fun s' k' h => ?_, h4⟩
  rcases Pr_s h with h | ⟨rfl, rfl⟩
  · rw [u_n, h3 s' k' h]
    intro e
    obtain ⟨h5, h6⟩ := Pr_b hc (by omega) (by omega) h
    obtain ⟨rfl, rfl⟩ := box_inj hc (s := s) (k := k) (by omega) (by omega) h6 e
    exact Pr_n h
  · exact u_s
theorem m_48 {kd kn : Int32} {cn xs ys x2 y2 ms : Nat → Int32} {c : Nat → Nat} {n s k : Nat} (hn : n ≤ 10) (hc : ∀ i, i < 10 → c i ≤ 4) (hs : s < n) (hk : k < c s) (ho : op ms s k = 1)
    {kp : Int32} {po so st : Nat → Int32} {nr : Nat → Int64} {K : (Int32 × (Nat → Int32) × (Nat → Int32) × (Nat → Int32) × (Nat → Int64)) → Prop} {k17 : Int32 → (Nat → Int32) → (Nat → Int32) → (Nat → Int32) → (Nat → Int64) → Int32 → Int32 → Prop}
    (hI : MNum ms c s k kp po st nr) (hK : ∀ kp po so st nr, MNum ms c s (k + 1) kp po st nr → k17 kp po so st nr (nI s) (nI (k + 1))) : bkX5_findParts_48 kd kn cn xs ys x2 y2 ms K k17 kp po so st nr (nI s) (nI k) (nI (4 * s + k)) := by
  obtain ⟨h1, h3, h4⟩ := hI
  have hks := hc s (by omega)
  have hA := cA_le (ms := ms) (n := s) hc (by omega)
  have hS := cS_le ms s k
  have hB : cA ms c s + cS ms s k < 40 := by omega
  have key : ∀ so, bkX5_findParts_75 kd kn cn xs ys x2 y2 ms K k17 kp po so st nr (nI s) (nI k) (nI (4 * s + k)) kp (z1 (decide (k ≠ 0))) := by
    intro so
    unfold bkX5_findParts_75
    rw [h1]
    refine ⟨vp_in_nI hB (by omega), ?_⟩
    rintro _ rfl
    refine ⟨vp_in_nI hB (by omega), ?_⟩
    rintro _ rfl _ rfl
    rw [nI_clamp (by omega), nI_1, z1_vp]
    refine m_96 hn hc hs hk (by rw [cS_s, ho]; rfl) h3 (fun p hp => ?_) hK
    rw [cS_s, ho] at hp
    by_cases e : p = cA ms c s + cS ms s k
    · subst e
      exact ⟨by rw [u_s, slS_at ho], uL_s⟩
    · have hp2 : p < cA ms c s + cS ms s k := by omega
      obtain ⟨a, b⟩ := h4 p hp2
      exact ⟨by rw [u_n e, slS_lt hp2]; exact a, by rw [uL_n e]; exact b⟩
  unfold bkX5_findParts_48
  refine ⟨by rw [h1]; exact vp_in_nI hB (by omega), ?_⟩
  rintro _ rfl
  refine ⟨fun h => ?_, fun h => ?_⟩
  · have e : k = 0 := by rw [show (0 : Int32) = nI 0 from rfl, nI_leI (by omega) (by omega)] at h; omega
    have := key (upd so kp.toNatClampNeg (nI s))
    rw [decide_eq_false (fun h : k ≠ 0 => h e)] at this
    exact this
  · have e : k ≠ 0 := fun e => h (by rw [e]; decide)
    have := key (upd so kp.toNatClampNeg (nI s))
    rw [decide_eq_true e] at this
    exact this
theorem MNum_next {ms : Nat → Int32} {c : Nat → Nat} {s : Nat} {kp : Int32} {po st : Nat → Int32} {nr : Nat → Int64} (h : MNum ms c s (c s) kp po st nr) : MNum ms c (s + 1) 0 kp po st nr := by
  obtain ⟨h1, h3, h4⟩ := h
  refine ⟨h1, fun s' k' hp => h3 s' k' ?_, h4⟩
  rcases hp with ⟨a, b⟩ | ⟨_, b⟩
  · by_cases e : s' = s
    · subst e; exact Or.inr ⟨rfl, b⟩
    · exact Or.inl ⟨by omega, b⟩
  · omega
theorem m_17 {kd kn : Int32} {bx xs ys x2 y2 ms : Nat → Int32} {c : Nat → Nat} {n s : Nat} (hn : n ≤ 10) (hb : ∀ i, i < 10 → bx i = nI (c i) ∧ c i ≤ 4 ∧ (n ≤ i → c i = 0)) (hs : s < n)
    {K : (Int32 × (Nat → Int32) × (Nat → Int32) × (Nat → Int32) × (Nat → Int64)) → Prop} {k114 : Int32 → (Nat → Int32) → (Nat → Int32) → (Nat → Int32) → (Nat → Int64) → Int32 → Prop} (hK : ∀ kp po so st nr, MNum ms c s (c s) kp po st nr → k114 kp po so st nr (nI s)) :
    ∀ (m k : Nat) (kp : Int32) (po so st : Nat → Int32) (nr : Nat → Int64), k ≤ c s → c s - k < m → MNum ms c s k kp po st nr → lpX5_findParts_17 kd kn bx xs ys x2 y2 ms K k114 m kp po so st nr (nI s) (nI k) := by
  have hcs := (hb s (by omega)).2.1
  have hc : ∀ i, i < 10 → c i ≤ 4 := fun i hi => (hb i hi).2.1
  intro m
  induction m with
  | zero => intro k kp po so st nr h1 h2; omega
  | succ m ih =>
    intro k kp po so st nr h1 h2 hI
    rw [lpX5_findParts_17.eq_2]
    refine ⟨vp_in_nI (by omega) (by omega), ?_⟩
    rw [nI_clamp (by omega), (hb s (by omega)).1]
    refine ⟨fun h => ?_, fun h => ?_⟩
    · have e : k = c s := by rw [nI_leI (by omega) (by omega)] at h; omega
      subst e
      exact hK _ _ _ _ _ hI
    · have hk : k < c s := by rw [nI_leI (by omega) (by omega)] at h; omega
      rintro _ rfl
      rw [slotJ]
      have hnext : ∀ kp po so st nr, MNum ms c s (k + 1) kp po st nr → lpX5_findParts_17 kd kn bx xs ys x2 y2 ms K k114 m kp po so st nr (nI s) (nI (k + 1)) := fun kp po so st nr hI2 => ih (k + 1) _ _ _ _ _ (by omega) (by omega) hI2
      refine ⟨fun h0 => ?_, fun h0 => ⟨?_, ?_⟩⟩
      · have e : k = 0 := by rw [show (0 : Int32) = nI 0 from rfl] at h0; exact nI_inj (by omega) (by omega) h0
        exact m_48 hn hc hs hk (op_pos (Or.inl e)) hI hnext
      · have e : k ≠ 0 := fun e => h0 (by rw [e]; rfl)
        rw [sub1 (by omega)]
        exact vp_in_nI (by omega) (by omega)
      · have e : k ≠ 0 := fun e => h0 (by rw [e]; rfl)
        rw [sub1 (by omega), nI_clamp (by omega)]
        refine ⟨fun hm => ?_, fun hm => ?_⟩
        · have ho := op_neg e hm
          obtain ⟨a, b, d⟩ := hI
          refine m_96 hn hc hs hk (by rw [cS_s, ho]; exact a) b (fun p hp => ?_) hnext
          rw [cS_s, ho] at hp
          rw [slS_no ho]
          exact d p hp
        · exact m_48 hn hc hs hk (op_pos (Or.inr hm)) hI hnext
theorem m_7 {kd : Int32} {bx xs ys x2 y2 ms : Nat → Int32} {c : Nat → Nat} {n : Nat} (hn : n ≤ 10) (hb : ∀ i, i < 10 → bx i = nI (c i) ∧ c i ≤ 4 ∧ (n ≤ i → c i = 0))
    {K : (Int32 × (Nat → Int32) × (Nat → Int32) × (Nat → Int32) × (Nat → Int64)) → Prop} {k120 : Int32 → (Nat → Int32) → (Nat → Int32) → (Nat → Int32) → (Nat → Int64) → Prop} (hK : ∀ kp po so st nr, MNum ms c n 0 kp po st nr → k120 kp po so st nr) :
    ∀ (m s : Nat) (kp : Int32) (po so st : Nat → Int32) (nr : Nat → Int64), s ≤ n → n - s < m → MNum ms c s 0 kp po st nr → lpX5_findParts_7 kd (nI n) bx xs ys x2 y2 ms K k120 m kp po so st nr (nI s) := by
  intro m
  induction m with
  | zero => intro s kp po so st nr h1 h2; omega
  | succ m ih =>
    intro s kp po so st nr h1 h2 hI
    rw [lpX5_findParts_7.eq_2]
    refine ⟨fun h => ?_, fun h => ?_⟩
    · have e : s = n := by rw [nI_leI (by omega) (by omega)] at h; omega
      subst e
      exact hK _ _ _ _ _ hI
    · have hs : s < n := by rw [nI_leI (by omega) (by omega)] at h; omega
      refine ⟨c s + 1, m_17 hn hb hs (fun kp po so st nr hI2 => ?_) (c s + 1) 0 _ _ _ _ _ (by omega) (by omega) hI⟩
      rintro _ rfl
      rw [nI_1]
      exact ih (s + 1) _ _ _ _ _ (by omega) (by omega) (MNum_next hI2)
def gpI (l h l2 h2 : Int) : Int := if h2 < l then l - h2 else if h < l2 then l2 - h else 0
def TN (d : Nat) (xl xr yl yh : Nat → Int32) (a b : Nat) : Bool :=
  decide (gpI (xl a).toInt (xr a).toInt (xl b).toInt (xr b).toInt * gpI (xl a).toInt (xr a).toInt (xl b).toInt (xr b).toInt + gpI (yl a).toInt (yh a).toInt (yl b).toInt (yh b).toInt * gpI (yl a).toInt (yh a).toInt (yl b).toInt (yh b).toInt < (d : Int) * d)
theorem gpI_sym {l h l2 h2 : Int} (h1 : l < h) (h3 : l2 < h2) : gpI l h l2 h2 = gpI l2 h2 l h := by
  unfold gpI
  repeat' split
  all_goals omega
theorem gpI_b {l h l2 h2 : Int} (a1 : -10000 ≤ l) (a2 : l < h) (a3 : h ≤ 10000) (b1 : -10000 ≤ l2) (b2 : l2 < h2) (b3 : h2 ≤ 10000) : 0 ≤ gpI l h l2 h2 ∧ gpI l h l2 h2 ≤ 20000 := by
  unfold gpI
  repeat' split
  all_goals omega
theorem TN_sym {d : Nat} {xl xr yl yh : Nat → Int32} {a b : Nat} (ha : COK xl xr yl yh a) (hb : COK xl xr yl yh b) : TN d xl xr yl yh a b = TN d xl xr yl yh b a := by
  unfold TN
  rw [gpI_sym ha.1.2.1 hb.1.2.1, gpI_sym ha.2.2.1 hb.2.2.1]
theorem s_gapC {v0 v1 v2 v3 : Int32} (a1 : -10000 ≤ v0.toInt) (a2 : v0.toInt < v1.toInt) (a3 : v1.toInt ≤ 10000) (b1 : -10000 ≤ v2.toInt) (b2 : v2.toInt < v3.toInt) (b3 : v3.toInt ≤ 10000) {K : Int64 → Prop} (h : ∀ r : Int64, r.toInt = gpI v0.toInt v1.toInt v2.toInt v3.toInt → K r) : wX2_gap v0 v1 v2 v3 K := by
  unfold wX2_gap
  apply h
  rw [iL]
  have e1 : (v2 - v1).toInt = v2.toInt - v1.toInt := i_sub (by omega) (by omega)
  have e2 : (v0 - v3).toInt = v0.toInt - v3.toInt := i_sub (by omega) (by omega)
  have e0 : (0 : Int32).toInt = 0 := rfl
  unfold gpI
  by_cases c1 : (v2 - v1) < (v0 - v3)
  · rw [if_pos c1]
    rw [i_lt, e1, e2] at c1
    by_cases c2 : (0 : Int32) < v0 - v3
    · rw [if_pos c2, e2]; rw [i_lt, e0, e2] at c2; rw [if_pos (by omega)]
    · rw [if_neg c2, e0]; rw [i_lt, e0, e2] at c2; rw [if_neg (by omega), if_neg (by omega)]
  · rw [if_neg c1]
    rw [i_lt, e1, e2] at c1
    by_cases c2 : (0 : Int32) < v2 - v1
    · rw [if_pos c2, e1]; rw [i_lt, e0, e1] at c2; rw [if_neg (by omega), if_pos (by omega)]
    · rw [if_neg c2, e0]; rw [i_lt, e0, e1] at c2; rw [if_neg (by omega), if_neg (by omega)]
theorem s_gapM {v0 v1 v2 v3 : Int32} (a1 : -10000 ≤ v0.toInt) (a2 : v0.toInt < v1.toInt) (a3 : v1.toInt ≤ 10000) (b1 : -10000 ≤ v2.toInt) (b2 : v2.toInt < v3.toInt) (b3 : v3.toInt ≤ 10000) {K : Int32 → Prop} (h : ∀ r : Int32, r.toInt = gpI v0.toInt v1.toInt v2.toInt v3.toInt → K r) : wX5_gap v0 v1 v2 v3 K := by
  unfold wX5_gap
  have e1 : (v2 - v1).toInt = v2.toInt - v1.toInt := i_sub (by omega) (by omega)
  have e2 : (v0 - v3).toInt = v0.toInt - v3.toInt := i_sub (by omega) (by omega)
  have e0 : (0 : Int32).toInt = 0 := rfl
  rw [i_le, i_le]
  refine ⟨fun c1 => ⟨fun c2 => h _ ?_, fun c2 => h _ ?_⟩, fun c1 => h _ ?_⟩
  · unfold gpI; rw [e0, if_neg (by omega), if_neg (by omega)]
  · unfold gpI; rw [e1, if_neg (by omega), if_pos (by omega)]
  · unfold gpI; rw [e2, if_pos (by omega)]
theorem sqL {r : Int64} {g : Int} (h : r.toInt = g) (h0 : 0 ≤ g) (h1 : g ≤ 20000) : (r * r).toInt = g * g ∧ 0 ≤ g * g ∧ g * g ≤ 400000000 := by
  have hb : g * g ≤ 20000 * 20000 := Int.mul_le_mul h1 h1 h0 (by omega)
  have hp : 0 ≤ g * g := Int.mul_nonneg h0 h0
  refine ⟨?_, hp, by omega⟩
  rw [Int64.toInt_mul, h, Int.bmod_eq_of_le] <;> omega
theorem nearV {d : Nat} (hd : d ≤ 1000) {r5 r11 : Int64} {g5 g11 : Int} (h5 : r5.toInt = g5) (h11 : r11.toInt = g11) (a0 : 0 ≤ g5) (a1 : g5 ≤ 20000) (b0 : 0 ≤ g11) (b1 : g11 ≤ 20000) {K : Int32 → Prop} (h : K (z1 (decide (g5 * g5 + g11 * g11 < (d : Int) * d)))) :
    ((0 ≤ (lg_cmp (((r5 * r5) + (r11 * r11))) (((nI d).toInt64 * (nI d).toInt64))) → K 0) ∧ (¬ (0 ≤ (lg_cmp (((r5 * r5) + (r11 * r11))) (((nI d).toInt64 * (nI d).toInt64)))) → K 1)) := by
  obtain ⟨e5, p5, q5⟩ := sqL h5 a0 a1
  obtain ⟨e11, p11, q11⟩ := sqL h11 b0 b1
  obtain ⟨ed, _, _⟩ := sqL (r := (nI d).toInt64) (g := (d : Int)) (by rw [iL, nI_toInt (by omega)]) (by omega) (by omega)
  have es : (r5 * r5 + r11 * r11).toInt = g5 * g5 + g11 * g11 := by
    rw [Int64.toInt_add, e5, e11, Int.bmod_eq_of_le] <;> omega
  rw [lg_ge, l_le, es, ed]
  refine ⟨fun c => ?_, fun c => ?_⟩
  · rw [decide_eq_false (by omega)] at h; exact h
  · rw [decide_eq_true (by omega)] at h; exact h
theorem s_tooNear {d : Nat} (hd : d ≤ 1000) {xl xr yl yh : Nat → Int32} {a b : Nat} (ha : a < 40) (hb : b < 40) (ca : COK xl xr yl yh a) (cb : COK xl xr yl yh b) {K : Int32 → Prop} (h : K (z1 (TN d xl xr yl yh a b))) : wX2_tooNear (nI d) xl xr yl yh (nI a) (nI b) K := by
  have va := vp_in_nI ha (by omega)
  have vb := vp_in_nI hb (by omega)
  obtain ⟨⟨a1, a2, a3⟩, a4, a5, a6⟩ := ca
  obtain ⟨⟨b1, b2, b3⟩, b4, b5, b6⟩ := cb
  obtain ⟨g1, g2⟩ := gpI_b a1 a2 a3 b1 b2 b3
  obtain ⟨g3, g4⟩ := gpI_b a4 a5 a6 b4 b5 b6
  unfold wX2_tooNear
  rw [nI_clamp (show a < 2 ^ 31 by omega), nI_clamp (show b < 2 ^ 31 by omega)]
  refine ⟨va, va, vb, vb, s_gapC a1 a2 a3 b1 b2 b3 (fun r5 e5 => ⟨va, va, vb, vb, s_gapC a4 a5 a6 b4 b5 b6 (fun r11 e11 => ?_)⟩)⟩
  exact nearV hd e5 e11 g1 g2 g3 g4 h
theorem s_isNear {d : Nat} (hd : d ≤ 1000) {xl xr yl yh : Nat → Int32} {a b : Nat} (ha : a < 40) (hb : b < 40) (ca : COK xl xr yl yh a) (cb : COK xl xr yl yh b) {K : Int32 → Prop} (h : K (z1 (TN d xl xr yl yh a b))) : wX5_isNear (nI d) xl yl xr yh (nI a) (nI b) K := by
  have va := vp_in_nI ha (by omega)
  have vb := vp_in_nI hb (by omega)
  obtain ⟨⟨a1, a2, a3⟩, a4, a5, a6⟩ := ca
  obtain ⟨⟨b1, b2, b3⟩, b4, b5, b6⟩ := cb
  obtain ⟨g1, g2⟩ := gpI_b a1 a2 a3 b1 b2 b3
  obtain ⟨g3, g4⟩ := gpI_b a4 a5 a6 b4 b5 b6
  unfold wX5_isNear
  rw [nI_clamp (show a < 2 ^ 31 by omega), nI_clamp (show b < 2 ^ 31 by omega)]
  refine ⟨va, va, vb, vb, s_gapM a1 a2 a3 b1 b2 b3 (fun r5 e5 => ⟨va, va, vb, vb, s_gapM a4 a5 a6 b4 b5 b6 (fun r11 e11 => ?_)⟩)⟩
  exact nearV hd (r5 := r5.toInt64) (r11 := r11.toInt64) (by rw [iL]; exact e5) (by rw [iL]; exact e11) g1 g2 g3 g4 h
