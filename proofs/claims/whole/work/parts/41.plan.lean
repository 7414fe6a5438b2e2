def z1 (b : Bool) : Int32 := if b then 1 else 0
theorem z1_nar (b : Bool) : narrow .boolean (.int (z1 b)) = .int (z1 b) := by cases b <;> decide
theorem z1_0 (b : Bool) : z1 b = 0 ↔ b = false := by cases b <;> decide
theorem z1_vp (b : Bool) : vp_nar .boolean (z1 b) = z1 b := by cases b <;> decide
theorem br_z {b : Bool} {A B : Prop} (f : b = false → A) (g : b = true → B) : (z1 b = 0 → A) ∧ (¬ z1 b = 0 → B) := by
  cases b
  · exact ⟨fun _ => f rfl, fun h => absurd rfl h⟩
  · exact ⟨fun h => absurd h (by decide), fun _ => g rfl⟩
theorem br_zn {b : Bool} {A B : Prop} (f : b = true → A) (g : b = false → B) : (¬ z1 b = 0 → A) ∧ (z1 b = 0 → B) := by
  cases b
  · exact ⟨fun h => absurd rfl h, fun _ => g rfl⟩
  · exact ⟨fun _ => f rfl, fun h => absurd h (by decide)⟩
theorem i_lt {x y : Int32} : x < y ↔ x.toInt < y.toInt := Int32.lt_iff_toInt_lt
theorem i_le {x y : Int32} : x ≤ y ↔ x.toInt ≤ y.toInt := Int32.le_iff_toInt_le
theorem l_lt {x y : Int64} : x < y ↔ x.toInt < y.toInt := Int64.lt_iff_toInt_lt
theorem l_le {x y : Int64} : x ≤ y ↔ x.toInt ≤ y.toInt := Int64.le_iff_toInt_le
theorem iL (x : Int32) : x.toInt64.toInt = x.toInt := Int32.toInt_toInt64 x
theorem i_eq {x y : Int32} : x = y ↔ x.toInt = y.toInt := ⟨fun h => by rw [h], fun h => Int32.toInt_inj.mp h⟩
theorem i_rng (x : Int32) : -2147483648 ≤ x.toInt ∧ x.toInt < 2147483648 := ⟨Int32.le_toInt x, Int32.toInt_lt x⟩
theorem i_sub {x y : Int32} (h1 : -2147483648 ≤ x.toInt - y.toInt) (h2 : x.toInt - y.toInt < 2147483648) : (x - y).toInt = x.toInt - y.toInt := by
  rw [Int32.toInt_sub, Int.bmod_eq_of_le] <;> omega
theorem i_add {x y : Int32} (h1 : -2147483648 ≤ x.toInt + y.toInt) (h2 : x.toInt + y.toInt < 2147483648) : (x + y).toInt = x.toInt + y.toInt := by
  rw [Int32.toInt_add, Int.bmod_eq_of_le] <;> omega
theorem nIs (n : Nat) (hn : n < 1000) : (nI n - 1).toInt = (n : Int) - 1 := by
  rw [i_sub]
  · rw [nI_toInt (by omega)]; rfl
  · rw [nI_toInt (by omega)]; show -2147483648 ≤ (n : Int) - 1; omega
  · rw [nI_toInt (by omega)]; show (n : Int) - 1 < 2147483648; omega
def inI (v lo hi : Int) : Bool := decide (lo ≤ v ∧ v ≤ hi)
theorem s_isIn {v lo hi : Int64} {K : Int32 → Prop} (h : K (z1 (inI v.toInt lo.toInt hi.toInt))) : wX5_isIn v lo hi K := by
  unfold wX5_isIn
  rw [lg_lt, lg_gt, l_lt, l_lt]
  refine ⟨fun h1 => ?_, fun h1 => ⟨fun h2 => ?_, fun h2 => ?_⟩⟩
  · have e : inI v.toInt lo.toInt hi.toInt = false := by simp only [inI, decide_eq_false_iff_not]; omega
    rw [e] at h; exact h
  · have e : inI v.toInt lo.toInt hi.toInt = false := by simp only [inI, decide_eq_false_iff_not]; omega
    rw [e] at h; exact h
  · have e : inI v.toInt lo.toInt hi.toInt = true := by simp only [inI, decide_eq_true_eq]; omega
    rw [e] at h; exact h
theorem s_isPlace {v : Int32} {K : Int32 → Prop} (h : K (z1 (inI v.toInt (-10000) 10000))) : wX5_isPlace v K := by
  unfold wX5_isPlace
  apply s_isIn
  rw [iL]
  exact ⟨z1_nar _, h⟩
theorem s_isShape {n : Nat} (hn : n ≤ 10) {v : Int32} {K : Int32 → Prop} (h : K (z1 (inI v.toInt 0 ((n : Int) - 1)))) : wX5_isShape (nI n) v K := by
  unfold wX5_isShape
  apply s_isIn
  rw [iL, iL, nIs n (by omega)]
  exact ⟨z1_nar _, h⟩
theorem s_hasShape {n : Nat} (hn : n ≤ 10) {v : Int32} {K : Int32 → Prop} (h : K (z1 (inI v.toInt 0 ((n : Int) - 1)))) : wX2_hasShape (nI n) v K := by
  unfold wX2_hasShape
  rw [i_lt, i_le, nI_toInt (by omega)]
  have e0 : (0 : Int32).toInt = 0 := rfl
  refine ⟨fun h1 => ?_, fun h1 => ⟨fun h2 => ?_, fun h2 => ?_⟩⟩
  · have e : inI v.toInt 0 ((n : Int) - 1) = false := by simp only [inI, decide_eq_false_iff_not]; omega
    rw [e] at h; exact h
  · have e : inI v.toInt 0 ((n : Int) - 1) = false := by simp only [inI, decide_eq_false_iff_not]; omega
    rw [e] at h; exact h
  · have e : inI v.toInt 0 ((n : Int) - 1) = true := by simp only [inI, decide_eq_true_eq]; omega
    rw [e] at h; exact h
theorem inI_nat {v : Int32} {n : Nat} (hn : n < 2147483648) (h : inI v.toInt 0 ((n : Int) - 1) = true) : ∃ s : Nat, s < n ∧ v = nI s := by
  simp only [inI, decide_eq_true_eq] at h
  refine ⟨v.toInt.toNat, by omega, ?_⟩
  apply Int32.toInt_inj.mp
  rw [nI_toInt (by omega)]
  omega
theorem inI_nI {s n : Nat} (hs : s < 2147483648) : inI (nI s).toInt 0 ((n : Int) - 1) = decide (s < n) := by
  rw [nI_toInt (by omega)]
  simp only [inI]
  by_cases h : s < n
  · rw [decide_eq_true h, decide_eq_true_eq]; omega
  · rw [decide_eq_false h, decide_eq_false_iff_not]; omega
def COK (xl xr yl yh : Nat → Int32) (b : Nat) : Prop := (-10000 ≤ (xl b).toInt ∧ (xl b).toInt < (xr b).toInt ∧ (xr b).toInt ≤ 10000) ∧ (-10000 ≤ (yl b).toInt ∧ (yl b).toInt < (yh b).toInt ∧ (yh b).toInt ≤ 10000)
def PLN (pg ps : Int32) (bx xl xr yl yh ms wt : Nat → Int32) (d n : Nat) (c : Nat → Nat) : Prop :=
  (pg = nI d ∧ 1 ≤ d ∧ d ≤ 1000) ∧ (ps = nI n ∧ n ≤ 10) ∧ (∀ i, i < 10 → bx i = nI (c i) ∧ c i ≤ 4 ∧ (n ≤ i → c i = 0)) ∧
  (∀ s k, s < n → k < c s → COK xl xr yl yh (4 * s + k) ∧ (ms (4 * s + k) = 0 ∨ ms (4 * s + k) = 1) ∧ (wt (4 * s + k) = -1 ∨ ∃ x, x < 4 ∧ wt (4 * s + k) = nI x)) ∧
  (∀ s k, s < 10 → k < 4 → c s ≤ k → ms (4 * s + k) = 0 ∧ wt (4 * s + k) = -1)
theorem slotI {s k : Nat} (hs : s < 10) (hk : k < 10) : nI s * 4 + nI k = nI (4 * s + k) := by
  rw [show (4 : Int32) = nI 4 from rfl, pk_mul, nI_add, Nat.mul_comm]
theorem slotJ {s k : Nat} : 4 * nI s + nI k = nI (4 * s + k) := by
  rw [show (4 : Int32) = nI 4 from rfl, pk_mul, nI_add]
theorem s_isBox {n : Nat} {c : Nat → Nat} {bx : Nat → Int32} (hn : n ≤ 10) (hb : ∀ i, i < 10 → bx i = nI (c i) ∧ c i ≤ 4 ∧ (n ≤ i → c i = 0)) {v w : Int32} {K : Int32 → Prop}
    (h1 : ∀ s k, s < n → k < c s → v = nI s → w = nI k → K 1) (h0 : (∀ s k, s < n → k < c s → v = nI s → w = nI k → False) → K 0) : wX5_isBox (nI n) bx v w K := by
  unfold wX5_isBox
  apply s_isShape hn
  refine br_z (fun h => ?_) (fun h => ?_)
  · refine h0 (fun s k hs hk e1 _ => ?_)
    subst e1
    rw [inI_nI (by omega)] at h
    exact absurd hs (by simpa using h)
  · obtain ⟨s, hs, rfl⟩ := inI_nat (by omega) h
    obtain ⟨hb1, hb2, hb3⟩ := hb s (by omega)
    refine ⟨vp_in_nI (by omega) (by omega), ?_⟩
    rw [nI_clamp (by omega), hb1]
    apply s_isIn
    rw [iL, iL, nIs _ (by omega)]
    refine br_z (fun h2 => ?_) (fun h2 => ?_)
    · refine h0 (fun s' k hs' hk e1 e2 => ?_)
      have e3 : s = s' := nI_inj (by omega) (by omega) e1
      subst e3
      subst e2
      have h3 : inI (nI k).toInt 0 ((c s : Int) - 1) = decide (k < c s) := inI_nI (by omega)
      have h4 : (0 : Int64).toInt = 0 := rfl
      rw [h4, h3] at h2
      exact absurd hk (by simpa using h2)
    · have h4 : (0 : Int64).toInt = 0 := rfl
      rw [h4] at h2
      obtain ⟨k, hk, rfl⟩ := inI_nat (by omega) h2
      exact h1 s k hs hk rfl rfl
theorem s_needSlot {n : Nat} {c : Nat → Nat} {bx : Nat → Int32} (hn : n ≤ 10) (hb : ∀ i, i < 10 → bx i = nI (c i) ∧ c i ≤ 4 ∧ (n ≤ i → c i = 0)) {v w : Int32} {K : Int32 → Prop} {KX : String → Prop}
    (h1 : ∀ s k, s < n → k < c s → v = nI s → w = nI k → K (nI (4 * s + k))) (h0 : (∀ s k, s < n → k < c s → v = nI s → w = nI k → False) → KX "java/lang/IndexOutOfBoundsException") : wX4_needSlot (nI n) bx v w K KX := by
  unfold wX4_needSlot
  apply s_hasShape hn
  refine br_z (fun h => ?_) (fun h => ?_)
  · refine h0 (fun s k hs hk e1 _ => ?_)
    subst e1
    rw [inI_nI (by omega)] at h
    exact absurd hs (by simpa using h)
  · obtain ⟨s, hs, rfl⟩ := inI_nat (by omega) h
    obtain ⟨hb1, hb2, hb3⟩ := hb s (by omega)
    refine ⟨fun h2 => h0 (fun s' k hs' hk e1 e2 => ?_), fun h2 => ⟨vp_in_nI (by omega) (by omega), ?_⟩⟩
    · have h9 := (hb s' (by omega)).2.1
      subst e2; exact absurd h2 (nI_pos (by omega))
    · rw [nI_clamp (by omega), hb1]
      refine ⟨fun h3 => ?_, fun h3 => h0 (fun s' k hs' hk e1 e2 => ?_)⟩
      · obtain ⟨k, hk, rfl⟩ := nI_of h2
        have hk2 : k < c s := by
          rw [nI_ltI (by omega) (by omega)] at h3
          exact h3
        unfold wX2_slot
        rw [slotI (by omega) (by omega)]
        exact h1 s k hs hk2 rfl rfl
      · have e3 : s = s' := nI_inj (by omega) (by omega) e1
        subst e3
        subst e2
        exact h3 ((nI_ltI (by omega) (by omega)).mpr hk)
