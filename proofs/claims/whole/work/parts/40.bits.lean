def tb (x : Int64) (j : Nat) : Bool := x.toBitVec.getLsbD j
def b1 (j : Nat) : Int64 := (1 : Int64) <<< ((nI j).toInt64 &&& 63)
theorem tb_ext {x y : Int64} (h : ∀ j, j < 64 → tb x j = tb y j) : x = y := Int64.toBitVec_inj.mp (BitVec.eq_of_getLsbD_eq (fun j hj => h j hj))
theorem tb_or (x y : Int64) (j : Nat) : tb (x ||| y) j = (tb x j || tb y j) := by simp [tb]
theorem tb_and (x y : Int64) (j : Nat) : tb (x &&& y) j = (tb x j && tb y j) := by simp [tb]
theorem tb_0 (j : Nat) : tb 0 j = false := by simp [tb]
theorem tb_big {x : Int64} {j : Nat} (h : 64 ≤ j) : tb x j = false := BitVec.getLsbD_of_ge _ _ h
theorem b1_tp : ∀ j, j < 64 → (b1 j).toBitVec = BitVec.twoPow 64 j := by decide +kernel
theorem tb_b1 {j : Nat} (hj : j < 64) (i : Nat) : tb (b1 j) i = decide (i = j) := by
  unfold tb
  rw [b1_tp j hj, BitVec.getLsbD_twoPow]
  by_cases h : i = j
  · subst h; simp [hj]
  · have h2 : ¬ j = i := fun e => h e.symm
    simp [h, h2]
theorem tb_not {x : Int64} {j : Nat} (hj : j < 64) : tb (x ^^^ (-1)) j = !tb x j := by
  have h1 : (-1 : Int64).toBitVec = BitVec.allOnes 64 := by decide
  simp [tb, h1, hj]
theorem lg_0 (x y : Int64) : lg_cmp x y = 0 ↔ x = y := by
  unfold lg_cmp
  by_cases h : x > y
  · have h2 : ¬ x = y := fun e => by subst e; exact absurd h (by simp)
    simp [h, h2]
  · by_cases h2 : x = y
    · simp [h, h2]
    · simp [h, h2]
theorem lg_ge (x y : Int64) : 0 ≤ lg_cmp x y ↔ y ≤ x := by
  unfold lg_cmp
  by_cases h : x > y
  · simp only [if_pos h]
    exact ⟨fun _ => Int64.le_of_lt h, fun _ => by decide⟩
  · by_cases h2 : x = y
    · subst h2; simp
    · simp only [if_neg h, if_neg h2]
      refine ⟨fun h3 => absurd h3 (by decide), fun h3 => ?_⟩
      rw [Int64.le_iff_toInt_le] at h3
      have h4 : ¬ y.toInt < x.toInt := fun z => h (Int64.lt_iff_toInt_lt.mpr z)
      exact absurd (Int64.toInt_inj.mp (by omega)) h2
theorem lg_lt (x y : Int64) : lg_cmp x y < 0 ↔ x < y := by
  have h := lg_ge x y
  rw [Int32.lt_iff_toInt_lt, Int64.lt_iff_toInt_lt]
  rw [Int32.le_iff_toInt_le, Int64.le_iff_toInt_le] at h
  omega
theorem lg_gt (x y : Int64) : 0 < lg_cmp x y ↔ y < x := by
  unfold lg_cmp
  by_cases h : x > y
  · simp only [if_pos h]; exact ⟨fun _ => h, fun _ => by decide⟩
  · by_cases h2 : x = y
    · simp only [if_neg h, if_pos h2]; exact ⟨fun h3 => absurd h3 (by decide), fun h3 => absurd h3 h⟩
    · simp only [if_neg h, if_neg h2]; exact ⟨fun h3 => absurd h3 (by decide), fun h3 => absurd h3 h⟩
theorem and_b1 (x : Int64) {j : Nat} (hj : j < 64) : (x &&& b1 j) = 0 ↔ tb x j = false := by
  constructor
  · intro h
    have h1 : tb (x &&& b1 j) j = false := by rw [h, tb_0]
    rw [tb_and, tb_b1 hj] at h1
    simpa using h1
  · intro h
    apply tb_ext
    intro i _
    rw [tb_and, tb_b1 hj, tb_0]
    by_cases e : i = j
    · subst e; simp [h]
    · simp [e]
theorem sm64 : ∀ j, j < 64 → (((nI j).toInt64 &&& 63).toBitVec.smod 64).toNat = j := by decide +kernel
theorem shr_1 (x : Int64) {j : Nat} (hj : j < 64) : ((x >>> ((nI j).toInt64 &&& 63)) &&& 1) = 1 ↔ tb x j = true := by
  have hb : tb (x >>> ((nI j).toInt64 &&& 63)) 0 = tb x j := by
    unfold tb
    rw [Int64.toBitVec_shiftRight, BitVec.sshiftRight_eq', sm64 j hj, BitVec.getLsbD_sshiftRight]
    simp [hj]
  have h1 : ∀ i, tb 1 i = decide (i = 0) := by
    intro i
    have := tb_b1 (j := 0) (by omega) i
    rw [show b1 0 = 1 by decide] at this
    exact this
  constructor
  · intro h
    have h2 : tb ((x >>> ((nI j).toInt64 &&& 63)) &&& 1) 0 = true := by rw [h]; decide
    rw [tb_and, hb] at h2
    simp at h2
    exact h2.1
  · intro h
    apply tb_ext
    intro i _
    rw [tb_and, h1]
    by_cases e : i = 0
    · subst e; simp [hb, h]
    · simp [e]
theorem shr_0 (x : Int64) {j : Nat} (hj : j < 64) : ((x >>> ((nI j).toInt64 &&& 63)) &&& 1) = 0 ↔ tb x j = false := by
  have hb : tb (x >>> ((nI j).toInt64 &&& 63)) 0 = tb x j := by
    unfold tb
    rw [Int64.toBitVec_shiftRight, BitVec.sshiftRight_eq', sm64 j hj, BitVec.getLsbD_sshiftRight]
    simp [hj]
  constructor
  · intro h
    have h2 : tb ((x >>> ((nI j).toInt64 &&& 63)) &&& 1) 0 = false := by rw [h, tb_0]
    rw [tb_and, hb] at h2
    simpa [tb] using h2
  · intro h
    by_cases h3 : ((x >>> ((nI j).toInt64 &&& 63)) &&& 1) = 0
    · exact h3
    · exfalso
      apply h3
      apply tb_ext
      intro i _
      rw [tb_and, tb_0]
      by_cases e : i = 0
      · subst e; rw [hb, h]; rfl
      · have : tb 1 i = false := by
          have := tb_b1 (j := 0) (by omega) i
          rw [show b1 0 = 1 by decide] at this
          simp [this, e]
        simp [this]
def tc (x : Int32) (j : Nat) : Bool := x.toBitVec.getLsbD j
theorem c1_tp : ∀ j, j < 32 → ((1 : Int32) <<< (nI j &&& 31)).toBitVec = BitVec.twoPow 32 j := by decide +kernel
theorem tc_and (x y : Int32) (j : Nat) : tc (x &&& y) j = (tc x j && tc y j) := by simp [tc]
theorem tc_c1 {j : Nat} (hj : j < 32) (i : Nat) : tc ((1 : Int32) <<< (nI j &&& 31)) i = decide (i = j) := by
  unfold tc
  rw [c1_tp j hj, BitVec.getLsbD_twoPow]
  by_cases h : i = j
  · subst h; simp [hj]
  · have h2 : ¬ j = i := fun e => h e.symm
    simp [h, h2]
theorem tc_ext {x y : Int32} (h : ∀ j, j < 32 → tc x j = tc y j) : x = y := Int32.toBitVec_inj.mp (BitVec.eq_of_getLsbD_eq (fun j hj => h j hj))
theorem and_c1 (x : Int32) {j : Nat} (hj : j < 32) : (x &&& ((1 : Int32) <<< (nI j &&& 31))) = 0 ↔ tc x j = false := by
  constructor
  · intro h
    have h1 : tc (x &&& ((1 : Int32) <<< (nI j &&& 31))) j = false := by rw [h]; simp [tc]
    rw [tc_and, tc_c1 hj] at h1
    simpa using h1
  · intro h
    apply tc_ext
    intro i _
    rw [tc_and, tc_c1 hj, show tc 0 i = false by simp [tc]]
    by_cases e : i = j
    · subst e; simp [h]
    · simp [e]
theorem tc_15 : ∀ j, j < 4 → tc 15 j = true := by decide +kernel
theorem nI_inj {a b : Nat} (ha : a < 2 ^ 31) (hb : b < 2 ^ 31) (h : nI a = nI b) : a = b := (nI_eq ha hb).mp h
theorem uL_s {f : Nat → Int64} {k : Nat} {x : Int64} : vp_updL f k x k = x := if_pos rfl
theorem uL_n {f : Nat → Int64} {k j : Nat} {x : Int64} (h : j ≠ k) : vp_updL f k x j = f j := if_neg h
theorem u_s {f : Nat → Int32} {k : Nat} {x : Int32} : upd f k x k = x := if_pos rfl
theorem u_n {f : Nat → Int32} {k j : Nat} {x : Int32} (h : j ≠ k) : upd f k x j = f j := if_neg h
theorem updSame {f : Nat → Int32} {k : Nat} {x : Int32} (h : f k = x) : upd f k x = f := by
  funext j
  unfold upd
  split
  · rename_i e; rw [e, h]
  · rfl
