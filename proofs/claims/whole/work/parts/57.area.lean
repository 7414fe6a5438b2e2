theorem s_slot {s k : Nat} (hs : s < 10) (hk : k < 10) {K : Int32 → Prop} (h : K (nI (4 * s + k))) : wX2_slot (nI s) (nI k) K := by
  unfold wX2_slot
  rw [slotI hs hk]
  exact h
def arK (q : Nat → Nat → Bool) (z : Nat → Int64) (s : Nat) : Nat → Int64 → Int64
  | 0, a => a
  | k + 1, a => arK q z s k a + (if q s k then z (4 * s + k) else 0)
def arA (q : Nat → Nat → Bool) (z : Nat → Int64) (c : Nat → Nat) : Nat → Int64
  | 0 => 0
  | s + 1 => arK q z s (c s) (arA q z c s)
def szB (xl xr yl yh : Nat → Int32) (b : Nat) : Int64 := (xr b - xl b).toInt64 * (yh b - yl b).toInt64
def qB (ms : Nat → Int32) (c : Nat → Nat) (co : Nat → Nat) (x s k : Nat) : Bool := decide (co (PO ms c s k) = x)
section AREA
variable {n x : Nat} {c co : Nat → Nat} {bx xl xr yl yh ms pf hu : Nat → Int32}
theorem s_size20 (hn : n ≤ 10) (hb : ∀ i, i < 10 → bx i = nI (c i) ∧ c i ≤ 4 ∧ (n ≤ i → c i = 0)) (hpf : ∀ s k, s < n → k < c s → pf (4 * s + k) = nI (PO ms c s k)) (hN : cA ms c n ≤ 40) (hh : ∀ j, j < cA ms c n → hu j = nI (co j) ∧ co j < 4) (hx : x < 4) {s : Nat} (hs : s < n)
    {a : Int64} {ps : Int32} {K : Int64 → Prop} {k84 : Int32 → Int64 → Int32 → Prop} (hK : k84 (nI x) (arK (qB ms c co x) (szB xl xr yl yh) s (c s) a) (nI s)) :
    ∀ (m k : Nat), k ≤ c s → c s - k < m → lpX4_sizeOf_20 ps bx xl xr yl yh pf hu K k84 m (nI x) (arK (qB ms c co x) (szB xl xr yl yh) s k a) (nI s) (nI k) := by
  have hcs := (hb s (by omega)).2.1
  intro m
  induction m with
  | zero => intro k _ h; omega
  | succ m ih =>
    intro k h1 h2
    rw [lpX4_sizeOf_20.eq_2]
    refine ⟨vp_in_nI (by omega) (by omega), ?_⟩
    rw [nI_clamp (show s < 2 ^ 31 by omega), (hb s (by omega)).1]
    refine ⟨fun h => ?_, fun h => ?_⟩
    · have e : k = c s := by rw [nI_leI (by omega) (by omega)] at h; omega
      subst e; exact hK
    · have hk : k < c s := by rw [nI_leI (by omega) (by omega)] at h; omega
      have hQ : PO ms c s k < cA ms c n := PO_lt hs hk
      have hn1 := ih (k + 1) (by omega) (by omega)
      refine s_slot (by omega) (by omega) ?_
      rw [nI_clamp (show 4 * s + k < 2 ^ 31 by omega), hpf s k hs hk, nI_clamp (show PO ms c s k < 2 ^ 31 by omega), (hh _ hQ).1]
      have hc4 := (hh _ hQ).2
      refine ⟨vp_in_nI (by omega) (by omega), vp_in_nI (by omega) (by omega), fun he => ?_, fun he => ?_⟩
      · unfold bkX4_sizeOf_78
        rintro _ rfl
        rw [nI_1]
        have e : qB ms c co x s k = false := decide_eq_false (fun e => he (by rw [e]))
        have e2 : arK (qB ms c co x) (szB xl xr yl yh) s (k + 1) a = arK (qB ms c co x) (szB xl xr yl yh) s k a := by
          show arK _ _ s k a + (if qB ms c co x s k then _ else 0) = _
          rw [e]
          exact Int64.add_zero _
        rw [e2] at hn1
        exact hn1
      · unfold wX2_size
        rw [nI_clamp (show 4 * s + k < 2 ^ 31 by omega)]
        refine ⟨vp_in_nI (by omega) (by omega), vp_in_nI (by omega) (by omega), vp_in_nI (by omega) (by omega), vp_in_nI (by omega) (by omega), ?_⟩
        rintro _ rfl
        unfold bkX4_sizeOf_78
        rintro _ rfl
        rw [nI_1]
        have e : qB ms c co x s k = true := decide_eq_true (nI_inj (by omega) (by omega) he)
        have e2 : arK (qB ms c co x) (szB xl xr yl yh) s (k + 1) a = arK (qB ms c co x) (szB xl xr yl yh) s k a + szB xl xr yl yh (4 * s + k) := by
          show arK _ _ s k a + (if qB ms c co x s k then _ else 0) = _
          rw [e]
          rfl
        rw [e2] at hn1
        exact hn1
theorem s_sizeOf (hn : n ≤ 10) (hb : ∀ i, i < 10 → bx i = nI (c i) ∧ c i ≤ 4 ∧ (n ≤ i → c i = 0)) (hpf : ∀ s k, s < n → k < c s → pf (4 * s + k) = nI (PO ms c s k)) (hN : cA ms c n ≤ 40) (hh : ∀ j, j < cA ms c n → hu j = nI (co j) ∧ co j < 4) (hx : x < 4)
    {K : Int64 → Prop} (hK : K (arA (qB ms c co x) (szB xl xr yl yh) c n)) : wX4_sizeOf (nI n) bx xl xr yl yh pf hu (nI x) K := by
  have key : ∀ (m s : Nat), s ≤ n → n - s < m → lpX4_sizeOf_5 (nI n) bx xl xr yl yh pf hu K (fun v2 => K v2) m (nI x) (arA (qB ms c co x) (szB xl xr yl yh) c s) (nI s) := by
    intro m
    induction m with
    | zero => intro s _ h; omega
    | succ m ih =>
      intro s h1 h2
      rw [lpX4_sizeOf_5.eq_2]
      refine ⟨fun h => ?_, fun h => ?_⟩
      · have e : s = n := by rw [nI_leI (by omega) (by omega)] at h; omega
        subst e; exact hK
      · have hs : s < n := by rw [nI_leI (by omega) (by omega)] at h; omega
        refine ⟨c s + 1, s_size20 hn hb hpf hN hh hx hs ?_ (c s + 1) 0 (by omega) (by omega)⟩
        rintro _ rfl
        rw [nI_1]
        exact ih (s + 1) (by omega) (by omega)
  exact ⟨n + 1, key (n + 1) 0 (by omega) (by omega)⟩
variable {kd ka kc kp : Int32} {my po so st : Nat → Int32} {nm : Nat → Int64} {cm : Nat → Int32} {K : Int64 → (Int32 × Int32 × (Nat → Int32) × (Nat → Int32) × (Nat → Int32) × (Nat → Int64)) → Prop}
theorem s_area56 (hn : n ≤ 10) (hb : ∀ i, i < 10 → bx i = nI (c i) ∧ c i ≤ 4 ∧ (n ≤ i → c i = 0)) (hpf : ∀ s k, s < n → k < c s → po (4 * s + k) = nI (PO ms c s k)) (hN : cA ms c n ≤ 40) (hh : ∀ j, j < cA ms c n → cm j = nI (co j) ∧ co j < 4) (hx : x < 4) {s : Nat} (hs : s < n)
    {a : Int64} {kn : Int32} {k139 : Int32 → Int32 → (Nat → Int32) → (Nat → Int32) → (Nat → Int32) → (Nat → Int64) → Int32 → Int64 → Int32 → Prop} (hK : k139 kc kp po so st nm (nI x) (arK (qB ms c co x) (szB xl xr yl yh) s (c s) a) (nI s)) :
    ∀ (m k : Nat), k ≤ c s → c s - k < m → lpX5_area_56 kd kn ka bx xl yl xr yh my cm K k139 m kc kp po so st nm (nI x) (arK (qB ms c co x) (szB xl xr yl yh) s k a) (nI s) (nI k) := by
  have hcs := (hb s (by omega)).2.1
  intro m
  induction m with
  | zero => intro k _ h; omega
  | succ m ih =>
    intro k h1 h2
    rw [lpX5_area_56.eq_2]
    refine ⟨vp_in_nI (by omega) (by omega), ?_⟩
    rw [nI_clamp (show s < 2 ^ 31 by omega), (hb s (by omega)).1]
    refine ⟨fun h => ?_, fun h => ?_⟩
    · have e : k = c s := by rw [nI_leI (by omega) (by omega)] at h; omega
      subst e; exact hK
    · have hk : k < c s := by rw [nI_leI (by omega) (by omega)] at h; omega
      have hQ : PO ms c s k < cA ms c n := PO_lt hs hk
      have hn1 := ih (k + 1) (by omega) (by omega)
      rintro _ rfl
      rw [slotJ, nI_clamp (show 4 * s + k < 2 ^ 31 by omega), hpf s k hs hk, nI_clamp (show PO ms c s k < 2 ^ 31 by omega), (hh _ hQ).1]
      have hc4 := (hh _ hQ).2
      refine ⟨vp_in_nI (by omega) (by omega), vp_in_nI (by omega) (by omega), fun he => ?_, fun he => ⟨vp_in_nI (by omega) (by omega), vp_in_nI (by omega) (by omega), vp_in_nI (by omega) (by omega), vp_in_nI (by omega) (by omega), ?_⟩⟩
      · unfold bkX5_area_131
        rintro _ rfl _ rfl
        rw [nI_1]
        have e : qB ms c co x s k = false := decide_eq_false (fun e => he (by rw [e]))
        have e2 : arK (qB ms c co x) (szB xl xr yl yh) s (k + 1) a = arK (qB ms c co x) (szB xl xr yl yh) s k a + 0 := by
          show arK _ _ s k a + (if qB ms c co x s k then _ else 0) = _
          rw [e]
          rfl
        rw [e2] at hn1
        exact hn1
      · unfold bkX5_area_131
        rintro _ rfl _ rfl
        rw [nI_1]
        have e : qB ms c co x s k = true := decide_eq_true (nI_inj (by omega) (by omega) he)
        have e2 : arK (qB ms c co x) (szB xl xr yl yh) s (k + 1) a = arK (qB ms c co x) (szB xl xr yl yh) s k a + szB xl xr yl yh (4 * s + k) := by
          show arK _ _ s k a + (if qB ms c co x s k then _ else 0) = _
          rw [e]
          rfl
        rw [e2] at hn1
        exact hn1
theorem s_area30 (hn : n ≤ 10) (hb : ∀ i, i < 10 → bx i = nI (c i) ∧ c i ≤ 4 ∧ (n ≤ i → c i = 0)) (hpf : ∀ s k, s < n → k < c s → po (4 * s + k) = nI (PO ms c s k)) (hN : cA ms c n ≤ 40) (hh : ∀ j, j < cA ms c n → cm j = nI (co j) ∧ co j < 4) (hx : x < 4)
    {k145 : Int32 → Int32 → (Nat → Int32) → (Nat → Int32) → (Nat → Int32) → (Nat → Int64) → Int64 → Prop} (hK : k145 0 kp po so st nm (arA (qB ms c co x) (szB xl xr yl yh) c n)) : ∃ z, lpX5_area_30 kd (nI n) 0 bx xl yl xr yh my cm K k145 z 0 kp po so st nm (nI x) 0 0 := by
  have key : ∀ (m s : Nat), s ≤ n → n - s < m → lpX5_area_30 kd (nI n) 0 bx xl yl xr yh my cm K k145 m 0 kp po so st nm (nI x) (arA (qB ms c co x) (szB xl xr yl yh) c s) (nI s) := by
    intro m
    induction m with
    | zero => intro s _ h; omega
    | succ m ih =>
      intro s h1 h2
      rw [lpX5_area_30.eq_2]
      refine ⟨fun h => ?_, fun h => ⟨fun h => absurd rfl h, fun _ => ⟨fun h => absurd rfl h, fun _ => ?_⟩⟩⟩
      · have e : s = n := by rw [nI_leI (by omega) (by omega)] at h; omega
        subst e; exact hK
      · have hs : s < n := by rw [nI_leI (by omega) (by omega)] at h; omega
        refine ⟨c s + 1, s_area56 hn hb hpf hN hh hx hs ?_ (c s + 1) 0 (by omega) (by omega)⟩
        rintro _ rfl
        rw [nI_1]
        exact ih (s + 1) (by omega) (by omega)
  exact ⟨n + 1, key (n + 1) 0 (by omega) (by omega)⟩
theorem s_area30n {kn v1 : Int32} (h : ¬ kc = 0 ∨ ¬ ka = 0) {cn xs ys x2 y2 : Nat → Int32}
    {k145 : Int32 → Int32 → (Nat → Int32) → (Nat → Int32) → (Nat → Int32) → (Nat → Int64) → Int64 → Prop} (hK : k145 kc kp po so st nm 0) : ∃ z, lpX5_area_30 kd kn ka cn xs ys x2 y2 my cm K k145 z kc kp po so st nm v1 0 0 := by
  refine ⟨1, ?_⟩
  rw [lpX5_area_30.eq_2]
  exact ⟨fun _ => hK, fun _ => ⟨fun _ => hK, fun h1 => ⟨fun _ => hK, fun h2 => absurd h (fun h3 => h3.elim (fun h4 => h4 h1) (fun h4 => h4 h2))⟩⟩⟩
end AREA
