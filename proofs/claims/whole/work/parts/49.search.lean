def uN (f : Nat → Nat) (k v : Nat) : Nat → Nat := fun j => if j = k then v else f j
theorem uN_s {f : Nat → Nat} {k v : Nat} : uN f k v k = v := if_pos rfl
theorem uN_n {f : Nat → Nat} {k v j : Nat} (h : j ≠ k) : uN f k v j = f j := if_neg h
def ud (g : Nat → Bool) (co : Nat → Nat) : Nat → Nat
  | 0 => 0
  | p + 1 => ud g co p + (if g (p + 1) && decide (co (p + 1) ≠ co p) then 1 else 0)
theorem ud_le (g : Nat → Bool) (co : Nat → Nat) (p : Nat) : ud g co p ≤ p := by
  induction p with
  | zero => exact Nat.le_refl 0
  | succ p ih => show ud g co p + _ ≤ p + 1; split <;> omega
theorem ud_cong {g : Nat → Bool} {co co' : Nat → Nat} : ∀ {p : Nat}, (∀ j, j ≤ p → co j = co' j) → ud g co p = ud g co' p
  | 0, _ => rfl
  | p + 1, h => by
    show ud g co p + _ = ud g co' p + _
    rw [ud_cong (p := p) (fun j hj => h j (by omega)), h (p + 1) (by omega), h p (by omega)]
def ncf (nr : Nat → Int64) (co : Nat → Nat) (p : Nat) : Nat → Bool
  | 0 => true
  | q + 1 => ncf nr co p q && !(tb (nr p) q && decide (co q = co p))
theorem ncf_iff {nr : Nat → Int64} {co : Nat → Nat} {p : Nat} : ∀ {q : Nat}, ncf nr co p q = true ↔ ∀ j, j < q → tb (nr p) j = true → co j ≠ co p
  | 0 => ⟨fun _ j hj => by omega, fun _ => rfl⟩
  | q + 1 => by
    show (ncf nr co p q && !(tb (nr p) q && decide (co q = co p))) = true ↔ _
    rw [Bool.and_eq_true, ncf_iff (q := q)]
    constructor
    · rintro ⟨h1, h2⟩ j hj ht
      by_cases e : j = q
      · subst e
        rw [ht] at h2
        simpa using h2
      · exact h1 j (by omega) ht
    · intro h
      refine ⟨fun j hj ht => h j (by omega) ht, ?_⟩
      cases ht : tb (nr p) q
      · rfl
      · simpa using h q (by omega) ht
def FT (g : Nat → Bool) (nr : Nat → Int64) (cl : Nat → Int32) (most p : Nat) (co : Nat → Nat) : Bool := (decide (ud g co p ≤ most) && ncf nr co p p) && tc (cl p) (co p)
def bk (cols : Nat) (co : Nat → Nat) : Nat → Option Nat
  | 0 => if co 0 + 1 < cols then some 0 else none
  | p + 1 => if co (p + 1) + 1 < cols then some (p + 1) else bk cols co p
theorem bk_le {cols : Nat} {co : Nat → Nat} : ∀ {p q : Nat}, bk cols co p = some q → q ≤ p ∧ co q + 1 < cols
  | 0, q, h => by
    unfold bk at h
    split at h
    · rename_i h1
      injection h with h
      subst h; exact ⟨Nat.le_refl 0, h1⟩
    · simp at h
  | p + 1, q, h => by
    unfold bk at h
    split at h
    · rename_i h1
      injection h with h
      subst h; exact ⟨Nat.le_refl _, h1⟩
    · have := bk_le (p := p) h
      exact ⟨by omega, this.2⟩
theorem bk_hd {cols : Nat} {co : Nat → Nat} {p : Nat} (h : co p + 1 < cols) : bk cols co p = some p := by
  cases p with
  | zero => unfold bk; rw [if_pos h]
  | succ p => unfold bk; rw [if_pos h]
def TR (N cols : Nat) (F : Nat → (Nat → Nat) → Bool) : Nat → Nat → (Nat → Nat) → Nat × Nat × (Nat → Nat)
  | 0, _, co => (2, 0, co)
  | b + 1, p, co =>
    if F p co = true then (if p + 1 = N then (0, b, co) else TR N cols F b (p + 1) (uN co (p + 1) 0))
    else match bk cols co p with
      | none => (1, b, co)
      | some q => TR N cols F b q (uN co q (co q + 1))
section TRR
variable {N cols : Nat} {F : Nat → (Nat → Nat) → Bool} {b p q : Nat} {co : Nat → Nat}
theorem TR_end (h : F p co = true) (hp : p + 1 = N) : TR N cols F (b + 1) p co = (0, b, co) := by
  rw [TR, if_pos h, if_pos hp]
theorem TR_go (h : F p co = true) (hp : p + 1 ≠ N) : TR N cols F (b + 1) p co = TR N cols F b (p + 1) (uN co (p + 1) 0) := by
  rw [TR, if_pos h, if_neg hp]
theorem TR_no (h : F p co = false) (hb : bk cols co p = none) : TR N cols F (b + 1) p co = (1, b, co) := by
  rw [TR, if_neg (by rw [h]; decide), hb]
theorem TR_bk (h : F p co = false) (hb : bk cols co p = some q) : TR N cols F (b + 1) p co = TR N cols F b q (uN co q (co q + 1)) := by
  rw [TR, if_neg (by rw [h]; decide), hb]
end TRR
theorem TR_rem {N cols : Nat} {F : Nat → (Nat → Nat) → Bool} : ∀ {b p : Nat} {co : Nat → Nat}, (TR N cols F b p co).2.1 ≤ b
  | 0, p, co => Nat.le_refl 0
  | b + 1, p, co => by
    cases hF : F p co
    · cases hb : bk cols co p with
      | none => rw [TR_no hF hb]; exact Nat.le_succ b
      | some q => rw [TR_bk hF hb]; have := TR_rem (N := N) (cols := cols) (F := F) (b := b) (p := q) (co := uN co q (co q + 1)); omega
    · by_cases hp : p + 1 = N
      · rw [TR_end hF hp]; exact Nat.le_succ b
      · rw [TR_go hF hp]; have := TR_rem (N := N) (cols := cols) (F := F) (b := b) (p := p + 1) (co := uN co (p + 1) 0); omega
theorem s_usedWith {sl hu uu : Nat → Int32} {g : Nat → Bool} {co : Nat → Nat} {p : Nat} (hp : p < 40) (hs : sl p = z1 (g p)) (hh : ∀ j, j ≤ p → hu j = nI (co j) ∧ co j < 4) (hu2 : ∀ j, j < p → uu j = nI (ud g co j)) {K : Int32 → Prop} (hK : K (nI (ud g co p))) : wX1_usedWith sl hu uu (nI p) K := by
  unfold wX1_usedWith
  refine ⟨fun h0 => ⟨vp_in_nI (by omega) (by omega), ?_⟩, fun h0 => ?_⟩
  · obtain ⟨p, rfl⟩ : ∃ q, p = q + 1 := by
      cases p with
      | zero => exact absurd rfl h0
      | succ p => exact ⟨p, rfl⟩
    have e1 : nI (p + 1) - 1 = nI p := sub1 (by omega)
    have hK2 : ∀ u : Bool, u = (g (p + 1) && decide (co (p + 1) ≠ co p)) → bkX1_usedWith_40 sl hu uu K (nI (p + 1)) (z1 u) := by
      intro u eu
      have hK' : K (nI (ud g co p + (if u then 1 else 0))) := by rw [eu]; exact hK
      unfold bkX1_usedWith_40
      rw [e1, nI_clamp (by omega), hu2 p (by omega)]
      refine ⟨vp_in_nI (by omega) (by omega), br_z (fun hz => ?_) (fun hz => ?_)⟩
      · rw [hz] at hK'
        rw [show (0 : Int32) = nI 0 from rfl, nI_add]; exact hK'
      · rw [hz] at hK'
        rw [nI_1]; exact hK'
    rw [nI_clamp (by omega), hs]
    refine br_z (fun hz => ?_) (fun hz => ⟨vp_in_nI (by omega) (by omega), ?_, ?_⟩)
    · exact hK2 false (by rw [hz]; rfl)
    · rw [e1]; exact vp_in_nI (by omega) (by omega)
    · rw [e1, nI_clamp (by omega), (hh (p + 1) (by omega)).1, (hh p (by omega)).1]
      have b1 := (hh (p + 1) (by omega)).2
      have b2 := (hh p (by omega)).2
      refine ⟨fun he => ?_, fun he => ?_⟩
      · have : co (p + 1) = co p := nI_inj (by omega) (by omega) he
        exact hK2 false (by simp [this])
      · have : ¬ co (p + 1) = co p := fun e => he (by rw [e])
        exact hK2 true (by simp [this, hz])
  · have e : p = 0 := by rw [show (0 : Int32) = nI 0 from rfl] at h0; exact nI_inj (by omega) (by omega) h0
    subst e; exact hK
theorem pd_and {pd nrp : Int64} {nr : Nat → Int64} {co : Nat → Nat} {p : Nat} (hpd : ∀ j, tb pd j = decide (j < p ∧ co j = co p)) (hn : nr p = nrp) : (pd &&& nrp) = 0 ↔ ncf nr co p p = true := by
  subst hn
  rw [ncf_iff]
  constructor
  · intro h j hj ht e
    have h1 : tb (pd &&& nr p) j = false := by rw [h, tb_0]
    rw [tb_and, hpd, ht, decide_eq_true ⟨hj, e⟩] at h1
    exact absurd h1 (by decide)
  · intro h
    apply tb_ext
    intro j _
    rw [tb_and, tb_0, hpd]
    by_cases e : j < p ∧ co j = co p
    · cases ht : tb (nr p) j
      · simp
      · exact absurd e.2 (h j e.1 ht)
    · rw [decide_eq_false e]; rfl
theorem s_fits {nr : Nat → Int64} {sl cl hu uu : Nat → Int32} {pd : Nat → Int64} {g : Nat → Bool} {co : Nat → Nat} {p most : Nat} (hp : p < 40) (hm : most < 1000) (hs : sl p = z1 (g p)) (hh : ∀ j, j ≤ p → hu j = nI (co j) ∧ co j < 4) (hu2 : ∀ j, j < p → uu j = nI (ud g co j)) (hpd : ∀ x, x < 4 → ∀ j, tb (pd x) j = decide (j < p ∧ co j = x))
    {K : Int32 → (Nat → Int32) → Prop} (hK : K (z1 (FT g nr cl most p co)) (upd uu p (nI (ud g co p)))) : wX1_fits nr sl cl hu pd uu (nI p) (nI most) K := by
  unfold wX1_fits
  have hcp := (hh p (by omega)).2
  have hul := ud_le g co p
  refine s_usedWith hp hs hh hu2 ⟨vp_in_nI (by omega) (by omega), ?_⟩
  rintro _ rfl
  rw [nI_clamp (by omega), (hh p (by omega)).1, nI_clamp (show co p < 2 ^ 31 by omega), and_c1 _ (by omega), lg_0, pd_and (nr := nr) (co := co) (p := p) (hpd (co p) hcp) rfl, u_s, nI_ltI (by omega) (by omega)]
  refine ⟨vp_in_nI (by omega) (by omega), vp_in_nI (by omega) (by omega), fun h1 => ?_, fun h1 => ⟨vp_in_nI (by omega) (by omega), vp_in_nI (by omega) (by omega), vp_in_nI (by omega) (by omega), fun h2 => ?_, fun h2 => ⟨vp_in_nI (by omega) (by omega), fun h3 => ?_, fun h3 => ?_⟩⟩⟩
  · have e : FT g nr cl most p co = false := by unfold FT; rw [h1]; simp
    rw [e] at hK; exact hK
  · have e : FT g nr cl most p co = false := by unfold FT; rw [show ncf nr co p p = false by simpa using h2]; simp
    rw [e] at hK; exact hK
  · have e : FT g nr cl most p co = false := by unfold FT; rw [decide_eq_false (by omega)]; simp
    rw [e] at hK; exact hK
  · have e : FT g nr cl most p co = true := by unfold FT; rw [decide_eq_true (by omega), h2, show tc (cl p) (co p) = true by simpa using h1]; rfl
    rw [e] at hK; exact hK
theorem s_goOn2 {hu : Nat → Int32} {co : Nat → Nat} {cols : Nat} (hc : cols ≤ 4) {K : Int32 → ((Nat → Int32) × (Nat → Int64)) → Prop} {k40 : (Nat → Int32) → (Nat → Int64) → Int32 → Prop} {k58 : (Nat → Int32) → (Nat → Int64) → Prop} :
    ∀ (p : Nat) (pd : Nat → Int64), p < 40 → (∀ j, j ≤ p → hu j = nI (co j) ∧ co j < 4) → (∀ x, x < 4 → (∀ j, j ≠ p → tb (pd x) j = decide (j < p ∧ co j = x)) ∧ (x ≠ co p → tb (pd x) p = false)) →
    (h40 : ∀ q pd, bk cols co p = some q → (∀ x, x < 4 → ∀ j, tb (pd x) j = decide (j < q ∧ co j = x)) → k40 hu pd (nI q)) → (h58 : ∀ pd, bk cols co p = none → k58 hu pd) → lpX1_goOn_2 K k40 k58 (p + 2) hu pd (nI cols) (nI p) := by
  intro p
  induction p with
  | zero =>
    intro pd hp hh hpd h40 h58
    have hcp := (hh 0 (by omega)).2
    rw [lpX1_goOn_2.eq_2]
    refine ⟨fun h => absurd h (nI_pos (by omega)), fun _ => ⟨vp_in_nI (by omega) (by omega), ?_⟩⟩
    rw [nI_clamp (by omega), (hh 0 (by omega)).1, nI_clamp (show co 0 < 2 ^ 31 by omega)]
    refine ⟨vp_in_nI (by omega) (by omega), s_bit ⟨vp_in_nI (by omega) (by omega), ?_⟩⟩
    rintro _ rfl
    have hnew : ∀ x, x < 4 → ∀ j, tb (vp_updL pd (co 0) (pd (co 0) &&& (b1 0 ^^^ (-1))) x) j = decide (j < 0 ∧ co j = x) := by
      intro x hx j
      rw [decide_eq_false (by omega)]
      by_cases ex : x = co 0
      · subst ex
        rw [uL_s, tb_and]
        by_cases hj : j < 64
        · rw [tb_not hj, tb_b1 (by omega)]
          by_cases e : j = 0
          · simp [e]
          · rw [(hpd _ hx).1 j e]; simp
        · rw [tb_big (by omega)]; rfl
      · rw [uL_n ex]
        by_cases e : j = 0
        · subst e; exact (hpd x hx).2 ex
        · rw [(hpd x hx).1 j e]; simp
    refine ⟨vp_in_nI (by omega) (by omega), ?_⟩
    rw [nI_1, nI_leI (by omega) (by omega)]
    refine ⟨fun h => ?_, fun h => ?_⟩
    · rintro _ rfl
      rw [lpX1_goOn_2.eq_2]
      refine ⟨fun _ => h58 _ ?_, fun h2 => absurd (by decide) h2⟩
      unfold bk; rw [if_neg (by omega)]
    · exact h40 0 _ (bk_hd (by omega)) hnew
  | succ p ih =>
    intro pd hp hh hpd h40 h58
    have hcp := (hh (p + 1) (by omega)).2
    rw [lpX1_goOn_2.eq_2]
    refine ⟨fun h => absurd h (nI_pos (by omega)), fun _ => ⟨vp_in_nI (by omega) (by omega), ?_⟩⟩
    rw [nI_clamp (by omega), (hh (p + 1) (by omega)).1, nI_clamp (show co (p + 1) < 2 ^ 31 by omega)]
    refine ⟨vp_in_nI (by omega) (by omega), s_bit ⟨vp_in_nI (by omega) (by omega), ?_⟩⟩
    rintro _ rfl
    have hnew : ∀ x, x < 4 → ∀ j, tb (vp_updL pd (co (p + 1)) (pd (co (p + 1)) &&& (b1 (p + 1) ^^^ (-1))) x) j = decide (j < p + 1 ∧ co j = x) := by
      intro x hx j
      by_cases ex : x = co (p + 1)
      · subst ex
        rw [uL_s, tb_and]
        by_cases hj : j < 64
        · rw [tb_not hj, tb_b1 (by omega)]
          by_cases e : j = p + 1
          · subst e; simp
          · rw [(hpd _ hx).1 j e]; simp [e]
        · rw [tb_big (by omega), decide_eq_false (by omega)]; rfl
      · rw [uL_n ex]
        by_cases e : j = p + 1
        · subst e; rw [(hpd x hx).2 ex, decide_eq_false (by omega)]
        · rw [(hpd x hx).1 j e]
    refine ⟨vp_in_nI (by omega) (by omega), ?_⟩
    rw [nI_1, nI_leI (by omega) (by omega)]
    refine ⟨fun h => ?_, fun h => ?_⟩
    · rintro _ rfl
      rw [nI_dec (by omega)]
      have eb : bk cols co (p + 1) = bk cols co p := by
        show (if co (p + 1) + 1 < cols then some (p + 1) else bk cols co p) = _
        rw [if_neg (by omega)]
      refine ih _ (by omega) (fun j hj => hh j (by omega)) (fun x hx => ⟨fun j hj => ?_, fun hx2 => ?_⟩) (fun q pd hq h => h40 q pd (by rw [eb]; exact hq) h) (fun pd h => h58 pd (by rw [eb]; exact h))
      · rw [hnew x hx j]
        congr 1
        apply propext
        omega
      · rw [hnew x hx p, decide_eq_false]
        rintro ⟨_, e⟩
        exact hx2 e.symm
    · exact h40 (p + 1) _ (bk_hd (by omega)) hnew
theorem s_goOn {hu : Nat → Int32} {co : Nat → Nat} {cols p : Nat} {pd : Nat → Int64} (hc : cols ≤ 4) (hp : p < 40) (hh : ∀ j, j ≤ p → hu j = nI (co j) ∧ co j < 4) (hpd : ∀ x, x < 4 → ∀ j, tb (pd x) j = decide (j < p ∧ co j = x)) {K : Int32 → ((Nat → Int32) × (Nat → Int64)) → Prop}
    (h1 : ∀ q pd, bk cols co p = some q → (∀ x, x < 4 → ∀ j, tb (pd x) j = decide (j < q ∧ co j = x)) → K (nI q) (upd hu q (nI (co q + 1)), pd)) (h0 : ∀ pd, bk cols co p = none → K (-1) (hu, pd)) : wX1_goOn hu pd (nI p) (nI cols) K := by
  refine ⟨p + 2, s_goOn2 hc p pd hp hh (fun x hx => ⟨fun j _ => hpd x hx j, fun _ => ?_⟩) (fun q pd hq h => ?_) (fun pd h => h0 pd h)⟩
  · rw [hpd x hx p, decide_eq_false (by omega)]
  · have hq2 := bk_le hq
    refine ⟨vp_in_nI (by omega) (by omega), vp_in_nI (by omega) (by omega), ?_⟩
    rintro _ rfl
    rw [nI_clamp (by omega), (hh q hq2.1).1, nI_1]
    exact h1 q pd hq h
