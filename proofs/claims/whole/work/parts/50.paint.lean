def CR (N : Nat) (g : Nat → Bool) (co : Nat → Nat) (hu uu : Nat → Int32) : Prop := (∀ j, j < N → hu j = nI (co j) ∧ co j < 4) ∧ (N ≠ 0 → uu (N - 1) = nI (ud g co (N - 1)))
theorem s_search30 {N cols most B : Nat} (hN : N ≤ 40) (hc : 2 ≤ cols) (hc4 : cols ≤ 4) (hm : most < 1000) (hB : B ≤ 20000) {nr : Nat → Int64} {sl cl : Nat → Int32} {g : Nat → Bool} (hs : ∀ p, p < N → sl p = z1 (g p))
    {K : Int32 → (Int32 × (Nat → Int32) × (Nat → Int32) × (Nat → Int64)) → Prop} {k93 k120 k122 : Int32 → (Nat → Int32) → (Nat → Int32) → (Nat → Int64) → Prop} :
    ∀ (b p : Nat) (co : Nat → Nat) (hu uu : Nat → Int32) (pd : Nat → Int64) (pt : Nat), p < N → pt + b = B → (∀ j, j ≤ p → hu j = nI (co j) ∧ co j < 4) → (∀ j, j < p → uu j = nI (ud g co j)) → (∀ x, x < 4 → ∀ j, tb (pd x) j = decide (j < p ∧ co j = x)) →
    ((TR N cols (FT g nr cl most) b p co).1 = 0 → ∀ hu uu pd, CR N g (TR N cols (FT g nr cl most) b p co).2.2 hu uu → k93 (nI (B - (TR N cols (FT g nr cl most) b p co).2.1)) hu uu pd) →
    ((TR N cols (FT g nr cl most) b p co).1 = 1 → ∀ hu uu pd, k120 (nI (B - (TR N cols (FT g nr cl most) b p co).2.1)) hu uu pd) →
    ((TR N cols (FT g nr cl most) b p co).1 = 2 → ∀ hu uu pd, k122 (nI (B - (TR N cols (FT g nr cl most) b p co).2.1)) hu uu pd) →
    lpX1_search_30 (nI N) nr sl cl K k93 k120 k122 (b + 1) (nI pt) hu uu pd (nI cols) (nI B) (nI most) (nI p) := by
  intro b
  induction b with
  | zero =>
    intro p co hu uu pd pt hp hpt hh hu2 hpd h0 h1 h2
    rw [lpX1_search_30.eq_2]
    refine ⟨fun _ => ?_, fun h => absurd ((nI_leI (by omega) (by omega)).mpr (by omega)) h⟩
    have := h2 rfl hu uu pd
    have e : B - (TR N cols (FT g nr cl most) 0 p co).2.1 = pt := by show B - 0 = pt; omega
    rw [e] at this
    exact this
  | succ b ih =>
    intro p co hu uu pd pt hp hpt hh hu2 hpd h0 h1 h2
    have hcp := (hh p (by omega)).2
    rw [lpX1_search_30.eq_2]
    refine ⟨fun h => absurd ((nI_leI (by omega) (by omega)).mp h) (by omega), fun _ => ?_⟩
    rintro _ rfl
    refine s_fits (by omega) hm (hs p hp) hh hu2 hpd ?_
    rw [nI_1]
    refine br_z (fun hF => ?_) (fun hF => ?_)
    · refine s_goOn hc4 (by omega) hh hpd (fun q pd hq hpd2 => ⟨fun _ => ?_, fun h => absurd (nI_pos' (by have := (bk_le hq).1; omega)) h⟩) (fun pd hq => ⟨fun h => absurd h (by decide), fun _ => ?_⟩)
      · obtain ⟨hq1, hq2⟩ := bk_le hq
        rw [TR_bk hF hq] at h0 h1 h2
        refine ih q _ _ _ _ (pt + 1) (by omega) (by omega) (fun j hj => ?_) (fun j hj => ?_) (fun x hx j => ?_) h0 h1 h2
        · show upd hu q (nI (co q + 1)) j = _ ∧ _
          by_cases e : j = q
          · subst e; rw [u_s, uN_s]; exact ⟨rfl, by omega⟩
          · rw [u_n e, uN_n e]; exact hh j (by omega)
        · show upd uu p _ j = _
          rw [u_n (by omega), hu2 j (by omega)]
          congr 1
          exact ud_cong (fun i hi => (uN_n (by omega)).symm)
        · show tb (pd x) j = _
          rw [hpd2 x hx j]
          by_cases e : j < q
          · rw [uN_n (by omega)]
          · rw [decide_eq_false (fun h => e h.1), decide_eq_false (fun h => e h.1)]
      · rw [TR_no hF hq] at h1
        have := h1 rfl hu (upd uu p (nI (ud g co p))) pd
        have e : B - (1, b, co).2.1 = pt + 1 := by show B - b = pt + 1; omega
        rw [e] at this
        exact this
    · refine ⟨vp_in_nI (by omega) (by omega), ?_⟩
      rw [nI_clamp (by omega), (hh p (by omega)).1, nI_clamp (show co p < 2 ^ 31 by omega)]
      refine ⟨vp_in_nI (by omega) (by omega), s_bit ⟨vp_in_nI (by omega) (by omega), ?_⟩⟩
      rintro _ rfl _ rfl
      rw [nI_1]
      have huu : ∀ j, j < p + 1 → upd uu p (nI (ud g co p)) j = nI (ud g co j) := by
        intro j hj
        by_cases e : j = p
        · subst e; exact u_s
        · rw [u_n e]; exact hu2 j (by omega)
      refine ⟨fun h => ⟨vp_in_nI (by have : p + 1 ≠ N := fun e => h (by rw [e]); omega) (by omega), ?_⟩, fun h => ?_⟩
      · have hp1 : p + 1 ≠ N := fun e => h (by rw [e])
        rintro _ rfl
        rw [TR_go hF hp1] at h0 h1 h2
        refine ih (p + 1) _ _ _ _ (pt + 1) (by omega) (by omega) (fun j hj => ?_) (fun j hj => ?_) (fun x hx j => ?_) h0 h1 h2
        · rw [nI_clamp (by omega)]
          by_cases e : j = p + 1
          · subst e; rw [u_s, uN_s]; exact ⟨rfl, by omega⟩
          · rw [u_n e, uN_n e]; exact hh j (by omega)
        · rw [huu j hj]
          congr 1
          exact ud_cong (fun i hi => (uN_n (by omega)).symm)
        · by_cases ex : x = co p
          · subst ex
            rw [uL_s, tb_or, tb_b1 (by omega), hpd _ hx j]
            by_cases e : j = p
            · subst e
              rw [uN_n (by omega), decide_eq_true (show j = j from rfl), decide_eq_true (show j < j + 1 ∧ co j = co j from ⟨by omega, rfl⟩)]
              simp
            · rw [decide_eq_false e, Bool.or_false]
              by_cases e2 : j < p + 1
              · rw [uN_n (by omega)]
                congr 1
                apply propext
                omega
              · rw [decide_eq_false (by omega), decide_eq_false (by omega)]
          · rw [uL_n ex, hpd x hx j]
            by_cases e2 : j < p + 1
            · rw [uN_n (by omega)]
              congr 1
              apply propext
              constructor
              · rintro ⟨a, b⟩; exact ⟨by omega, b⟩
              · rintro ⟨a, b⟩
                refine ⟨?_, b⟩
                have : j ≠ p := fun e => ex (by rw [← b, e])
                omega
            · rw [decide_eq_false (by omega), decide_eq_false (by omega)]
      · have hp1 : p + 1 = N := nI_inj (by omega) (by omega) h
        rw [TR_end hF hp1] at h0
        have := h0 rfl hu (upd uu p (nI (ud g co p))) (vp_updL pd (co p) (pd (co p) ||| b1 p)) ⟨fun j hj => hh j (by omega), fun _ => by
          have e : N - 1 = p := by omega
          rw [e]; exact u_s⟩
        have e : B - (0, b, co).2.1 = pt + 1 := by show B - b = pt + 1; omega
        rw [e] at this
        exact this
theorem s_fill {pd : Nat → Int64} {K : (Nat → Int64) → Prop} (hK : ∀ pd : Nat → Int64, (∀ x, x < 4 → pd x = 0) → K pd) : wJ7_fill_d0a16 pd 0 K := by
  have key : ∀ (m i : Nat) (pd : Nat → Int64), i ≤ 4 → 4 - i < m → (∀ x, x < i → pd x = 0) → lpJ7_fill_d0a16_6 K (fun pd => K pd) m pd 0 (nI i) (nI 4) := by
    intro m
    induction m with
    | zero => intro q pd _ h; omega
    | succ m ih =>
      intro i pd h1 h2 hi
      rw [lpJ7_fill_d0a16_6.eq_2]
      refine ⟨fun h => ?_, fun h => ?_⟩
      · have e : i = 4 := by rw [nI_leI (by omega) (by omega)] at h; omega
        subst e; exact hK _ hi
      · have hp : i < 4 := by rw [nI_leI (by omega) (by omega)] at h; omega
        refine ⟨vp_in_nI (by omega) (by omega), ?_⟩
        rintro _ rfl _ rfl
        rw [nI_1, nI_clamp (by omega)]
        refine ih (i + 1) _ (by omega) (by omega) (fun x hx => ?_)
        by_cases e : x = i
        · subst e; exact uL_s
        · rw [uL_n e]; exact hi x (by omega)
  exact ⟨5, key 5 0 pd (by omega) (by omega) (fun x hx => by omega)⟩
def TS (N cols : Nat) (F : Nat → (Nat → Nat) → Bool) (b : Nat) : Nat × Nat × (Nat → Nat) := if N = 0 then (0, b, fun _ => 0) else TR N cols F b 0 (fun _ => 0)
theorem TS_rem {N cols : Nat} {F : Nat → (Nat → Nat) → Bool} {b : Nat} : (TS N cols F b).2.1 ≤ b := by
  unfold TS
  split
  · exact Nat.le_refl _
  · exact TR_rem
theorem TR_cd {N cols : Nat} {F : Nat → (Nat → Nat) → Bool} : ∀ {b p : Nat} {co : Nat → Nat}, (TR N cols F b p co).1 = 0 ∨ (TR N cols F b p co).1 = 1 ∨ (TR N cols F b p co).1 = 2
  | 0, p, co => Or.inr (Or.inr rfl)
  | b + 1, p, co => by
    cases hF : F p co
    · cases hb : bk cols co p with
      | none => rw [TR_no hF hb]; exact Or.inr (Or.inl rfl)
      | some q => rw [TR_bk hF hb]; exact TR_cd
    · by_cases hp : p + 1 = N
      · rw [TR_end hF hp]; exact Or.inl rfl
      · rw [TR_go hF hp]; exact TR_cd
theorem TS_cd {N cols : Nat} {F : Nat → (Nat → Nat) → Bool} {b : Nat} : (TS N cols F b).1 = 0 ∨ (TS N cols F b).1 = 1 ∨ (TS N cols F b).1 = 2 := by
  unfold TS
  split
  · exact Or.inl rfl
  · exact TR_cd
theorem s_search {N cols most B rem pt : Nat} (hN : N ≤ 40) (hc : 2 ≤ cols) (hc4 : cols ≤ 4) (hm : most < 1000) (hB : B ≤ 20000) (hpt : pt + rem = B) {nr : Nat → Int64} {sl cl : Nat → Int32} {g : Nat → Bool} (hs : ∀ p, p < N → sl p = z1 (g p)) {hu uu : Nat → Int32} {pd : Nat → Int64}
    {K : Int32 → (Int32 × (Nat → Int32) × (Nat → Int32) × (Nat → Int64)) → Prop} (hK : ∀ hu uu pd, ((TS N cols (FT g nr cl most) rem).1 = 0 → CR N g (TS N cols (FT g nr cl most) rem).2.2 hu uu) → K (nI (TS N cols (FT g nr cl most) rem).1) (nI (B - (TS N cols (FT g nr cl most) rem).2.1), hu, uu, pd)) :
    wX1_search (nI N) nr sl cl (nI pt) hu uu pd (nI cols) (nI B) (nI most) K := by
  unfold wX1_search
  refine ⟨fun h => ?_, fun h => ?_⟩
  · have hN0 : N ≠ 0 := fun e => h (by rw [e]; rfl)
    have eT : TS N cols (FT g nr cl most) rem = TR N cols (FT g nr cl most) rem 0 (fun _ => 0) := if_neg hN0
    rw [eT] at hK
    refine s_fill (fun pd hpd => ⟨vp_in_nI (n := 0) (by omega) (by omega), ?_⟩)
    rintro _ rfl
    refine ⟨rem + 1, s_search30 hN hc hc4 hm hB hs rem 0 (fun _ => 0) _ _ _ pt (by omega) hpt (fun j hj => ?_) (fun j hj => by omega) (fun x hx j => ?_) (fun e hu uu pd a => ?_) (fun e hu uu pd => ?_) (fun e hu uu pd => ?_)⟩
    · have : j = 0 := by omega
      subst this
      exact ⟨u_s, by omega⟩
    · rw [hpd x hx, tb_0, decide_eq_false (by omega)]
    · have := hK hu uu pd (fun _ => a)
      rw [e] at this; exact this
    · have := hK hu uu pd (fun h => by rw [e] at h; omega)
      rw [e] at this; exact this
    · have := hK hu uu pd (fun h => by rw [e] at h; omega)
      rw [e] at this; exact this
  · have hN0 : N = 0 := by rw [show (0 : Int32) = nI 0 from rfl] at h; exact nI_inj (by omega) (by omega) h
    have eT : TS N cols (FT g nr cl most) rem = (0, rem, fun _ => 0) := if_pos hN0
    rw [eT] at hK
    have := hK hu uu pd (fun _ => ⟨fun j hj => by omega, fun h => absurd hN0 h⟩)
    have e : B - ((0, rem, fun _ => 0) : Nat × Nat × (Nat → Nat)).2.1 = pt := by show B - rem = pt; omega
    rw [e] at this
    exact this
def PT (N cols : Nat) (g : Nat → Bool) (nr : Nat → Int64) (cl : Nat → Int32) : Nat → Nat → Nat → Nat × Nat × (Nat → Nat)
  | 0, _, rem => (1, rem, fun _ => 0)
  | k + 1, most, rem => if (TS N cols (FT g nr cl most) rem).1 = 1 then PT N cols g nr cl k (most + 1) (TS N cols (FT g nr cl most) rem).2.1 else TS N cols (FT g nr cl most) rem
theorem PT_cd {N cols : Nat} {g : Nat → Bool} {nr : Nat → Int64} {cl : Nat → Int32} : ∀ {k most rem : Nat}, (PT N cols g nr cl k most rem).1 = 0 ∨ (PT N cols g nr cl k most rem).1 = 1 ∨ (PT N cols g nr cl k most rem).1 = 2
  | 0, _, _ => Or.inr (Or.inl rfl)
  | k + 1, most, rem => by
    unfold PT
    split
    · exact PT_cd
    · exact TS_cd
theorem s_paint {N cols S B : Nat} (hN : N ≤ 40) (hS : S ≤ 40) (hc : 2 ≤ cols) (hc4 : cols ≤ 4) (hB : B ≤ 20000) {nr : Nat → Int64} {sl cl : Nat → Int32} {g : Nat → Bool} (hs : ∀ p, p < N → sl p = z1 (g p)) {po pt : Int32} {hu uu : Nat → Int32} {pd : Nat → Int64}
    {K : (Int32 × Int32 × (Nat → Int32) × (Nat → Int32) × (Nat → Int64)) → Prop} (hK : ∀ hu uu pd, ((PT N cols g nr cl (S + 1) 0 B).1 = 0 → CR N g (PT N cols g nr cl (S + 1) 0 B).2.2 hu uu) → K (nI (PT N cols g nr cl (S + 1) 0 B).1, nI (B - (PT N cols g nr cl (S + 1) 0 B).2.1), hu, uu, pd)) :
    wX1_paint (nI N) (nI S) nr sl cl po pt hu uu pd (nI cols) (nI B) K := by
  have key : ∀ (k most rem pt : Nat) (hu uu : Nat → Int32) (pd : Nat → Int64), most + k = S + 1 → pt + rem = B →
      (∀ hu uu pd, ((PT N cols g nr cl k most rem).1 = 0 → CR N g (PT N cols g nr cl k most rem).2.2 hu uu) → K (nI (PT N cols g nr cl k most rem).1, nI (B - (PT N cols g nr cl k most rem).2.1), hu, uu, pd)) →
      lpX1_paint_12 (nI N) (nI S) nr sl cl K (fun po pt hu uu pd => K (po, pt, hu, uu, pd)) (k + 1) 1 (nI pt) hu uu pd (nI cols) (nI B) (nI most) := by
    intro k
    induction k with
    | zero =>
      intro most rem pt hu uu pd h1 h2 h3
      rw [lpX1_paint_12.eq_2]
      refine ⟨fun _ => ?_, fun h => absurd ((nI_ltI (by omega) (by omega)).mpr (by omega)) h⟩
      have := h3 hu uu pd (fun h => absurd h (by show ¬ 1 = 0; omega))
      have e : B - (PT N cols g nr cl 0 most rem).2.1 = pt := by show B - rem = pt; omega
      rw [e] at this
      exact this
    | succ k ih =>
      intro most rem pt hu uu pd h1 h2 h3
      rw [lpX1_paint_12.eq_2]
      refine ⟨fun h => absurd ((nI_ltI (by omega) (by omega)).mp h) (by omega), fun _ => ⟨fun h => absurd rfl h, fun _ => ?_⟩⟩
      refine s_search hN hc hc4 (by omega) hB h2 hs (fun hu uu pd hcr => ?_)
      rintro _ rfl
      rw [nI_1]
      have hrem := TS_rem (N := N) (cols := cols) (F := FT g nr cl most) (b := rem)
      by_cases e1 : (TS N cols (FT g nr cl most) rem).1 = 1
      · have eP : PT N cols g nr cl (k + 1) most rem = PT N cols g nr cl k (most + 1) (TS N cols (FT g nr cl most) rem).2.1 := by rw [PT, if_pos e1]
        rw [eP] at h3
        rw [e1]
        exact ih (most + 1) (TS N cols (FT g nr cl most) rem).2.1 (B - (TS N cols (FT g nr cl most) rem).2.1) _ _ _ (by omega) (by omega) h3
      · have eP : PT N cols g nr cl (k + 1) most rem = TS N cols (FT g nr cl most) rem := by rw [PT, if_neg e1]
        rw [eP] at h3
        have h4 := h3 hu uu pd hcr
        rw [lpX1_paint_12.eq_2]
        refine ⟨fun _ => h4, fun _ => ⟨fun _ => h4, fun h => ?_⟩⟩
        have h5 : nI (TS N cols (FT g nr cl most) rem).1 = nI 1 := h
        exact absurd (nI_inj (by rcases TS_cd (N := N) (cols := cols) (F := FT g nr cl most) (b := rem) with h | h | h <;> omega) (by omega) h5) e1
  exact ⟨S + 1 + 1, key (S + 1) 0 B 0 hu uu pd (by omega) (by omega) hK⟩
