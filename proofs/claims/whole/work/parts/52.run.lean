def k78 (kn kp : Int32) (cn tl po st : Nat → Int32) (nr : Nat → Int64) (K : Int32 → (Int32 × (Nat → Int32)) → Prop) (k42 : Int32 → (Nat → Int32) → Prop) (k118 : Int32 → (Nat → Int32) → Int32 → Prop) (n : Nat) : Int32 → (Nat → Int32) → Int32 → Int32 → Int32 → Int32 → Int32 → Prop :=
  fun (kt : Int32) (co : (Nat → Int32)) (v1 : Int32) (v2 : Int32) (v3 : Int32) (v4 : Int32) (v6 : Int32) => ((v6 = 0 → (∀ i19 : Int32, i19 = v4 + (-1) → ((0 ≤ i19 → (vp_in i19 40 ∧ bkX5_look_113 kn kp cn tl po st nr K (fun kt co v1 v2 v3 v4 v5 => lpX5_look_6 kn kp cn tl po st nr K k42 k118 n kt co v1 v2 v3 v4 v5) kt co v1 v2 v3 i19 (((co i19.toNatClampNeg) + 1)))) ∧ (¬ (0 ≤ i19) → bkX5_look_113 kn kp cn tl po st nr K (fun kt co v1 v2 v3 v4 v5 => lpX5_look_6 kn kp cn tl po st nr K k42 k118 n kt co v1 v2 v3 v4 v5) kt co v1 v2 v3 i19 0)))) ∧ (¬ (v6 = 0) → (∀ i22 : Int32, i22 = v4 + 1 → bkX5_look_115 kn kp cn tl po st nr K (fun kt co v1 v2 v3 v4 v5 => lpX5_look_6 kn kp cn tl po st nr K k42 k118 n kt co v1 v2 v3 v4 v5) kt co v1 v2 v3 i22 0)))
section LOOK
variable {n N cols most B : Nat} {c : Nat → Nat} {bx ms tl po st : Nat → Int32} {nm nr : Nat → Int64} {cl : Nat → Int32} {g : Nat → Bool} {K : Int32 → (Int32 × (Nat → Int32)) → Prop} {k42 : Int32 → (Nat → Int32) → Prop} {k118 : Int32 → (Nat → Int32) → Int32 → Prop}
theorem look_in {kn : Int32} {z' z p : Nat} (hp : p < N) (hN : N ≤ 40) {kt v1 v2 v3 v5 : Int32} {cm : Nat → Int32} (h : lpX5_look_23 kn (nI N) bx tl po st nm K k42 (k78 kn (nI N) bx tl po st nm K k42 k118 z') z kt cm v1 v2 v3 (nI p) v5 0) : lpX5_look_6 kn (nI N) bx tl po st nm K k42 k118 (z' + 1) kt cm v1 v2 v3 (nI p) v5 := by
  rw [lpX5_look_6.eq_2]
  refine ⟨fun h => absurd h (nI_pos (by omega)), fun _ => ⟨fun h => absurd ((nI_leI (by omega) (by omega)).mp h) (by omega), fun _ => ⟨z, h⟩⟩⟩
theorem look_back (hN : N ≤ 40) (hc : cols ≤ 4) {kn kt v2 v3 : Int32} {co : Nat → Nat} {cm : Nat → Int32} :
    ∀ (p : Nat), p < N → (∀ j, j ≤ p → cm j = nI (co j) ∧ co j < 4) → ¬ (co p + 1 < cols) → (bk cols co p = none → k118 kt cm (-1)) → (∀ q, bk cols co p = some q → ∃ z' z, lpX5_look_23 kn (nI N) bx tl po st nm K k42 (k78 kn (nI N) bx tl po st nm K k42 k118 z') z kt cm (nI cols) v2 v3 (nI q) (nI (co q + 1)) 0) →
    ∃ z', k78 kn (nI N) bx tl po st nm K k42 k118 z' kt cm (nI cols) v2 v3 (nI p) 0 := by
  intro p
  induction p with
  | zero =>
    intro hp hh hc0 h1 h2
    refine ⟨1, fun _ => ?_, fun h => absurd rfl h⟩
    rintro _ rfl
    refine ⟨fun h => absurd h (by decide), fun _ => ?_⟩
    unfold bkX5_look_113 bkX5_look_115
    show lpX5_look_6 kn (nI N) bx tl po st nm K k42 k118 1 kt cm (nI cols) v2 v3 (nI 0 + -1) 0
    rw [lpX5_look_6.eq_2, show nI 0 + -1 = (-1 : Int32) by decide]
    refine ⟨fun _ => h1 ?_, fun h => absurd (by decide) h⟩
    unfold bk; rw [if_neg hc0]
  | succ p ih =>
    intro hp hh hc0 h1 h2
    have eb : bk cols co (p + 1) = bk cols co p := by
      show (if co (p + 1) + 1 < cols then some (p + 1) else bk cols co p) = _
      rw [if_neg hc0]
    rw [eb] at h1 h2
    have hcp := hh p (by omega)
    have fin : (∃ z, lpX5_look_6 kn (nI N) bx tl po st nm K k42 k118 z kt cm (nI cols) v2 v3 (nI p) (nI (co p + 1))) → ∃ z', k78 kn (nI N) bx tl po st nm K k42 k118 z' kt cm (nI cols) v2 v3 (nI (p + 1)) 0 := by
      rintro ⟨z, hz⟩
      refine ⟨z, fun _ => ?_, fun h => absurd rfl h⟩
      rintro _ rfl
      rw [nI_dec (by omega)]
      refine ⟨fun _ => ⟨vp_in_nI (by omega) (by omega), ?_⟩, fun h => absurd (nI_pos' (by omega)) h⟩
      unfold bkX5_look_113 bkX5_look_115
      show lpX5_look_6 kn (nI N) bx tl po st nm K k42 k118 z kt cm (nI cols) v2 v3 (nI (p + 1 - 1)) (cm (nI (p + 1 - 1)).toNatClampNeg + 1)
      rw [Nat.add_sub_cancel, nI_clamp (by omega), hcp.1, nI_1]
      exact hz
    apply fin
    by_cases hcl : co p + 1 < cols
    · obtain ⟨z', z, hz⟩ := h2 p (bk_hd hcl)
      exact ⟨z' + 1, look_in (by omega) hN hz⟩
    · obtain ⟨z', hz⟩ := ih (by omega) (fun j hj => hh j (by omega)) hcl h1 h2
      refine ⟨z' + 1, look_in (z := 1) (by omega) hN ?_⟩
      rw [lpX5_look_23.eq_2]
      exact ⟨fun _ => hz, fun h => absurd ((nI_leI (by omega) (by omega)).mpr (by omega)) h⟩
theorem s_look23 (hn : n ≤ 10) (hb : ∀ i, i < 10 → bx i = nI (c i) ∧ c i ≤ 4 ∧ (n ≤ i → c i = 0)) (hpo : ∀ s k, s < n → k < c s → po (4 * s + k) = nI (PO ms c s k)) (htl : ∀ s k, s < n → k < c s → tl (4 * s + k) = -1 ∨ ∃ x, x < 4 ∧ tl (4 * s + k) = nI x)
    (hN : N ≤ 40) (hc2 : 2 ≤ cols) (hc : cols ≤ 4) (hm : most < 1000) (hB : B ≤ 20000) (hst : ∀ j, j < N → st j = z1 (g j)) (hnm : ∀ p, p < N → nm p = nr p) (hcl : ∀ p, p < N → ∀ x, x < 4 → (tc (cl p) x = true ↔ ∀ s k, s < n → k < c s → PO ms c s k = p → okc (tl (4 * s + k)) x)) :
    ∀ (b p : Nat) (co : Nat → Nat) (cm : Nat → Int32) (kt : Nat), p < N → kt + b = B → (∀ j, j < p → cm j = nI (co j) ∧ co j < 4) → co p < cols →
    ((TR N cols (FT g nr cl most) b p co).1 = 0 → ∀ cm, (∀ j, j < N → cm j = nI ((TR N cols (FT g nr cl most) b p co).2.2 j) ∧ (TR N cols (FT g nr cl most) b p co).2.2 j < 4) → k118 (nI (B - (TR N cols (FT g nr cl most) b p co).2.1)) cm (nI N)) →
    ((TR N cols (FT g nr cl most) b p co).1 = 1 → ∀ cm, k118 (nI (B - (TR N cols (FT g nr cl most) b p co).2.1)) cm (-1)) →
    ((TR N cols (FT g nr cl most) b p co).1 = 2 → ∀ cm, k42 (nI (B - (TR N cols (FT g nr cl most) b p co).2.1)) cm) →
    ∃ z' z, lpX5_look_23 (nI n) (nI N) bx tl po st nm K k42 (k78 (nI n) (nI N) bx tl po st nm K k42 k118 z') z (nI kt) cm (nI cols) (nI most) (nI B) (nI p) (nI (co p)) 0 := by
  intro b
  induction b with
  | zero =>
    intro p co cm kt hp hkt hh hcp h0 h1 h2
    refine ⟨0, 1, ?_⟩
    rw [lpX5_look_23.eq_2]
    refine ⟨fun h => absurd ((nI_leI (by omega) (by omega)).mp h) (by omega), fun _ => ⟨fun h => absurd rfl h, fun _ => ⟨fun h => absurd (by rw [show kt = B by omega]) h, fun _ => ?_⟩⟩⟩
    have := h2 rfl cm
    have e : B - (TR N cols (FT g nr cl most) 0 p co).2.1 = kt := by show B - 0 = kt; omega
    rw [e] at this
    exact this
  | succ b ih =>
    intro p co cm kt hp hkt hh hcp h0 h1 h2
    have hh2 : ∀ j, j ≤ p → upd cm p (nI (co p)) j = nI (co j) ∧ co j < 4 := by
      intro j hj
      by_cases e : j = p
      · subst e; exact ⟨u_s, by omega⟩
      · rw [u_n e]; exact hh j (by omega)
    suffices hS : ∃ z' z, lpX5_look_23 (nI n) (nI N) bx tl po st nm K k42 (k78 (nI n) (nI N) bx tl po st nm K k42 k118 z') z (nI (kt + 1)) (upd cm p (nI (co p))) (nI cols) (nI most) (nI B) (nI p) (nI (co p + 1)) (z1 (FT g nr cl most p co)) by
      obtain ⟨z', z, hz⟩ := hS
      refine ⟨z', z + 1, ?_⟩
      rw [lpX5_look_23.eq_2]
      refine ⟨fun h => absurd ((nI_leI (by omega) (by omega)).mp h) (by omega), fun _ => ⟨fun h => absurd rfl h, fun _ => ⟨fun _ => ?_, fun h => ?_⟩⟩⟩
      · rintro _ rfl
        refine ⟨vp_in_nI (by omega) (by omega), ?_⟩
        rintro _ rfl
        rw [nI_clamp (by omega)]
        refine s_fits5 hn hb hpo htl hm (by omega) (fun j hj => hst j (by omega)) hh2 (hnm p hp) (hcl p hp (co p) (by omega)) ?_
        rintro _ rfl
        rw [nI_1, nI_1]
        exact hz
      · have := nI_inj (by omega) (by omega) h
        omega
    cases hF : FT g nr cl most p co
    · by_cases hcl2 : co p + 1 < cols
      · rw [TR_bk hF (bk_hd hcl2)] at h0 h1 h2
        have := ih p (uN co p (co p + 1)) (upd cm p (nI (co p))) (kt + 1) hp (by omega) (fun j hj => by rw [uN_n (by omega)]; exact hh2 j (by omega)) (by rw [uN_s]; exact hcl2) h0 h1 h2
        rw [uN_s] at this
        exact this
      · have hA : bk cols co p = none → k118 (nI (kt + 1)) (upd cm p (nI (co p))) (-1) := by
          intro hb
          rw [TR_no hF hb] at h1
          have := h1 rfl (upd cm p (nI (co p)))
          have e : B - ((1, b, co) : Nat × Nat × (Nat → Nat)).2.1 = kt + 1 := by show B - b = kt + 1; omega
          rw [e] at this
          exact this
        have hQ : ∀ q, bk cols co p = some q → ∃ z' z, lpX5_look_23 (nI n) (nI N) bx tl po st nm K k42 (k78 (nI n) (nI N) bx tl po st nm K k42 k118 z') z (nI (kt + 1)) (upd cm p (nI (co p))) (nI cols) (nI most) (nI B) (nI q) (nI (co q + 1)) 0 := by
          intro q hq
          obtain ⟨hq1, hq2⟩ := bk_le hq
          rw [TR_bk hF hq] at h0 h1 h2
          have := ih q (uN co q (co q + 1)) (upd cm p (nI (co p))) (kt + 1) (by omega) (by omega) (fun j hj => by rw [uN_n (by omega)]; exact hh2 j (by omega)) (by rw [uN_s]; exact hq2) h0 h1 h2
          rw [uN_s] at this
          exact this
        obtain ⟨z', hz⟩ := look_back hN hc p hp hh2 hcl2 hA hQ
        refine ⟨z', 1, ?_⟩
        rw [lpX5_look_23.eq_2]
        exact ⟨fun _ => hz, fun h => absurd ((nI_leI (by omega) (by omega)).mpr (by omega)) h⟩
    · have fin : (∃ z, lpX5_look_6 (nI n) (nI N) bx tl po st nm K k42 k118 z (nI (kt + 1)) (upd cm p (nI (co p))) (nI cols) (nI most) (nI B) (nI (p + 1)) 0) → ∃ z' z, lpX5_look_23 (nI n) (nI N) bx tl po st nm K k42 (k78 (nI n) (nI N) bx tl po st nm K k42 k118 z') z (nI (kt + 1)) (upd cm p (nI (co p))) (nI cols) (nI most) (nI B) (nI p) (nI (co p + 1)) (z1 true) := by
        rintro ⟨z, hz⟩
        have hk : k78 (nI n) (nI N) bx tl po st nm K k42 k118 z (nI (kt + 1)) (upd cm p (nI (co p))) (nI cols) (nI most) (nI B) (nI p) (z1 true) := by
          refine ⟨fun h => absurd h (by decide), fun _ => ?_⟩
          rintro _ rfl
          unfold bkX5_look_115
          rw [nI_1]
          exact hz
        refine ⟨z, 1, ?_⟩
        rw [lpX5_look_23.eq_2]
        exact ⟨fun _ => hk, fun _ => ⟨fun _ => hk, fun h => absurd h (by decide)⟩⟩
      apply fin
      by_cases hp1 : p + 1 = N
      · rw [TR_end hF hp1] at h0
        refine ⟨1, ?_⟩
        rw [lpX5_look_6.eq_2]
        refine ⟨fun h => absurd h (nI_pos (by omega)), fun _ => ⟨fun _ => ?_, fun h => absurd ((nI_leI (by omega) (by omega)).mpr (by omega)) h⟩⟩
        have := h0 rfl (upd cm p (nI (co p))) (fun j hj => hh2 j (by omega))
        have e : B - ((0, b, co) : Nat × Nat × (Nat → Nat)).2.1 = kt + 1 := by show B - b = kt + 1; omega
        rw [e] at this
        rw [hp1]
        exact this
      · rw [TR_go hF hp1] at h0 h1 h2
        obtain ⟨z', z, hz⟩ := ih (p + 1) (uN co (p + 1) 0) (upd cm p (nI (co p))) (kt + 1) (by omega) (by omega) (fun j hj => by rw [uN_n (by omega)]; exact hh2 j (by omega)) (by rw [uN_s]; omega) h0 h1 h2
        rw [uN_s] at hz
        exact ⟨z' + 1, look_in (by omega) hN hz⟩
end LOOK
def CM (N : Nat) (co : Nat → Nat) (cm : Nat → Int32) : Prop := ∀ j, j < N → cm j = nI (co j) ∧ co j < 4
section RUN
variable {n N cols B : Nat} {c : Nat → Nat} {bx ms tl po st : Nat → Int32} {nm nr : Nat → Int64} {cl : Nat → Int32} {g : Nat → Bool}
theorem s_look {most rem kt : Nat} (hn : n ≤ 10) (hb : ∀ i, i < 10 → bx i = nI (c i) ∧ c i ≤ 4 ∧ (n ≤ i → c i = 0)) (hpo : ∀ s k, s < n → k < c s → po (4 * s + k) = nI (PO ms c s k)) (htl : ∀ s k, s < n → k < c s → tl (4 * s + k) = -1 ∨ ∃ x, x < 4 ∧ tl (4 * s + k) = nI x)
    (hN : N ≤ 40) (hc2 : 2 ≤ cols) (hc : cols ≤ 4) (hm : most < 1000) (hB : B ≤ 20000) (hst : ∀ j, j < N → st j = z1 (g j)) (hnm : ∀ p, p < N → nm p = nr p) (hcl : ∀ p, p < N → ∀ x, x < 4 → (tc (cl p) x = true ↔ ∀ s k, s < n → k < c s → PO ms c s k = p → okc (tl (4 * s + k)) x))
    (hkt : kt + rem = B) {cm : Nat → Int32} {K : Int32 → (Int32 × (Nat → Int32)) → Prop} (hK : ∀ cm, ((TS N cols (FT g nr cl most) rem).1 = 0 → CM N (TS N cols (FT g nr cl most) rem).2.2 cm) → K (nI (TS N cols (FT g nr cl most) rem).1) (nI (B - (TS N cols (FT g nr cl most) rem).2.1), cm)) :
    wX5_look (nI n) (nI N) bx tl po st nm (nI kt) cm (nI cols) (nI most) (nI B) K := by
  unfold wX5_look
  by_cases hN0 : N = 0
  · have eT : TS N cols (FT g nr cl most) rem = (0, rem, fun _ => 0) := if_pos hN0
    rw [eT] at hK
    refine ⟨1, ?_⟩
    rw [lpX5_look_6.eq_2]
    subst hN0
    refine ⟨fun h => absurd h (by decide), fun _ => ⟨fun _ => ⟨fun _ => ?_, fun h => absurd (by decide) h⟩, fun h => absurd (by decide) h⟩⟩
    have := hK cm (fun _ j hj => by omega)
    have e : B - ((0, rem, fun _ => 0) : Nat × Nat × (Nat → Nat)).2.1 = kt := by show B - rem = kt; omega
    rw [e] at this
    exact this
  · have eT : TS N cols (FT g nr cl most) rem = TR N cols (FT g nr cl most) rem 0 (fun _ => 0) := if_neg hN0
    rw [eT] at hK
    obtain ⟨z', z, hz⟩ := s_look23 (K := K) (k42 := fun (kt : Int32) (co : (Nat → Int32)) => K 2 (kt, co)) (k118 := fun (kt : Int32) (co : (Nat → Int32)) (v4 : Int32) => ((0 ≤ v4 → K 0 (kt, co)) ∧ (¬ (0 ≤ v4) → K 1 (kt, co)))) hn hb hpo htl hN hc2 hc hm hB hst hnm hcl rem 0 (fun _ => 0) cm kt (by omega) hkt (fun j hj => by omega) (by show 0 < cols; omega)
      (fun e cm a => ⟨fun _ => by have := hK cm (fun _ => a); rw [e] at this; exact this, fun h => absurd (nI_pos' (by omega)) h⟩)
      (fun e cm => ⟨fun h => absurd h (by decide), fun _ => by have := hK cm (fun h => by rw [e] at h; omega); rw [e] at this; exact this⟩)
      (fun e cm => by have := hK cm (fun h => by rw [e] at h; omega); rw [e] at this; exact this)
    exact ⟨z' + 1, look_in (p := 0) (by omega) hN hz⟩
theorem s_run66 {kd kc ku : Int32} {xs ys x2 y2 my so : Nat → Int32} {S : Nat} (hS : S ≤ 40) (hn : n ≤ 10) (hb : ∀ i, i < 10 → bx i = nI (c i) ∧ c i ≤ 4 ∧ (n ≤ i → c i = 0)) (hpo : ∀ s k, s < n → k < c s → po (4 * s + k) = nI (PO ms c s k)) (htl : ∀ s k, s < n → k < c s → tl (4 * s + k) = -1 ∨ ∃ x, x < 4 ∧ tl (4 * s + k) = nI x)
    (hN : N ≤ 40) (hc2 : 2 ≤ cols) (hc : cols ≤ 4) (hB : B ≤ 20000) (hst : ∀ j, j < N → st j = z1 (g j)) (hnm : ∀ p, p < N → nm p = nr p) (hcl : ∀ p, p < N → ∀ x, x < 4 → (tc (cl p) x = true ↔ ∀ s k, s < n → k < c s → PO ms c s k = p → okc (tl (4 * s + k)) x))
    {K : Int32 → (Int32 × Int32 × Int32 × Int32 × Int32 × (Nat → Int32) × (Nat → Int32) × (Nat → Int32) × (Nat → Int64) × (Nat → Int32)) → Prop} {k98 : Int32 → Int32 → Int32 → Int32 → Int32 → (Nat → Int32) → (Nat → Int32) → (Nat → Int32) → (Nat → Int64) → (Nat → Int32) → Prop} :
    ∀ (k most rem kt : Nat) (cm : Nat → Int32), most + k = S + 1 → kt + rem = B → (∀ cm, ((PT N cols g nr cl k most rem).1 = 0 → CM N (PT N cols g nr cl k most rem).2.2 cm) → k98 kc (nI N) (nI (PT N cols g nr cl k most rem).1) (nI (B - (PT N cols g nr cl k most rem).2.1)) ku po so st nm cm) →
    lpX5_run_66 kd (nI n) bx xs ys x2 y2 my tl K k98 (k + 1) kc (nI N) 1 (nI kt) ku po so st nm cm (nI cols) (nI B) (nI S) (nI most) := by
  intro k
  induction k with
  | zero =>
    intro most rem kt cm h1 h2 h3
    rw [lpX5_run_66.eq_2]
    refine ⟨fun _ => ?_, fun h => absurd ((nI_ltI (by omega) (by omega)).mpr (by omega)) h⟩
    have := h3 cm (fun h => absurd h (by show ¬ 1 = 0; omega))
    have e : B - (PT N cols g nr cl 0 most rem).2.1 = kt := by show B - rem = kt; omega
    rw [e] at this
    exact this
  | succ k ih =>
    intro most rem kt cm h1 h2 h3
    rw [lpX5_run_66.eq_2]
    refine ⟨fun h => absurd ((nI_ltI (by omega) (by omega)).mp h) (by omega), fun _ => ⟨fun h => absurd rfl h, fun _ => ?_⟩⟩
    refine s_look hn hb hpo htl hN hc2 hc (by omega) hB hst hnm hcl h2 (fun cm hcr => ?_)
    rintro _ rfl
    rw [nI_1]
    have hrem := TS_rem (N := N) (cols := cols) (F := FT g nr cl most) (b := rem)
    by_cases e1 : (TS N cols (FT g nr cl most) rem).1 = 1
    · have eP : PT N cols g nr cl (k + 1) most rem = PT N cols g nr cl k (most + 1) (TS N cols (FT g nr cl most) rem).2.1 := by rw [PT, if_pos e1]
      rw [eP] at h3
      rw [e1]
      exact ih (most + 1) (TS N cols (FT g nr cl most) rem).2.1 (B - (TS N cols (FT g nr cl most) rem).2.1) _ (by omega) (by omega) h3
    · have eP : PT N cols g nr cl (k + 1) most rem = TS N cols (FT g nr cl most) rem := by rw [PT, if_neg e1]
      rw [eP] at h3
      have h4 := h3 cm hcr
      rw [lpX5_run_66.eq_2]
      refine ⟨fun _ => h4, fun _ => ⟨fun _ => h4, fun h => ?_⟩⟩
      have h5 : nI (TS N cols (FT g nr cl most) rem).1 = nI 1 := h
      exact absurd (nI_inj (by rcases TS_cd (N := N) (cols := cols) (F := FT g nr cl most) (b := rem) with h | h | h <;> omega) (by omega) h5) e1
end RUN
def uF (g : Nat → Bool) (co : Nat → Nat) (N : Nat) : Nat := if N = 0 then 0 else ud g co (N - 1)
theorem s_run32 {pg ps : Int32} {bx xl xr yl yh ms wt : Nat → Int32} {d n : Nat} {c : Nat → Nat} (hp : PLN pg ps bx xl xr yl yh ms wt d n c) {np nq ns : Int32} {pf : Nat → Int32} {nr : Nat → Int64} {sl cl : Nat → Int32} (hr : NETR d n c xl xr yl yh ms wt np nq ns pf nr sl cl)
    {tl : Nat → Int32} (htl : ∀ s k, s < n → k < c s → tl (4 * s + k) = wt (4 * s + k)) {cols B : Nat} (hc2 : 2 ≤ cols) (hc : cols ≤ 4) (hB : B ≤ 20000)
    {kc kp ka kt ku : Int32} {po so st : Nat → Int32} {nm : Nat → Int64} {cm : Nat → Int32} {K : Int32 → (Int32 × Int32 × Int32 × Int32 × Int32 × (Nat → Int32) × (Nat → Int32) × (Nat → Int32) × (Nat → Int64) × (Nat → Int32)) → Prop}
    (hK : ∀ kp po so st nm cm, MPR d n c xl xr yl yh ms kp po st nm → ((PT (cA ms c n) cols (slA ms c n) nr cl (cntB (slA ms c n) (cA ms c n) + 1) 0 B).1 = 0 → CM (cA ms c n) (PT (cA ms c n) cols (slA ms c n) nr cl (cntB (slA ms c n) (cA ms c n) + 1) 0 B).2.2 cm) →
      K (nI (PT (cA ms c n) cols (slA ms c n) nr cl (cntB (slA ms c n) (cA ms c n) + 1) 0 B).1) (0, kp, nI (PT (cA ms c n) cols (slA ms c n) nr cl (cntB (slA ms c n) (cA ms c n) + 1) 0 B).1, nI (B - (PT (cA ms c n) cols (slA ms c n) nr cl (cntB (slA ms c n) (cA ms c n) + 1) 0 B).2.1),
        (if (PT (cA ms c n) cols (slA ms c n) nr cl (cntB (slA ms c n) (cA ms c n) + 1) 0 B).1 = 0 then nI (uF (slA ms c n) (PT (cA ms c n) cols (slA ms c n) nr cl (cntB (slA ms c n) (cA ms c n) + 1) 0 B).2.2 (cA ms c n)) else -1), po, so, st, nm, cm)) :
    bkX5_run_32 pg ps bx xl yl xr yh ms tl K kc kp ka kt ku po so st nm cm (nI cols) (nI B) 0 := by
  have hp0 := hp
  obtain ⟨⟨rfl, hd1, hd2⟩, ⟨rfl, hn⟩, hb, hu, hv⟩ := hp0
  obtain ⟨r1, r2, r3, r4, r5, r6⟩ := hr
  have hGR := NI_GR hn (fun i hi => (hb i hi).2.1) r4
  have hco : ∀ s k, s < n → k < c s → COK xl xr yl yh (4 * s + k) := fun s k hs hk => (hu s k hs hk).1
  unfold bkX5_run_32
  refine ⟨fun _ => s_findParts hp (fun kp po so st nm hM => ?_), fun h => absurd (by decide) h⟩
  have hM0 := hM
  obtain ⟨rfl, m2, m3, m4⟩ := hM0
  refine s_stitches hGR.1 m3 ?_
  have hS : cntB (slA ms c n) (cA ms c n) ≤ 40 := Nat.le_trans (cntB_le _ _) hGR.1
  refine ⟨_, s_run66 (g := slA ms c n) (nr := nr) (cl := cl) hS hn hb m2 (fun s k hs hk => by rw [htl s k hs hk]; exact (hu s k hs hk).2.2) hGR.1 hc2 hc hB m3 (MI_eq hco r4 m4) (fun p hp x hx => ?_) (cntB (slA ms c n) (cA ms c n) + 1) 0 B 0 cm (by omega) (by omega) (fun cm hcm => ?_)⟩
  · rw [r6 p hp x hx]
    constructor
    · intro h s k hs hk e
      rw [htl s k hs hk]; exact h s k hs hk e
    · intro h s k hs hk e
      rw [← htl s k hs hk]; exact h s k hs hk e
  · have hK2 := hK _ po so st nm cm hM hcm
    have hcd := PT_cd (N := cA ms c n) (cols := cols) (g := slA ms c n) (nr := nr) (cl := cl) (k := cntB (slA ms c n) (cA ms c n) + 1) (most := 0) (rem := B)
    generalize PT (cA ms c n) cols (slA ms c n) nr cl (cntB (slA ms c n) (cA ms c n) + 1) 0 B = R at hcm hK2 hcd ⊢
    unfold bkX5_run_120
    refine ⟨fun h => ?_, fun h => ?_⟩
    · have e : ¬ R.1 = 0 := fun e => h (by rw [e]; rfl)
      rw [if_neg e] at hK2
      exact hK2
    · by_cases e : R.1 = 0
      · rw [if_pos e] at hK2
        by_cases hN0 : cA ms c n = 0
        · refine ⟨1, ?_⟩
          rw [lpX5_usedUpTo_4.eq_2, hN0]
          refine ⟨fun _ => ?_, fun h => absurd (by decide) h⟩
          have e2 : uF (slA ms c n) R.2.2 (cA ms c n) = 0 := if_pos hN0
          rw [e2, hN0] at hK2
          exact hK2
        · rw [sub1 (by omega)]
          have hN40 := hGR.1
          refine s_usedUpTo (g := slA ms c n) (co := R.2.2) (by omega) (fun j hj => m3 j (by omega)) (fun j hj => hcm e j (by omega)) ?_
          have e2 : uF (slA ms c n) R.2.2 (cA ms c n) = ud (slA ms c n) R.2.2 (cA ms c n - 1) := if_neg hN0
          rw [e2] at hK2
          exact hK2
      · rw [if_neg e] at hK2
        rcases hcd with h9 | h9 | h9
        · exact absurd h9 e
        · rw [h9] at h; exact absurd h (by decide)
        · rw [h9] at h; exact absurd h (by decide)
