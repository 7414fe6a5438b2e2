def SP (a b : Int32) : Prop := -10000 ≤ a.toInt ∧ a.toInt < b.toInt ∧ b.toInt ≤ 10000
theorem s_isSpan {a b : Int32} {K : Int32 → Prop} (h1 : SP a b → K 1) (h0 : ¬ SP a b → K 0) : wX4_isSpan a b K := by
  have e1 : (-10000 : Int32).toInt = -10000 := rfl
  have e2 : (10000 : Int32).toInt = 10000 := rfl
  unfold wX4_isSpan
  rw [i_lt, i_lt, i_le, e1, e2]
  unfold SP at h1 h0
  refine ⟨fun h => h0 (by omega), fun h => ⟨fun h2 => h0 (by omega), fun h2 => ⟨fun h3 => h0 (by omega), fun h3 => h1 (by omega)⟩⟩⟩
theorem s_hasS {n : Nat} (hn : n ≤ 10) {v : Int32} {K : Int32 → Prop} (h1 : ∀ s, s < n → v = nI s → K 1) (h0 : (∀ s, s < n → v = nI s → False) → K 0) : wX2_hasShape (nI n) v K := by
  apply s_hasShape hn
  cases e : inI v.toInt 0 ((n : Int) - 1)
  · refine h0 (fun s hs ev => ?_)
    subst ev
    rw [inI_nI (by omega), decide_eq_false_iff_not] at e
    exact e hs
  · obtain ⟨s, hs, ev⟩ := inI_nat (by omega) e
    exact h1 s hs ev
theorem s_isS {n : Nat} (hn : n ≤ 10) {v : Int32} {K : Int32 → Prop} (h1 : ∀ s, s < n → v = nI s → K 1) (h0 : (∀ s, s < n → v = nI s → False) → K 0) : wX5_isShape (nI n) v K := by
  apply s_isShape hn
  cases e : inI v.toInt 0 ((n : Int) - 1)
  · refine h0 (fun s hs ev => ?_)
    subst ev
    rw [inI_nI (by omega), decide_eq_false_iff_not] at e
    exact e hs
  · obtain ⟨s, hs, ev⟩ := inI_nat (by omega) e
    exact h1 s hs ev
theorem s_isBox1 {n : Nat} {c : Nat → Nat} {bx : Nat → Int32} (hn : n ≤ 10) (hb : ∀ i, i < 10 → bx i = nI (c i) ∧ c i ≤ 4 ∧ (n ≤ i → c i = 0)) {s k : Nat} (hs : s < n) (hk : k < c s) {K : Int32 → Prop} (h : K 1) : wX5_isBox (nI n) bx (nI s) (nI k) K :=
  s_isBox hn hb (fun _ _ _ _ _ _ => h) (fun h0 => absurd (h0 s k hs hk rfl rfl) id)
theorem s_isBox0 {n : Nat} {c : Nat → Nat} {bx : Nat → Int32} (hn : n ≤ 10) (hb : ∀ i, i < 10 → bx i = nI (c i) ∧ c i ≤ 4 ∧ (n ≤ i → c i = 0)) {v w : Int32} (hno : ∀ s k, s < n → k < c s → v = nI s → w = nI k → False) {K : Int32 → Prop} (h : K 0) : wX5_isBox (nI n) bx v w K :=
  s_isBox hn hb (fun s k hs hk e1 e2 => absurd (hno s k hs hk e1 e2) id) (fun _ => h)
theorem s_place {v : Int32} {K : Int32 → Prop} (h1 : -10000 ≤ v.toInt ∧ v.toInt ≤ 10000 → K 1) (h0 : ¬ (-10000 ≤ v.toInt ∧ v.toInt ≤ 10000) → K 0) : wX5_isPlace v K := by
  apply s_isPlace
  cases e : inI v.toInt (-10000) 10000
  · exact h0 (inI_f.mp e)
  · exact h1 (inI_t.mp e)
theorem ten : (1 : Int32) ≠ 0 := by decide
section BX
variable {kn kc ka kt : Int32} {cn xs ys x2 y2 my tl : Nat → Int32} {v1 v2 v3 v4 v5 : Int32} {K : Int32 → (Int32 × Int32 × Int32 × (Nat → Int32) × (Nat → Int32) × (Nat → Int32) × (Nat → Int32) × (Nat → Int32) × (Nat → Int32) × (Nat → Int32)) → Prop}
theorem s_box5 (h1 : SP v2 v4 ∧ SP v3 v5 → bkX5_box_47 kn K kc ka kt cn xs ys x2 y2 my tl v1 v2 v3 v4 v5 1) (h0 : ¬ (SP v2 v4 ∧ SP v3 v5) → bkX5_box_47 kn K kc ka kt cn xs ys x2 y2 my tl v1 v2 v3 v4 v5 0) : wX5_box kn kc ka kt cn xs ys x2 y2 my tl v1 v2 v3 v4 v5 K := by
  unfold SP at h1 h0
  unfold wX5_box bkX5_box_46
  refine s_place (fun a1 => ⟨fun h => absurd h ten, fun _ => s_place (fun a2 => ⟨fun h => absurd h ten, fun _ => s_place (fun a3 => ⟨fun h => absurd h ten, fun _ => s_place (fun a4 => ⟨fun h => absurd h ten, fun _ => ⟨fun h => ?_, fun h => ⟨fun h2 => ?_, fun h2 => ?_⟩⟩⟩) (fun a4 => ⟨fun _ => h0 (by omega), fun h => absurd rfl h⟩)⟩) (fun a3 => ⟨fun _ => h0 (by omega), fun h => absurd rfl h⟩)⟩) (fun a2 => ⟨fun _ => h0 (by omega), fun h => absurd rfl h⟩)⟩) (fun a1 => ⟨fun _ => h0 (by omega), fun h => absurd rfl h⟩)
  · rw [i_le] at h; exact h0 (by omega)
  · rw [i_le] at h2; exact h0 (by omega)
  · rw [i_le] at h h2; exact h1 (by omega)
theorem s_box86 {s1 : Int32} (h : ¬ s1 ≤ 0) (hK : K 0 (s1, ka, kt, cn, xs, ys, x2, y2, my, tl)) : bkX5_box_86 kn K kc ka kt cn xs ys x2 y2 my tl v1 v2 v3 v4 v5 s1 := ⟨fun h2 => absurd h2 h, fun _ => hK⟩
theorem s_box86o {c : Nat → Nat} {s : Nat} (hs : s < 10) (hcn : cn s = nI (c s)) (hc : c s < 4) (hmy : my (4 * s + c s) = 0) (hK : K (nI (c s + 1)) (0, -1, 0, upd cn s (nI (c s + 1)), upd xs (4 * s + c s) v2, upd ys (4 * s + c s) v3, upd x2 (4 * s + c s) v4, upd y2 (4 * s + c s) v5, my, upd tl (4 * s + c s) (-1))) : bkX5_box_86 kn K kc ka kt cn xs ys x2 y2 my tl (nI s) v2 v3 v4 v5 0 := by
  have hb : vp_in (nI (4 * s + c s)) 40 := vp_in_nI (by omega) (by omega)
  have hs10 : vp_in (nI s) 10 := vp_in_nI (by omega) (by omega)
  refine ⟨fun _ => ⟨hs10, ?_⟩, fun h => absurd (by decide) h⟩
  rintro _ rfl
  rw [nI_clamp (show s < 2 ^ 31 by omega), hcn, slotJ, nI_clamp (show 4 * s + c s < 2 ^ 31 by omega), nI_1]
  refine ⟨hb, ?_⟩
  rintro _ rfl
  refine ⟨hb, ?_⟩
  rintro _ rfl
  refine ⟨hb, ?_⟩
  rintro _ rfl
  refine ⟨hb, ?_⟩
  rintro _ rfl
  refine ⟨hb, ?_⟩
  rintro _ rfl
  refine ⟨hb, ?_⟩
  rintro _ rfl
  refine ⟨hs10, hs10, ?_⟩
  rintro _ rfl
  rw [show vp_nar .boolean 0 = 0 from z1_vp false, updSame hmy]
  refine ⟨hs10, ?_⟩
  rw [u_s]
  exact hK
end BX
theorem PLN_box {pg ps : Int32} {bx xl xr yl yh ms wt : Nat → Int32} {d n : Nat} {c : Nat → Nat} (hP : PLN pg ps bx xl xr yl yh ms wt d n c) {s : Nat} (hs : s < n) (hc : c s < 4) {v2 v3 v4 v5 : Int32} (h1 : SP v2 v4) (h2 : SP v3 v5) :
    PLN pg ps (upd bx s (nI (c s + 1))) (upd xl (4 * s + c s) v2) (upd xr (4 * s + c s) v4) (upd yl (4 * s + c s) v3) (upd yh (4 * s + c s) v5) ms wt d n (uN c s (c s + 1)) := by
  obtain ⟨hd, ⟨hp1, hn⟩, hb, hu, hv⟩ := hP
  refine ⟨hd, ⟨hp1, hn⟩, fun i hi => ?_, fun s' k' hs' hk' => ?_, fun s' k' hs' hk' hck => ?_⟩
  · by_cases e : i = s
    · subst e
      rw [u_s, uN_s]
      exact ⟨rfl, by omega, fun h => by omega⟩
    · rw [u_n e, uN_n e]; exact hb i hi
  · have hc4 := (hb s' (by omega)).2.1
    by_cases e : s' = s ∧ k' = c s
    · obtain ⟨rfl, rfl⟩ := e
      have hm := hv s' (c s') (by omega) hc (Nat.le_refl _)
      refine ⟨?_, Or.inl hm.1, Or.inl hm.2⟩
      unfold COK
      rw [u_s, u_s, u_s, u_s]
      exact ⟨h1, h2⟩
    · have hk2 : k' < c s' := by
        by_cases e2 : s' = s
        · subst e2
          rw [uN_s] at hk'
          have : k' ≠ c s' := fun h => e ⟨rfl, h⟩
          omega
        · rw [uN_n e2] at hk'; exact hk'
      have hne : 4 * s' + k' ≠ 4 * s + c s := by
        intro h
        apply e
        omega
      obtain ⟨a1, a2, a3⟩ := hu s' k' hs' hk2
      refine ⟨?_, a2, a3⟩
      unfold COK
      rw [u_n hne, u_n hne, u_n hne, u_n hne]
      exact a1
  · refine hv s' k' hs' hk' ?_
    by_cases e2 : s' = s
    · subst e2; rw [uN_s] at hck; omega
    · rw [uN_n e2] at hck; exact hck
theorem lor {A B C : Prop} (h : C) : A ∨ B ∨ C := Or.inr (Or.inr h)
section CS
variable {L t : Nat} {xs : Nat → Int32} {d n : Nat} {c : Nat → Nat} {cpg : Int32} {cps : Int32} {cnf : Int32} {cnp : Int32} {cnq : Int32} {cns : Int32} {cpo : Int32} {cpt : Int32} {crf : Int32} {crl : Int32} {cbx : Nat → Int32} {cxl : Nat → Int32} {cxr : Nat → Int32} {cyl : Nat → Int32} {cyh : Nat → Int32} {cms : Nat → Int32} {cwt : Nat → Int32} {cpf : Nat → Int32} {cnr : Nat → Int64} {csl : Nat → Int32} {ccl : Nat → Int32} {chu : Nat → Int32} {cuu : Nat → Int32} {cpd : Nat → Int64} {cro : Nat → Int32} {crc : Nat → Int64} {ou : Nat → Int64} {mkc : Int32} {mkd : Int32} {mkn : Int32} {mkp : Int32} {mka : Int32} {mkt : Int32} {mku : Int32} {mkr : Int32} {mcn : Nat → Int32} {mxs : Nat → Int32} {mys : Nat → Int32} {mx2 : Nat → Int32} {my2 : Nat → Int32} {mmy : Nat → Int32} {mtl : Nat → Int32} {mpo : Nat → Int32} {mso : Nat → Int32} {mst : Nat → Int32} {mnr : Nat → Int64} {mco : Nat → Int32} {mrg : Nat → Int32} {mre : Nat → Int64} {k : (Int32) → (Int32) → (Int32) → (Int32) → (Int32) → (Int32) → (Int32) → (Int32) → (Int32) → (Int32) → (Nat → Int32) → (Nat → Int32) → (Nat → Int32) → (Nat → Int32) → (Nat → Int32) → (Nat → Int32) → (Nat → Int32) → (Nat → Int32) → (Nat → Int64) → (Nat → Int32) → (Nat → Int32) → (Nat → Int32) → (Nat → Int32) → (Nat → Int64) → (Nat → Int32) → (Nat → Int64) → (Nat → Int64) → (Int32) → (Int32) → (Int32) → (Int32) → (Int32) → (Int32) → (Int32) → (Int32) → (Nat → Int32) → (Nat → Int32) → (Nat → Int32) → (Nat → Int32) → (Nat → Int32) → (Nat → Int32) → (Nat → Int32) → (Nat → Int32) → (Nat → Int32) → (Nat → Int32) → (Nat → Int64) → (Nat → Int32) → (Nat → Int32) → (Nat → Int64) → Int32 → Prop}
theorem q_220 (hL : L ≤ 3072) (ht : t + 6 ≤ L) (hR : RRx d n c cpg cps cnf cnp cnq cns cpo cpt crf crl cbx cxl cxr cyl cyh cms cwt cpf cnr csl ccl chu cuu cro mkd mkn mka mkt mku mcn mxs mys mx2 my2 mmy mtl mco) (hk : HK k (nI t + 6)) : cs_220 L xs cpg cps cnf cnp cnq cns cpo cpt crf crl cbx cxl cxr cyl cyh cms cwt cpf cnr csl ccl chu cuu cpd cro crc ou mkc mkd mkn mkp mka mkt mku mkr mcn mxs mys mx2 my2 mmy mtl mpo mso mst mnr mco mrg mre (nI t) k := by
  have hR0 := hR
  obtain ⟨hP, ⟨rfl, rfl, rfl, rfl, rfl, rfl, rfl, rfl⟩, htl, hnf, hnet, ⟨rfl, rfl⟩, hpo, hcol, hrf, hring⟩ := hR
  have hP0 := hP
  obtain ⟨hd, ⟨rfl, hn⟩, hb, hu, hv⟩ := hP
  unfold cs_220
  generalize xs (nI t + 1).toNatClampNeg = x1
  generalize xs (nI t + 2).toNatClampNeg = x2
  generalize xs (nI t + 3).toNatClampNeg = x3
  generalize xs (nI t + 4).toNatClampNeg = x4
  generalize xs (nI t + 5).toNatClampNeg = x5
  have w1 : vp_in (nI t + 1) L := vin (i := 1) ht hL (by omega)
  have w2 : vp_in (nI t + 2) L := vin (i := 2) ht hL (by omega)
  have w3 : vp_in (nI t + 3) L := vin (i := 3) ht hL (by omega)
  have w4 : vp_in (nI t + 4) L := vin (i := 4) ht hL (by omega)
  have w5 : vp_in (nI t + 5) L := vin (i := 5) ht hL (by omega)
  refine ⟨w1, w2, w3, w4, w5, ?_⟩
  unfold wL_box wX4_box wX4_forgetFindings wX1_clear
  refine s_hasS hn (fun s hs e => ⟨fun _ => ?_, fun h => absurd h ten⟩) (fun hno => ⟨fun h => absurd rfl h, fun _ => Or.inl ⟨rfl, w1, w2, w3, w4, w5, ?_⟩⟩)
  · subst e
    have bad : ¬ (SP x2 x4 ∧ SP x3 x5) → ∀ K, K 0 (2, cpo, cpt, cbx, cxl, cyl, cxr, cyh, cms, mtl) → wX5_box (nI n) mkc cpo cpt cbx cxl cyl cxr cyh cms mtl (nI s) x2 x3 x4 x5 K := by
      intro hsp K hK
      refine s_box5 (fun h => absurd h hsp) (fun _ => ?_)
      unfold bkX5_box_47
      refine s_isS hn (fun s' _ _ => ⟨fun _ => ⟨fun h => absurd rfl h, fun _ => s_box86 (by decide) hK⟩, fun h => absurd h ten⟩) (fun hno => absurd (hno s hs rfl) id)
    refine s_isSpan (fun sp1 => ⟨fun h => absurd h ten, fun _ => s_isSpan (fun sp2 => ⟨fun _ => ⟨vp_in_nI (by omega) (by omega), ?_⟩, fun h => absurd h ten⟩) (fun sp2 => ⟨fun h => absurd rfl h, fun _ => Or.inr (Or.inl ⟨rfl, w1, w2, w3, w4, w5, bad (fun h => sp2 h.2) _ ?_⟩)⟩)⟩) (fun sp1 => ⟨fun _ => Or.inr (Or.inl ⟨rfl, w1, w2, w3, w4, w5, bad (fun h => sp1 h.1) _ ?_⟩), fun h => absurd rfl h⟩)
    · have hcs := (hb s (by omega)).2.1
      rw [nI_clamp (by omega), (hb s (by omega)).1]
      refine ⟨fun hlt => ?_, fun hlt => lor ⟨rfl, w1, w2, w3, w4, w5, ?_⟩⟩
      · have hc4 : c s < 4 := by rw [show (4 : Int32) = nI 4 from rfl, nI_ltI (by omega) (by omega)] at hlt; exact hlt
        have hbv : vp_in (nI (4 * s + c s)) 40 := vp_in_nI (by omega) (by omega)
        have hsv : vp_in (nI s) 10 := vp_in_nI (by omega) (by omega)
        unfold wX2_addBox
        rw [nI_clamp (show s < 2 ^ 31 by omega), (hb s (by omega)).1]
        refine ⟨hsv, s_slot (by omega) (by omega) ?_⟩
        rw [nI_clamp (show 4 * s + c s < 2 ^ 31 by omega)]
        refine ⟨hbv, ?_⟩
        rintro _ rfl
        refine ⟨hbv, ?_⟩
        rintro _ rfl
        refine ⟨hbv, ?_⟩
        rintro _ rfl
        refine ⟨hbv, ?_⟩
        rintro _ rfl
        refine ⟨hsv, hsv, ?_⟩
        rintro _ rfl
        rw [nI_1 (c s)]
        refine ⟨hsv, v01, ?_⟩
        rintro _ rfl
        refine ⟨w1, w2, w3, w4, w5, s_box5 (fun _ => ?_) (fun h => absurd ⟨sp1, sp2⟩ h)⟩
        have hm := hv s (c s) (by omega) hc4 (Nat.le_refl _)
        unfold bkX5_box_47
        rw [nI_clamp (show s < 2 ^ 31 by omega), (hb s (by omega)).1]
        refine s_isS hn (fun s' _ _ => ⟨fun _ => ⟨fun _ => ⟨hsv, fun _ => ?_, fun h => ?_⟩, fun h => absurd h ten⟩, fun h => absurd h ten⟩) (fun hno => absurd (hno s hs rfl) id)
        · refine s_box86o (by omega) (hb s (by omega)).1 hc4 hm.1 ?_
          have hP2 := PLN_box hP0 hs hc4 sp1 sp2
          have htl2 : ∀ s' k', s' < n → k' < uN c s (c s + 1) s' → upd mtl (4 * s + c s) (-1) (4 * s' + k') = cwt (4 * s' + k') := by
            intro s' k' hs' hk'
            have hc4' := (hb s' (by omega)).2.1
            by_cases e : s' = s ∧ k' = c s
            · obtain ⟨rfl, rfl⟩ := e
              rw [u_s, hm.2]
            · have hk2 : k' < c s' := by
                by_cases e2 : s' = s
                · subst e2
                  rw [uN_s] at hk'
                  have : k' ≠ c s' := fun h => e ⟨rfl, h⟩
                  omega
                · rw [uN_n e2] at hk'; exact hk'
              rw [u_n (fun h => e (by omega))]
              exact htl s' k' hs' hk2
          have hu0 : (upd cbx s (nI (c s + 1)) s).toInt64 = (nI (c s + 1)).toInt64 := by rw [u_s]
          exact fin0 rfl (fun _ => (uo (f := ou) (x := (upd cbx s (nI (c s + 1)) s).toInt64)).trans hu0) (by rintro _ rfl; apply hk; exact RR_new hP2 htl2) (by rintro _ rfl; apply hk; exact RR_new hP2 htl2)
        · have := nI_inj (a := c s) (b := 4) (by omega) (by omega) h
          omega
      · have hc4 : c s = 4 := by rw [show (4 : Int32) = nI 4 from rfl, nI_ltI (by omega) (by omega)] at hlt; omega
        refine s_box5 (fun _ => ?_) (fun h => absurd ⟨sp1, sp2⟩ h)
        unfold bkX5_box_47
        rw [nI_clamp (show s < 2 ^ 31 by omega), (hb s (by omega)).1]
        refine s_isS hn (fun s' _ _ => ⟨fun _ => ⟨fun _ => ⟨vp_in_nI (by omega) (by omega), fun h => absurd (by rw [hc4]; rfl) h, fun _ => s_box86 (by decide) ?_⟩, fun h => absurd h ten⟩, fun h => absurd h ten⟩) (fun hno => absurd (hno s hs rfl) id)
        exact fin0 rfl (fun h => absurd h (by decide)) (by rintro _ rfl; apply hk; exact hR0) (by rintro _ rfl; apply hk; exact hR0)
    · exact fin0 rfl (fun h => absurd h (by decide)) (by rintro _ rfl; apply hk; exact hR0) (by rintro _ rfl; apply hk; exact hR0)
    · exact fin0 rfl (fun h => absurd h (by decide)) (by rintro _ rfl; apply hk; exact hR0) (by rintro _ rfl; apply hk; exact hR0)
  · have bad : ∀ z : Bool, ∀ K, K 0 (1, cpo, cpt, cbx, cxl, cyl, cxr, cyh, cms, mtl) → bkX5_box_47 (nI n) K mkc cpo cpt cbx cxl cyl cxr cyh cms mtl x1 x2 x3 x4 x5 (z1 z) := by
      intro z K hK
      unfold bkX5_box_47
      exact s_isS hn (fun s hs e => absurd (hno s hs e) id) (fun _ => ⟨fun h => absurd rfl h, fun _ => s_box86 (by decide) hK⟩)
    refine s_box5 (fun _ => bad true _ ?_) (fun _ => bad false _ ?_)
    · exact fin0 rfl (fun h => absurd h (by decide)) (by rintro _ rfl; apply hk; exact hR0) (by rintro _ rfl; apply hk; exact hR0)
    · exact fin0 rfl (fun h => absurd h (by decide)) (by rintro _ rfl; apply hk; exact hR0) (by rintro _ rfl; apply hk; exact hR0)
end CS
