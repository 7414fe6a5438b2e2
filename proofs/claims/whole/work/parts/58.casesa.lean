def RRx (d n : Nat) (c : Nat → Nat) (cpg : Int32) (cps : Int32) (cnf : Int32) (cnp : Int32) (cnq : Int32) (cns : Int32) (cpo : Int32) (cpt : Int32) (crf : Int32) (crl : Int32) (cbx : Nat → Int32) (cxl : Nat → Int32) (cxr : Nat → Int32) (cyl : Nat → Int32) (cyh : Nat → Int32) (cms : Nat → Int32) (cwt : Nat → Int32) (cpf : Nat → Int32) (cnr : Nat → Int64) (csl : Nat → Int32) (ccl : Nat → Int32) (chu : Nat → Int32) (cuu : Nat → Int32) (cro : Nat → Int32) (mkd : Int32) (mkn : Int32) (mka : Int32) (mkt : Int32) (mku : Int32) (mcn : Nat → Int32) (mxs : Nat → Int32) (mys : Nat → Int32) (mx2 : Nat → Int32) (my2 : Nat → Int32) (mmy : Nat → Int32) (mtl : Nat → Int32) (mco : Nat → Int32) : Prop :=
  PLN cpg cps cbx cxl cxr cyl cyh cms cwt d n c ∧ (cpg = mkd ∧ cps = mkn ∧ cbx = mcn ∧ cxl = mxs ∧ cyl = mys ∧ cxr = mx2 ∧ cyh = my2 ∧ cms = mmy) ∧ (∀ s k, s < n → k < c s → mtl (4 * s + k) = cwt (4 * s + k)) ∧
  (cnf = 0 ∨ cnf = 1) ∧ (cnf = 1 → NETR d n c cxl cxr cyl cyh cms cwt cnp cnq cns cpf cnr csl ccl) ∧ (cpo = mka ∧ cpt = mkt) ∧ (cpo ≠ -1 → cnf = 1) ∧
  (cpo = 0 → ∃ co, CR (cA cms c n) (slA cms c n) co chu cuu ∧ CM (cA cms c n) co mco ∧ mku = nI (uF (slA cms c n) co (cA cms c n))) ∧ (crf = 0 ∨ crf = 1) ∧ (crf = 1 → cnf = 1 ∧ RG (cA cms c n) cnr crl cro)
abbrev HK (k : (Int32) → (Int32) → (Int32) → (Int32) → (Int32) → (Int32) → (Int32) → (Int32) → (Int32) → (Int32) → (Nat → Int32) → (Nat → Int32) → (Nat → Int32) → (Nat → Int32) → (Nat → Int32) → (Nat → Int32) → (Nat → Int32) → (Nat → Int32) → (Nat → Int64) → (Nat → Int32) → (Nat → Int32) → (Nat → Int32) → (Nat → Int32) → (Nat → Int64) → (Nat → Int32) → (Nat → Int64) → (Nat → Int64) → (Int32) → (Int32) → (Int32) → (Int32) → (Int32) → (Int32) → (Int32) → (Int32) → (Nat → Int32) → (Nat → Int32) → (Nat → Int32) → (Nat → Int32) → (Nat → Int32) → (Nat → Int32) → (Nat → Int32) → (Nat → Int32) → (Nat → Int32) → (Nat → Int32) → (Nat → Int64) → (Nat → Int32) → (Nat → Int32) → (Nat → Int64) → Int32 → Prop) (v : Int32) : Prop := ∀ (d n : Nat) (c : Nat → Nat) (cpg : Int32) (cps : Int32) (cnf : Int32) (cnp : Int32) (cnq : Int32) (cns : Int32) (cpo : Int32) (cpt : Int32) (crf : Int32) (crl : Int32) (cbx : Nat → Int32) (cxl : Nat → Int32) (cxr : Nat → Int32) (cyl : Nat → Int32) (cyh : Nat → Int32) (cms : Nat → Int32) (cwt : Nat → Int32) (cpf : Nat → Int32) (cnr : Nat → Int64) (csl : Nat → Int32) (ccl : Nat → Int32) (chu : Nat → Int32) (cuu : Nat → Int32) (cpd : Nat → Int64) (cro : Nat → Int32) (crc : Nat → Int64) (ou : Nat → Int64) (mkc : Int32) (mkd : Int32) (mkn : Int32) (mkp : Int32) (mka : Int32) (mkt : Int32) (mku : Int32) (mkr : Int32) (mcn : Nat → Int32) (mxs : Nat → Int32) (mys : Nat → Int32) (mx2 : Nat → Int32) (my2 : Nat → Int32) (mmy : Nat → Int32) (mtl : Nat → Int32) (mpo : Nat → Int32) (mso : Nat → Int32) (mst : Nat → Int32) (mnr : Nat → Int64) (mco : Nat → Int32) (mrg : Nat → Int32) (mre : Nat → Int64), RRx d n c cpg cps cnf cnp cnq cns cpo cpt crf crl cbx cxl cxr cyl cyh cms cwt cpf cnr csl ccl chu cuu cro mkd mkn mka mkt mku mcn mxs mys mx2 my2 mmy mtl mco → k cpg cps cnf cnp cnq cns cpo cpt crf crl cbx cxl cxr cyl cyh cms cwt cpf cnr csl ccl chu cuu cpd cro crc ou mkc mkd mkn mkp mka mkt mku mkr mcn mxs mys mx2 my2 mmy mtl mpo mso mst mnr mco mrg mre v
theorem vin {t L i : Nat} (ht : t + 6 ≤ L) (hL : L ≤ 3072) (hi : i ≤ 5) : vp_in (nI t + nI i) L := by
  rw [nI_add]
  exact vp_in_nI (by omega) (by omega)
theorem v01 : vp_in 0 1 := vp_in_nI (n := 0) (by omega) (by omega)
theorem fin0 {r7 r2 : Int32} {a b : Int64} {A B : Prop} (h : r7 = r2) (hz : r2 = 0 → a = b) (hA : A) (hB : B) : ((r7 = r2 → ((¬ r2 = 0 → A) ∧ (r2 = 0 → (vp_in 0 1 ∧ (((lg_cmp a b) = 0 → B) ∧ (¬ ((lg_cmp a b) = 0) → False)))))) ∧ (¬ (r7 = r2) → False)) :=
  ⟨fun _ => ⟨fun _ => hA, fun h2 => ⟨v01, fun _ => hB, fun h3 => h3 ((lg_0 _ _).mpr (hz h2))⟩⟩, fun h2 => h2 h⟩
theorem uo {f : Nat → Int64} {x : Int64} : vp_updL f (0 : Int32).toNatClampNeg x (0 : Int32).toNatClampNeg = x := uL_s
theorem int_nat {x : Int32} {n : Nat} (hn : n < 1000000) (h0 : 0 ≤ x.toInt) (h1 : x.toInt ≤ n) : ∃ j : Nat, j ≤ n ∧ x = nI j ∧ (j : Int) = x.toInt := by
  refine ⟨x.toInt.toNat, by omega, ?_, by omega⟩
  apply Int32.toInt_inj.mp
  rw [nI_toInt (by omega)]
  omega
theorem inI_t {v lo hi : Int} : inI v lo hi = true ↔ lo ≤ v ∧ v ≤ hi := by unfold inI; exact decide_eq_true_iff
theorem inI_f {v lo hi : Int} : inI v lo hi = false ↔ ¬ (lo ≤ v ∧ v ≤ hi) := by unfold inI; exact decide_eq_false_iff_not
theorem s_inI {v : Int32} {lo hi : Int64} {K : Int32 → Prop} (h1 : lo.toInt ≤ v.toInt ∧ v.toInt ≤ hi.toInt → K 1) (h0 : ¬ (lo.toInt ≤ v.toInt ∧ v.toInt ≤ hi.toInt) → K 0) : wX5_isIn v.toInt64 lo hi K := by
  apply s_isIn
  rw [iL]
  cases e : inI v.toInt lo.toInt hi.toInt
  · exact h0 (inI_f.mp e)
  · exact h1 (inI_t.mp e)
section CS
variable {L t : Nat} {xs : Nat → Int32} {d n : Nat} {c : Nat → Nat} {cpg : Int32} {cps : Int32} {cnf : Int32} {cnp : Int32} {cnq : Int32} {cns : Int32} {cpo : Int32} {cpt : Int32} {crf : Int32} {crl : Int32} {cbx : Nat → Int32} {cxl : Nat → Int32} {cxr : Nat → Int32} {cyl : Nat → Int32} {cyh : Nat → Int32} {cms : Nat → Int32} {cwt : Nat → Int32} {cpf : Nat → Int32} {cnr : Nat → Int64} {csl : Nat → Int32} {ccl : Nat → Int32} {chu : Nat → Int32} {cuu : Nat → Int32} {cpd : Nat → Int64} {cro : Nat → Int32} {crc : Nat → Int64} {ou : Nat → Int64} {mkc : Int32} {mkd : Int32} {mkn : Int32} {mkp : Int32} {mka : Int32} {mkt : Int32} {mku : Int32} {mkr : Int32} {mcn : Nat → Int32} {mxs : Nat → Int32} {mys : Nat → Int32} {mx2 : Nat → Int32} {my2 : Nat → Int32} {mmy : Nat → Int32} {mtl : Nat → Int32} {mpo : Nat → Int32} {mso : Nat → Int32} {mst : Nat → Int32} {mnr : Nat → Int64} {mco : Nat → Int32} {mrg : Nat → Int32} {mre : Nat → Int64} {k : (Int32) → (Int32) → (Int32) → (Int32) → (Int32) → (Int32) → (Int32) → (Int32) → (Int32) → (Int32) → (Nat → Int32) → (Nat → Int32) → (Nat → Int32) → (Nat → Int32) → (Nat → Int32) → (Nat → Int32) → (Nat → Int32) → (Nat → Int32) → (Nat → Int64) → (Nat → Int32) → (Nat → Int32) → (Nat → Int32) → (Nat → Int32) → (Nat → Int64) → (Nat → Int32) → (Nat → Int64) → (Nat → Int64) → (Int32) → (Int32) → (Int32) → (Int32) → (Int32) → (Int32) → (Int32) → (Int32) → (Nat → Int32) → (Nat → Int32) → (Nat → Int32) → (Nat → Int32) → (Nat → Int32) → (Nat → Int32) → (Nat → Int32) → (Nat → Int32) → (Nat → Int32) → (Nat → Int32) → (Nat → Int64) → (Nat → Int32) → (Nat → Int32) → (Nat → Int64) → Int32 → Prop}
theorem RR_new (hP : PLN cpg cps cbx cxl cxr cyl cyh cms cwt d n c) (htl : ∀ s k, s < n → k < c s → mtl (4 * s + k) = cwt (4 * s + k)) : (RRx d n c cpg cps 0 cnp cnq cns (-1) 0 0 crl cbx cxl cxr cyl cyh cms cwt cpf cnr csl ccl chu cuu cro cpg cps (-1) 0 mku cbx cxl cyl cxr cyh cms mtl mco) :=
  ⟨hP, ⟨rfl, rfl, rfl, rfl, rfl, rfl, rfl, rfl⟩, htl, Or.inl rfl, fun h => absurd h (by decide), ⟨rfl, rfl⟩, fun h => absurd rfl h, fun h => absurd h (by decide), Or.inl rfl, fun h => absurd h (by decide)⟩
theorem rr_refresh (hR : RRx d n c cpg cps cnf cnp cnq cns cpo cpt crf crl cbx cxl cxr cyl cyh cms cwt cpf cnr csl ccl chu cuu cro mkd mkn mka mkt mku mcn mxs mys mx2 my2 mmy mtl mco) {K : (Int32 × Int32 × Int32 × Int32 × (Nat → Int32) × (Nat → Int64) × (Nat → Int32) × (Nat → Int32)) → Prop} (hK : ∀ cnp cnq cns cpf cnr csl ccl, (RRx d n c cpg cps 1 cnp cnq cns cpo cpt crf crl cbx cxl cxr cyl cyh cms cwt cpf cnr csl ccl chu cuu cro mkd mkn mka mkt mku mcn mxs mys mx2 my2 mmy mtl mco) → K (1, cnp, cnq, cns, cpf, cnr, csl, ccl)) : wX0_refresh cpg cps cbx cxl cxr cyl cyh cms cwt cnf cnp cnq cns cpf cnr csl ccl K := by
  have hR0 := hR
  obtain ⟨hP, hM, htl, hnf, hnet, hA, hpo, hcol, hrf, hring⟩ := hR
  rcases hnf with rfl | rfl
  · refine s_refresh hP (Or.inl rfl) (fun h => absurd h (by decide)) (fun np nq ns pf nr sl cl hN => hK _ _ _ _ _ _ _ ⟨hP, hM, htl, Or.inr rfl, fun _ => hN, hA, fun _ => rfl, fun h => ?_, hrf, fun h => ?_⟩)
    · subst h
      exact absurd (hpo (by decide)) (by decide)
    · exact absurd (hring h).1 (by decide)
  · exact ⟨fun _ => hK _ _ _ _ _ _ _ hR0, fun h => absurd h (by decide)⟩
theorem q_120 (hL : L ≤ 3072) (ht : t + 6 ≤ L) (hR : RRx d n c cpg cps cnf cnp cnq cns cpo cpt crf crl cbx cxl cxr cyl cyh cms cwt cpf cnr csl ccl chu cuu cro mkd mkn mka mkt mku mcn mxs mys mx2 my2 mmy mtl mco) (hk : HK k (nI t + 6)) : cs_120 L xs cpg cps cnf cnp cnq cns cpo cpt crf crl cbx cxl cxr cyl cyh cms cwt cpf cnr csl ccl chu cuu cpd cro crc ou mkc mkd mkn mkp mka mkt mku mkr mcn mxs mys mx2 my2 mmy mtl mpo mso mst mnr mco mrg mre (nI t) k := by
  have hR0 := hR
  obtain ⟨hP, ⟨rfl, rfl, rfl, rfl, rfl, rfl, rfl, rfl⟩, htl, hnf, hnet, ⟨rfl, rfl⟩, hpo, hcol, hrf, hring⟩ := hR
  have e1 : (1 : Int32).toInt = 1 := rfl
  have e2 : (1000 : Int32).toInt = 1000 := rfl
  unfold cs_120
  generalize xs (nI t + 1).toNatClampNeg = x
  have bad : ¬ (1 ≤ x.toInt ∧ x.toInt ≤ 1000) → ∀ K, K 0 (1, cpg, cpo, cpt) → wX5_distance mkc cpg cpo cpt x K := by
    intro hx K hK
    unfold wX5_distance
    refine s_inI (fun h => absurd h hx) (fun _ => ⟨fun _ => ⟨fun h => absurd h (by decide), fun _ => hK⟩, fun h => absurd rfl h⟩)
  refine ⟨vin (i := 1) ht hL (by omega), ?_⟩
  unfold wL_distance wX4_distance wX4_forgetFindings wX1_clear
  refine ⟨fun h => ⟨rfl, vin (i := 1) ht hL (by omega), bad (by rw [i_lt] at h; omega) _ ?_⟩, fun h => ⟨fun h2 => ⟨v01, ?_⟩, fun h2 => ⟨rfl, vin (i := 1) ht hL (by omega), bad (by rw [i_le] at h2; omega) _ ?_⟩⟩⟩
  · exact fin0 rfl (fun h => absurd h (by decide)) (by rintro _ rfl; apply hk; exact hR0) (by rintro _ rfl; apply hk; exact hR0)
  · rintro _ rfl
    rw [i_lt] at h
    rw [i_le] at h2
    refine ⟨vin (i := 1) ht hL (by omega), ?_⟩
    unfold wX5_distance
    refine s_inI (fun _ => ⟨fun h => absurd h (by decide), fun _ => ⟨fun _ => ?_, fun h => absurd (by decide) h⟩⟩) (fun h3 => absurd ⟨by show 1 ≤ x.toInt; omega, by show x.toInt ≤ 1000; omega⟩ h3)
    obtain ⟨j, hj1, rfl, hj2⟩ := int_nat (n := 1000) (x := x) (by omega) (by omega) (by omega)
    have hP2 : PLN (nI j) cps cbx cxl cxr cyl cyh cms cwt j n c := ⟨⟨rfl, by omega, by omega⟩, hP.2⟩
    exact fin0 rfl (fun _ => uo (f := ou) (x := cpg.toInt64)) (by rintro _ rfl; apply hk; exact RR_new hP2 htl) (by rintro _ rfl; apply hk; exact RR_new hP2 htl)
  · exact fin0 rfl (fun h => absurd h (by decide)) (by rintro _ rfl; apply hk; exact hR0) (by rintro _ rfl; apply hk; exact hR0)
theorem q_176 (hL : L ≤ 3072) (ht : t + 6 ≤ L) (hR : RRx d n c cpg cps cnf cnp cnq cns cpo cpt crf crl cbx cxl cxr cyl cyh cms cwt cpf cnr csl ccl chu cuu cro mkd mkn mka mkt mku mcn mxs mys mx2 my2 mmy mtl mco) (hk : HK k (nI t + 6)) : cs_176 L xs cpg cps cnf cnp cnq cns cpo cpt crf crl cbx cxl cxr cyl cyh cms cwt cpf cnr csl ccl chu cuu cpd cro crc ou mkc mkd mkn mkp mka mkt mku mkr mcn mxs mys mx2 my2 mmy mtl mpo mso mst mnr mco mrg mre (nI t) k := by
  have hR0 := hR
  obtain ⟨hP, ⟨rfl, rfl, rfl, rfl, rfl, rfl, rfl, rfl⟩, htl, hnf, hnet, ⟨rfl, rfl⟩, hpo, hcol, hrf, hring⟩ := hR
  have hP0 := hP
  obtain ⟨hd, ⟨rfl, hn⟩, hb, hu, hv⟩ := hP
  unfold cs_176 wL_shape wX4_shape wX4_forgetFindings wX1_clear
  refine ⟨fun h => ?_, fun h => ⟨rfl, ?_⟩⟩
  · have hn9 : n < 10 := by rw [show (10 : Int32) = nI 10 from rfl, nI_ltI (by omega) (by omega)] at h; exact h
    rintro _ rfl
    refine ⟨v01, ?_⟩
    rintro _ rfl
    unfold wX5_shape bkX5_shape_15 wX5_forget
    refine ⟨fun _ => ⟨fun _ => ⟨vp_in_nI (by omega) (by omega), ?_⟩, fun h => absurd (by decide) h⟩, fun h9 => ?_⟩
    · rintro _ rfl _ rfl
      have hcn : c n = 0 := (hb n (by omega)).2.2 (Nat.le_refl _)
      have e1 : upd cbx (nI n).toNatClampNeg 0 = cbx := by
        rw [nI_clamp (by omega)]
        exact updSame (by rw [(hb n (by omega)).1, hcn]; rfl)
      rw [e1, nI_1]
      have hlt : ∀ s k, s < n + 1 → k < c s → s < n := by
        intro s k hs hk2
        rcases Nat.lt_or_ge s n with h | h
        · exact h
        · have : s = n := by omega
          rw [this, hcn] at hk2
          omega
      have hP2 : PLN cpg (nI (n + 1)) cbx cxl cxr cyl cyh cms cwt d (n + 1) c := ⟨hd, ⟨rfl, by omega⟩, fun i hi => ⟨(hb i hi).1, (hb i hi).2.1, fun h => (hb i hi).2.2 (by omega)⟩, fun s k hs hk2 => hu s k (hlt s k hs hk2) hk2, hv⟩
      have htl2 : ∀ s k, s < n + 1 → k < c s → mtl (4 * s + k) = cwt (4 * s + k) := fun s k hs hk2 => htl s k (hlt s k hs hk2) hk2
      exact fin0 rfl (fun _ => uo (f := ou) (x := (nI (n + 1) - 1).toInt64)) (by rintro _ rfl; apply hk; exact RR_new hP2 htl2) (by rintro _ rfl; apply hk; exact RR_new hP2 htl2)
    · have := nI_inj (a := n) (b := 10) (by omega) (by omega) h9
      omega
  · have hn9 : n = 10 := by rw [show (10 : Int32) = nI 10 from rfl, nI_ltI (by omega) (by omega)] at h; omega
    unfold wX5_shape bkX5_shape_15
    refine ⟨fun h9 => absurd (by rw [hn9]; rfl) h9, fun _ => ⟨fun h => absurd h (by decide), fun _ => ?_⟩⟩
    exact fin0 rfl (fun h => absurd h (by decide)) (by rintro _ rfl; apply hk; exact hR0) (by rintro _ rfl; apply hk; exact hR0)
end CS
