section CS
variable {L t : Nat} {xs : Nat → Int32} {d n : Nat} {c : Nat → Nat} {cpg : Int32} {cps : Int32} {cnf : Int32} {cnp : Int32} {cnq : Int32} {cns : Int32} {cpo : Int32} {cpt : Int32} {crf : Int32} {crl : Int32} {cbx : Nat → Int32} {cxl : Nat → Int32} {cxr : Nat → Int32} {cyl : Nat → Int32} {cyh : Nat → Int32} {cms : Nat → Int32} {cwt : Nat → Int32} {cpf : Nat → Int32} {cnr : Nat → Int64} {csl : Nat → Int32} {ccl : Nat → Int32} {chu : Nat → Int32} {cuu : Nat → Int32} {cpd : Nat → Int64} {cro : Nat → Int32} {crc : Nat → Int64} {ou : Nat → Int64} {mkc : Int32} {mkd : Int32} {mkn : Int32} {mkp : Int32} {mka : Int32} {mkt : Int32} {mku : Int32} {mkr : Int32} {mcn : Nat → Int32} {mxs : Nat → Int32} {mys : Nat → Int32} {mx2 : Nat → Int32} {my2 : Nat → Int32} {mmy : Nat → Int32} {mtl : Nat → Int32} {mpo : Nat → Int32} {mso : Nat → Int32} {mst : Nat → Int32} {mnr : Nat → Int64} {mco : Nat → Int32} {mrg : Nat → Int32} {mre : Nat → Int64} {k : (Int32) → (Int32) → (Int32) → (Int32) → (Int32) → (Int32) → (Int32) → (Int32) → (Int32) → (Int32) → (Nat → Int32) → (Nat → Int32) → (Nat → Int32) → (Nat → Int32) → (Nat → Int32) → (Nat → Int32) → (Nat → Int32) → (Nat → Int32) → (Nat → Int64) → (Nat → Int32) → (Nat → Int32) → (Nat → Int32) → (Nat → Int32) → (Nat → Int64) → (Nat → Int32) → (Nat → Int64) → (Nat → Int64) → (Int32) → (Int32) → (Int32) → (Int32) → (Int32) → (Int32) → (Int32) → (Int32) → (Nat → Int32) → (Nat → Int32) → (Nat → Int32) → (Nat → Int32) → (Nat → Int32) → (Nat → Int32) → (Nat → Int32) → (Nat → Int32) → (Nat → Int32) → (Nat → Int32) → (Nat → Int64) → (Nat → Int32) → (Nat → Int32) → (Nat → Int64) → Int32 → Prop}
theorem rr_ring (hR : RRx d n c cpg cps cnf cnp cnq cns cpo cpt crf crl cbx cxl cxr cyl cyh cms cwt cpf cnr csl ccl chu cuu cro mkd mkn mka mkt mku mcn mxs mys mx2 my2 mmy mtl mco) {K : (Int32 × Int32 × Int32 × Int32 × (Nat → Int32) × (Nat → Int64) × (Nat → Int32) × (Nat → Int32)) → (Int32 × Int32 × (Nat → Int32) × (Nat → Int64)) → Prop} (hK : ∀ cnp cnq cns crl cpf cnr csl ccl cro crc, (RRx d n c cpg cps 1 cnp cnq cns cpo cpt 1 crl cbx cxl cxr cyl cyh cms cwt cpf cnr csl ccl chu cuu cro mkd mkn mka mkt mku mcn mxs mys mx2 my2 mmy mtl mco) → K (1, cnp, cnq, cns, cpf, cnr, csl, ccl) (1, crl, cro, crc)) : wX0_refresh cpg cps cbx cxl cxr cyl cyh cms cwt cnf cnp cnq cns cpf cnr csl ccl (fun u2 => wX3_refresh u2.2.1 u2.2.2.2.2.2.1 crf crl cro crc (fun u4 => K u2 u4)) := by
  refine rr_refresh hR (fun np nq ns pf nr sl cl hR1 => ?_)
  show wX3_refresh np nr crf crl cro crc (fun u4 => K (1, np, nq, ns, pf, nr, sl, cl) u4)
  unfold wX3_refresh
  have hR2 := hR1
  obtain ⟨hP, hM, htl, hnf, hnet, hA, hpo, hcol, hrf, hring⟩ := hR1
  rcases hrf with rfl | rfl
  · refine ⟨fun h => absurd rfl h, fun _ => ?_⟩
    have hP0 := hP
    obtain ⟨hd, ⟨rfl, hn⟩, hb, hu, hv⟩ := hP
    have hnt := hnet rfl
    have hG := NI_GR hn (fun i hi => (hb i hi).2.1) hnt.2.2.2.1
    have h9 : wX3_find (nI (cA cms c n)) nr crl cro crc (fun (u5 : Int32 × (Nat → Int32) × (Nat → Int64)) => K (1, np, nq, ns, pf, nr, sl, cl) (1, u5.1, u5.2.1, u5.2.2)) :=
      s_ringfind hG (fun rl ro rc hRG => hK _ _ _ _ _ _ _ _ _ _ ⟨hP0, hM, htl, hnf, hnet, hA, hpo, hcol, Or.inr rfl, fun _ => ⟨rfl, hRG⟩⟩)
    rw [← hnt.1] at h9
    exact h9
  · exact ⟨fun _ => hK _ _ _ _ _ _ _ _ _ _ hR2, fun h => absurd h (by decide)⟩
theorem q_860 (hL : L ≤ 3072) (ht : t + 6 ≤ L) (hR : RRx d n c cpg cps cnf cnp cnq cns cpo cpt crf crl cbx cxl cxr cyl cyh cms cwt cpf cnr csl ccl chu cuu cro mkd mkn mka mkt mku mcn mxs mys mx2 my2 mmy mtl mco) (hk : HK k (nI t + 6)) : cs_860 L xs cpg cps cnf cnp cnq cns cpo cpt crf crl cbx cxl cxr cyl cyh cms cwt cpf cnr csl ccl chu cuu cpd cro crc ou mkc mkd mkn mkp mka mkt mku mkr mcn mxs mys mx2 my2 mmy mtl mpo mso mst mnr mco mrg mre (nI t) k := by
  have hR0 := hR
  obtain ⟨hP, ⟨rfl, rfl, rfl, rfl, rfl, rfl, rfl, rfl⟩, htl, hnf, hnet, ⟨rfl, rfl⟩, hpo, hcol, hrf, hring⟩ := hR
  have hP0 := hP
  obtain ⟨hd, ⟨rfl, hn⟩, hb, hu, hv⟩ := hP
  unfold cs_860 wX4_ring
  refine rr_ring hR0 (fun np nq ns rl pf nr sl cl ro rc hR1 => ?_)
  have hnt := hR1.2.2.2.2.1 rfl
  have hRG := (hR1.2.2.2.2.2.2.2.2.2 rfl).2
  have hG := NI_GR hn (fun i hi => (hb i hi).2.1) hnt.2.2.2.1
  unfold wX5_ring
  refine s_findRing hP0 hnt.2.2.2.1 (fun kp kr po so st nm rg re hM hRG2 => ?_)
  obtain ⟨M, hM40, e1, e2, e3⟩ := RG_uniq hG hRG hRG2
  exact fin3 (e1.trans e2.symm) (by rintro _ rfl; apply hk; exact hR1)
theorem q_873 (hL : L ≤ 3072) (ht : t + 6 ≤ L) (hR : RRx d n c cpg cps cnf cnp cnq cns cpo cpt crf crl cbx cxl cxr cyl cyh cms cwt cpf cnr csl ccl chu cuu cro mkd mkn mka mkt mku mcn mxs mys mx2 my2 mmy mtl mco) (hk : HK k (nI t + 6)) : cs_873 L xs cpg cps cnf cnp cnq cns cpo cpt crf crl cbx cxl cxr cyl cyh cms cwt cpf cnr csl ccl chu cuu cpd cro crc ou mkc mkd mkn mkp mka mkt mku mkr mcn mxs mys mx2 my2 mmy mtl mpo mso mst mnr mco mrg mre (nI t) k := by
  have hR0 := hR
  obtain ⟨hP, ⟨rfl, rfl, rfl, rfl, rfl, rfl, rfl, rfl⟩, htl, hnf, hnet, ⟨rfl, rfl⟩, hpo, hcol, hrf, hring⟩ := hR
  have hP0 := hP
  obtain ⟨hd, ⟨rfl, hn⟩, hb, hu, hv⟩ := hP
  unfold cs_873 wL_ringAt
  generalize xs (nI t + 1).toNatClampNeg = x1
  have w1 : vp_in (nI t + 1) L := vin (i := 1) ht hL (by omega)
  have a0 : (0 : Int64).toInt = 0 := rfl
  have b0 : (0 : Int32).toInt = 0 := rfl
  refine ⟨w1, ?_⟩
  unfold wX4_ringAt
  refine rr_ring hR0 (fun np nq ns rl pf nr sl cl ro rc hR1 => ?_)
  have hnt := hR1.2.2.2.2.1 rfl
  have hRG := (hR1.2.2.2.2.2.2.2.2.2 rfl).2
  have hG := NI_GR hn (fun i hi => (hb i hi).2.1) hnt.2.2.2.1
  have mm : ∀ K, (∀ kp kr po so st nm rg re, RG (cA cms c n) nr kr rg → wX5_isIn x1.toInt64 0 (((kr - 1) : Int32).toInt64) (fun r5 : Int32 => ((r5 = 0 → K 0 (1, kp, kr, po, so, st, nm, rg, re)) ∧ (¬ (r5 = 0) → (vp_in x1 41 ∧ K (rg x1.toNatClampNeg) (0, kp, kr, po, so, st, nm, rg, re)))))) → wX5_ringAt cpg (nI n) cbx cxl cyl cxr cyh cms mkc mkp mkr mpo mso mst mnr mrg mre x1 K := by
    intro K hK
    unfold wX5_ringAt bkX5_ringAt_26
    refine s_findRing hP0 hnt.2.2.2.1 (fun kp kr po so st nm rg re hM hRG2 => ?_)
    have h := hK kp kr po so st nm rg re hRG2
    unfold wX5_isIn at h ⊢
    refine ⟨fun a => ⟨fun b => ⟨fun e => absurd e (by decide), fun _ => (h.1 a).1 b⟩, fun b => absurd rfl b⟩, fun a => ⟨fun b => ⟨fun c => ⟨fun e => absurd e (by decide), fun _ => ((h.2 a).1 b).1 c⟩, fun c => absurd rfl c⟩, fun b => ⟨fun c => absurd c ten, fun c => ⟨fun _ => ((h.2 a).2 b).2 c, fun e => absurd (by decide) e⟩⟩⟩⟩
  have bad : (∀ M : Nat, M ≤ 40 → rl = nI M → ¬ (0 ≤ x1.toInt ∧ x1.toInt < M)) → ∀ K, (∀ kp kr po so st nm rg re, K 0 (1, kp, kr, po, so, st, nm, rg, re)) → wX5_ringAt cpg (nI n) cbx cxl cyl cxr cyh cms mkc mkp mkr mpo mso mst mnr mrg mre x1 K := by
    intro hx K hK
    refine mm K (fun kp kr po so st nm rg re hRG2 => ?_)
    obtain ⟨M, hM40, e1, e2, e3⟩ := RG_uniq hG hRG hRG2
    refine s_inI (fun h => ?_) (fun _ => ⟨fun _ => hK _ _ _ _ _ _ _ _, fun h => absurd rfl h⟩)
    rw [a0, e2, iL, nIs2 _ (by omega)] at h
    exact absurd ⟨h.1, by omega⟩ (hx M hM40 e1)
  rw [i_lt, b0]
  refine ⟨fun h => ⟨rfl, w1, bad (fun M _ _ => by omega) _ (fun kp kr po so st nm rg re => ?_)⟩, fun h => ⟨fun h2 => ?_, fun h2 => ⟨rfl, w1, bad (fun M hM e => ?_) _ (fun kp kr po so st nm rg re => ?_)⟩⟩⟩
  · exact fin2 rfl ten (by rintro _ rfl; apply hk; exact hR1)
  · obtain ⟨M0, hM0, e0, _⟩ := RG_uniq hG hRG hRG
    have h3 : x1.toInt < M0 := by
      have h4 : x1 < nI M0 := e0 ▸ h2
      rw [i_lt, nI_toInt (by omega)] at h4
      exact h4
    obtain ⟨j, hj, rfl, hj2⟩ := int_nat (n := 40) (x := x1) (by omega) (by omega) (by omega)
    rw [nI_clamp (by omega)]
    refine ⟨vp_in_nI (by omega) (by omega), v01, ?_⟩
    rintro _ rfl
    refine ⟨w1, mm _ (fun kp kr po so st nm rg re hRG2 => ?_)⟩
    obtain ⟨M, hM40, e1, e2, e3⟩ := RG_uniq hG hRG hRG2
    have hMM : M = M0 := nI_inj (by omega) (by omega) (e1.symm.trans e0)
    refine s_inI (fun _ => ⟨fun h => absurd h ten, fun _ => ?_⟩) (fun h => ?_)
    · rw [nI_clamp (by omega)]
      refine ⟨vp_in_nI (by omega) (by omega), ?_⟩
      have ev : (ro j).toInt64 = (rg j).toInt64 := by rw [e3 j (by omega)]
      exact fin0 rfl (fun _ => (uo (f := ou) (x := (ro j).toInt64)).trans ev) (by rintro _ rfl; apply hk; exact hR1) (by rintro _ rfl; apply hk; exact hR1)
    · exfalso
      apply h
      rw [a0, e2, iL, nIs2 _ (by omega)]
      omega
  · have h4 : ¬ x1 < nI M := e ▸ h2
    rw [i_lt, nI_toInt (by omega)] at h4
    omega
  · exact fin2 rfl ten (by rintro _ rfl; apply hk; exact hR1)
theorem q_929 (hL : L ≤ 3072) (ht : t + 6 ≤ L) (hR : RRx d n c cpg cps cnf cnp cnq cns cpo cpt crf crl cbx cxl cxr cyl cyh cms cwt cpf cnr csl ccl chu cuu cro mkd mkn mka mkt mku mcn mxs mys mx2 my2 mmy mtl mco) (hk : HK k (nI t + 6)) : cs_929 L xs cpg cps cnf cnp cnq cns cpo cpt crf crl cbx cxl cxr cyl cyh cms cwt cpf cnr csl ccl chu cuu cpd cro crc ou mkc mkd mkn mkp mka mkt mku mkr mcn mxs mys mx2 my2 mmy mtl mpo mso mst mnr mco mrg mre (nI t) k := by
  have hR0 := hR
  obtain ⟨hP, ⟨rfl, rfl, rfl, rfl, rfl, rfl, rfl, rfl⟩, htl, hnf, hnet, ⟨rfl, rfl⟩, hpo, hcol, hrf, hring⟩ := hR
  have hP0 := hP
  obtain ⟨hd, ⟨rfl, hn⟩, hb, hu, hv⟩ := hP
  have hco : ∀ s k, s < n → k < c s → COK cxl cxr cyl cyh (4 * s + k) := fun s k hs hk => (hu s k hs hk).1
  unfold cs_929 wX4_groups
  refine rr_refresh hR0 (fun np nq ns pf nr sl cl hR1 => ?_)
  have hnt := hR1.2.2.2.2.1 rfl
  obtain ⟨rfl, r2, r3, r4, r5, r6⟩ := hnt
  have hG := NI_GR hn (fun i hi => (hb i hi).2.1) r4
  refine s_countGroups hG r3 (fun g1 v1 hgs1 => ?_)
  unfold wX5_groups
  refine s_findParts hP0 (fun kp po so st nm hM => ?_)
  obtain ⟨rfl, m2, m3, m4⟩ := hM
  refine s_groups16 (g := slA cms c n) hG (MI_eq hco r4 m4) m3 (fun g2 v2 hgs2 => ?_)
  obtain ⟨rfl, _⟩ := GS_uniq hgs1 hgs2
  exact fin3 rfl (by rintro _ rfl; apply hk; exact hR1)
theorem q_942 (hL : L ≤ 3072) (ht : t + 6 ≤ L) (hR : RRx d n c cpg cps cnf cnp cnq cns cpo cpt crf crl cbx cxl cxr cyl cyh cms cwt cpf cnr csl ccl chu cuu cro mkd mkn mka mkt mku mcn mxs mys mx2 my2 mmy mtl mco) (hk : HK k (nI t + 6)) : cs_942 L xs cpg cps cnf cnp cnq cns cpo cpt crf crl cbx cxl cxr cyl cyh cms cwt cpf cnr csl ccl chu cuu cpd cro crc ou mkc mkd mkn mkp mka mkt mku mkr mcn mxs mys mx2 my2 mmy mtl mpo mso mst mnr mco mrg mre (nI t) k := by
  have hR0 := hR
  obtain ⟨hP, ⟨rfl, rfl, rfl, rfl, rfl, rfl, rfl, rfl⟩, htl, hnf, hnet, ⟨rfl, rfl⟩, hpo, hcol, hrf, hring⟩ := hR
  have hP0 := hP
  obtain ⟨hd, ⟨rfl, hn⟩, hb, hu, hv⟩ := hP
  have hco : ∀ s k, s < n → k < c s → COK cxl cxr cyl cyh (4 * s + k) := fun s k hs hk => (hu s k hs hk).1
  unfold cs_942 wL_told
  generalize xs (nI t + 1).toNatClampNeg = x1
  have w1 : vp_in (nI t + 1) L := vin (i := 1) ht hL (by omega)
  have a0 : (0 : Int64).toInt = 0 := rfl
  have a5 : (5 : Int64).toInt = 5 := rfl
  refine ⟨w1, ?_⟩
  unfold wX4_told
  refine rr_refresh hR0 (fun np nq ns pf nr sl cl hR1 => ?_)
  have hnt := hR1.2.2.2.2.1 rfl
  obtain ⟨rfl, r2, r3, r4, r5, r6⟩ := hnt
  have hG := NI_GR hn (fun i hi => (hb i hi).2.1) r4
  have mm : ∀ (s1 : Int32) K, (∀ po so st nm v, (x1 = 0 → v = nI n) → (x1 = 1 → v = nI (sumN c n)) → (x1 = 2 → v = nI (cA cms c n)) → (x1 = 3 → v = nI (PC nr (cA cms c n))) → (x1 = 4 → v = nI (cntB (slA cms c n) (cA cms c n))) → (x1 = 5 → s1 ≤ 0 → v = cpg) → K v (s1, nI (cA cms c n), po, so, st, nm)) → bkX5_told_18 cpg (nI n) cbx cxl cyl cxr cyh cms K mkc mkp mpo mso mst mnr x1 s1 := by
    intro s1 K hK
    unfold bkX5_told_18
    refine s_findParts hP0 (fun kp po so st nm hM => ?_)
    obtain ⟨rfl, m2, m3, m4⟩ := hM
    have hnm := MI_eq hco r4 m4
    refine s_told29 hn hb ⟨fun h => ⟨fun h2 => hK _ _ _ _ _ ?_ ?_ ?_ ?_ ?_ (fun _ _ => rfl), fun h2 => hK _ _ _ _ _ ?_ ?_ ?_ ?_ ?_ (fun _ h3 => absurd h3 h2)⟩, fun h => ?_, fun h => ?_, fun h => ?_, fun h => ?_, fun h => ?_⟩
    · intro e; subst e; exact absurd h (by decide)
    · intro e; subst e; exact absurd h (by decide)
    · intro e; subst e; exact absurd h (by decide)
    · intro e; subst e; exact absurd h (by decide)
    · intro e; subst e; exact absurd h (by decide)
    · intro e; subst e; exact absurd h (by decide)
    · intro e; subst e; exact absurd h (by decide)
    · intro e; subst e; exact absurd h (by decide)
    · intro e; subst e; exact absurd h (by decide)
    · intro e; subst e; exact absurd h (by decide)
    · subst h
      exact hK _ _ _ _ _ (fun _ => rfl) (fun e => absurd e (by decide)) (fun e => absurd e (by decide)) (fun e => absurd e (by decide)) (fun e => absurd e (by decide)) (fun e => absurd e (by decide))
    · subst h
      exact hK _ _ _ _ _ (fun e => absurd e (by decide)) (fun _ => rfl) (fun e => absurd e (by decide)) (fun e => absurd e (by decide)) (fun e => absurd e (by decide)) (fun e => absurd e (by decide))
    · subst h
      exact hK _ _ _ _ _ (fun e => absurd e (by decide)) (fun e => absurd e (by decide)) (fun _ => rfl) (fun e => absurd e (by decide)) (fun e => absurd e (by decide)) (fun e => absurd e (by decide))
    · subst h
      refine s_pairs hG.1 ?_
      exact hK _ _ _ _ _ (fun e => absurd e (by decide)) (fun e => absurd e (by decide)) (fun e => absurd e (by decide)) (fun _ => by rw [PC_cong hnm]) (fun e => absurd e (by decide)) (fun e => absurd e (by decide))
    · subst h
      refine s_stitches hG.1 m3 ?_
      exact hK _ _ _ _ _ (fun e => absurd e (by decide)) (fun e => absurd e (by decide)) (fun e => absurd e (by decide)) (fun e => absurd e (by decide)) (fun _ => rfl) (fun e => absurd e (by decide))
  have tin : (0 ≤ x1.toInt ∧ x1.toInt ≤ 5) → ∀ K, (∀ po so st nm v, (x1 = 0 → v = nI n) → (x1 = 1 → v = nI (sumN c n)) → (x1 = 2 → v = nI (cA cms c n)) → (x1 = 3 → v = nI (PC nr (cA cms c n))) → (x1 = 4 → v = nI (cntB (slA cms c n) (cA cms c n))) → (x1 = 5 → v = cpg) → K v (0, nI (cA cms c n), po, so, st, nm)) → wX5_told cpg (nI n) cbx cxl cyl cxr cyh cms mkc mkp mpo mso mst mnr x1 K := by
    intro hx K hK
    unfold wX5_told
    exact s_inI (fun _ => ⟨fun h => absurd h ten, fun _ => mm 0 K (fun po so st nm v h0 h1 h2 h3 h4 h5 => hK po so st nm v h0 h1 h2 h3 h4 (fun e => h5 e (by decide)))⟩) (fun h => absurd hx h)
  refine ⟨fun h => ⟨rfl, w1, ?_⟩, fun h => ⟨v01, ?_⟩, fun h => ?_, fun h => ⟨v01, ?_⟩, fun h => ⟨v01, ?_⟩, fun h => ⟨v01, ?_⟩, fun h => ⟨v01, ?_⟩⟩
  · unfold wX5_told
    refine s_inI (fun h2 => ?_) (fun _ => ⟨fun _ => mm 1 _ (fun po so st nm v _ _ _ _ _ _ => ?_), fun h => absurd rfl h⟩)
    · rw [a0, a5] at h2; omega
    · exact fin2 rfl ten (by rintro _ rfl; apply hk; exact hR1)
  · rintro _ rfl
    refine ⟨w1, tin (by rw [h]; decide) _ (fun po so st nm v h0 h1 h2 h3 h4 h5 => ?_)⟩
    have ev : (nI n).toInt64 = v.toInt64 := by rw [h0 h]
    exact fin0 rfl (fun _ => (uo (f := ou) (x := (nI n).toInt64)).trans ev) (by rintro _ rfl; apply hk; exact hR1) (by rintro _ rfl; apply hk; exact hR1)
  · refine s_countBoxes hn hb ⟨v01, ?_⟩
    rintro _ rfl
    refine ⟨w1, tin (by rw [h]; decide) _ (fun po so st nm v h0 h1 h2 h3 h4 h5 => ?_)⟩
    have ev : (nI (sumN c n)).toInt64 = v.toInt64 := by rw [h1 h]
    exact fin0 rfl (fun _ => (uo (f := ou) (x := (nI (sumN c n)).toInt64)).trans ev) (by rintro _ rfl; apply hk; exact hR1) (by rintro _ rfl; apply hk; exact hR1)
  · rintro _ rfl
    refine ⟨w1, tin (by rw [h]; decide) _ (fun po so st nm v h0 h1 h2 h3 h4 h5 => ?_)⟩
    have ev : (nI (cA cms c n)).toInt64 = v.toInt64 := by rw [h2 h]
    exact fin0 rfl (fun _ => (uo (f := ou) (x := (nI (cA cms c n)).toInt64)).trans ev) (by rintro _ rfl; apply hk; exact hR1) (by rintro _ rfl; apply hk; exact hR1)
  · rintro _ rfl
    refine ⟨w1, tin (by rw [h]; decide) _ (fun po so st nm v h0 h1 h2 h3 h4 h5 => ?_)⟩
    have ev : nq.toInt64 = v.toInt64 := by rw [h3 h, r4.2]
    exact fin0 rfl (fun _ => (uo (f := ou) (x := nq.toInt64)).trans ev) (by rintro _ rfl; apply hk; exact hR1) (by rintro _ rfl; apply hk; exact hR1)
  · rintro _ rfl
    refine ⟨w1, tin (by rw [h]; decide) _ (fun po so st nm v h0 h1 h2 h3 h4 h5 => ?_)⟩
    have ev : ns.toInt64 = v.toInt64 := by rw [h4 h, r5]
    exact fin0 rfl (fun _ => (uo (f := ou) (x := ns.toInt64)).trans ev) (by rintro _ rfl; apply hk; exact hR1) (by rintro _ rfl; apply hk; exact hR1)
  · rintro _ rfl
    refine ⟨w1, tin (by rw [h]; decide) _ (fun po so st nm v h0 h1 h2 h3 h4 h5 => ?_)⟩
    have ev : cpg.toInt64 = v.toInt64 := by rw [h5 h]
    exact fin0 rfl (fun _ => (uo (f := ou) (x := cpg.toInt64)).trans ev) (by rintro _ rfl; apply hk; exact hR1) (by rintro _ rfl; apply hk; exact hR1)
end CS
