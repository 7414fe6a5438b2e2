theorem fin3 {r s : Int32} {A : Prop} (h : r = s) (hA : A) : (r = s → A) ∧ (¬ (r = s) → False) := ⟨fun _ => hA, fun h2 => h2 h⟩
section CS
variable {L t : Nat} {xs : Nat → Int32} {d n : Nat} {c : Nat → Nat} {cpg : Int32} {cps : Int32} {cnf : Int32} {cnp : Int32} {cnq : Int32} {cns : Int32} {cpo : Int32} {cpt : Int32} {crf : Int32} {crl : Int32} {cbx : Nat → Int32} {cxl : Nat → Int32} {cxr : Nat → Int32} {cyl : Nat → Int32} {cyh : Nat → Int32} {cms : Nat → Int32} {cwt : Nat → Int32} {cpf : Nat → Int32} {cnr : Nat → Int64} {csl : Nat → Int32} {ccl : Nat → Int32} {chu : Nat → Int32} {cuu : Nat → Int32} {cpd : Nat → Int64} {cro : Nat → Int32} {crc : Nat → Int64} {ou : Nat → Int64} {mkc : Int32} {mkd : Int32} {mkn : Int32} {mkp : Int32} {mka : Int32} {mkt : Int32} {mku : Int32} {mkr : Int32} {mcn : Nat → Int32} {mxs : Nat → Int32} {mys : Nat → Int32} {mx2 : Nat → Int32} {my2 : Nat → Int32} {mmy : Nat → Int32} {mtl : Nat → Int32} {mpo : Nat → Int32} {mso : Nat → Int32} {mst : Nat → Int32} {mnr : Nat → Int64} {mco : Nat → Int32} {mrg : Nat → Int32} {mre : Nat → Int64} {k : (Int32) → (Int32) → (Int32) → (Int32) → (Int32) → (Int32) → (Int32) → (Int32) → (Int32) → (Int32) → (Nat → Int32) → (Nat → Int32) → (Nat → Int32) → (Nat → Int32) → (Nat → Int32) → (Nat → Int32) → (Nat → Int32) → (Nat → Int32) → (Nat → Int64) → (Nat → Int32) → (Nat → Int32) → (Nat → Int32) → (Nat → Int32) → (Nat → Int64) → (Nat → Int32) → (Nat → Int64) → (Nat → Int64) → (Int32) → (Int32) → (Int32) → (Int32) → (Int32) → (Int32) → (Int32) → (Int32) → (Nat → Int32) → (Nat → Int32) → (Nat → Int32) → (Nat → Int32) → (Nat → Int32) → (Nat → Int32) → (Nat → Int32) → (Nat → Int32) → (Nat → Int32) → (Nat → Int32) → (Nat → Int64) → (Nat → Int32) → (Nat → Int32) → (Nat → Int64) → Int32 → Prop}
theorem q_643 (hL : L ≤ 3072) (ht : t + 6 ≤ L) (hR : RRx d n c cpg cps cnf cnp cnq cns cpo cpt crf crl cbx cxl cxr cyl cyh cms cwt cpf cnr csl ccl chu cuu cro mkd mkn mka mkt mku mcn mxs mys mx2 my2 mmy mtl mco) (hk : HK k (nI t + 6)) : cs_643 L xs cpg cps cnf cnp cnq cns cpo cpt crf crl cbx cxl cxr cyl cyh cms cwt cpf cnr csl ccl chu cuu cpd cro crc ou mkc mkd mkn mkp mka mkt mku mkr mcn mxs mys mx2 my2 mmy mtl mpo mso mst mnr mco mrg mre (nI t) k := by
  have hR0 := hR
  obtain ⟨hP, ⟨rfl, rfl, rfl, rfl, rfl, rfl, rfl, rfl⟩, htl, hnf, hnet, ⟨rfl, rfl⟩, hpo, hcol, hrf, hring⟩ := hR
  have hP0 := hP
  obtain ⟨hd, ⟨rfl, hn⟩, hb, hu, hv⟩ := hP
  unfold cs_643 wL_run
  generalize xs (nI t + 1).toNatClampNeg = x1
  generalize xs (nI t + 2).toNatClampNeg = x2
  have w1 : vp_in (nI t + 1) L := vin (i := 1) ht hL (by omega)
  have w2 : vp_in (nI t + 2) L := vin (i := 2) ht hL (by omega)
  have a2 : (2 : Int64).toInt = 2 := rfl
  have a4 : (4 : Int64).toInt = 4 := rfl
  have a0 : (0 : Int64).toInt = 0 := rfl
  have aB : (20000 : Int64).toInt = 20000 := rfl
  have b2 : (2 : Int32).toInt = 2 := rfl
  have b4 : (4 : Int32).toInt = 4 := rfl
  have b0 : (0 : Int32).toInt = 0 := rfl
  have bB : (20000 : Int32).toInt = 20000 := rfl
  have bad : ¬ ((2 ≤ x1.toInt ∧ x1.toInt ≤ 4) ∧ (0 ≤ x2.toInt ∧ x2.toInt ≤ 20000)) → ∀ K, K 0 (1, mkp, cpo, cpt, mku, mpo, mso, mst, mnr, mco) → wX5_run cpg (nI n) cbx cxl cyl cxr cyh cms mtl mkc mkp cpo cpt mku mpo mso mst mnr mco x1 x2 K := by
    intro hx K hK
    unfold wX5_run bkX5_run_31 bkX5_run_32
    refine s_inI (fun h1 => ⟨fun h => absurd h ten, fun _ => s_inI (fun h2 => absurd ⟨by rw [a2, a4] at h1; exact h1, by rw [a0, aB] at h2; exact h2⟩ hx) (fun _ => ⟨fun _ => ⟨fun h => absurd h (by decide), fun _ => hK⟩, fun h => absurd rfl h⟩)⟩) (fun _ => ⟨fun _ => ⟨fun h => absurd h (by decide), fun _ => hK⟩, fun h => absurd rfl h⟩)
  refine ⟨w1, w2, ?_⟩
  unfold wX4_run
  rw [i_lt, i_le, i_lt, i_le, b2, b4, b0, bB]
  refine ⟨fun h => ⟨rfl, w1, w2, bad (by omega) _ ?_⟩, fun h1 => ⟨fun h2 => ⟨fun h => ⟨rfl, w1, w2, bad (by omega) _ ?_⟩, fun h3 => ⟨fun h4 => ?_, fun h => ⟨rfl, w1, w2, bad (by omega) _ ?_⟩⟩⟩, fun h => ⟨rfl, w1, w2, bad (by omega) _ ?_⟩⟩⟩
  · exact fin2 rfl ten (by rintro _ rfl; apply hk; exact hR0)
  · exact fin2 rfl ten (by rintro _ rfl; apply hk; exact hR0)
  · obtain ⟨cols, hc1, rfl, hc2⟩ := int_nat (n := 4) (x := x1) (by omega) (by omega) (by omega)
    obtain ⟨B, hB1, rfl, hB2⟩ := int_nat (n := 20000) (x := x2) (by omega) (by omega) (by omega)
    refine rr_refresh hR0 (fun np nq ns pf nr sl cl hR1 => ?_)
    have hnt := hR1.2.2.2.2.1 rfl
    have hnt0 := hnt
    obtain ⟨rfl, r2, r3, r4, rfl, r6⟩ := hnt
    have hG := NI_GR hn (fun i hi => (hb i hi).2.1) r4
    have hS : cntB (slA cms c n) (cA cms c n) ≤ 40 := Nat.le_trans (cntB_le _ _) hG.1
    refine s_paint hG.1 hS (by omega) hc1 hB1 r3 (fun hu' uu' pd' hcr => ⟨v01, ?_⟩)
    rintro _ rfl
    refine ⟨w1, w2, ?_⟩
    unfold wX5_run
    refine s_inI (fun _ => ⟨fun h => absurd h ten, fun _ => s_inI (fun _ => ⟨fun h => absurd h ten, fun _ => ?_⟩) (fun h => absurd ⟨by omega, by omega⟩ h)⟩) (fun h => absurd ⟨by omega, by omega⟩ h)
    refine s_run32 hP0 hnt0 htl (by omega) hc1 hB1 (fun kp po so st nm cm hM hcm => ?_)
    have hcd := PT_cd (N := cA cms c n) (cols := cols) (g := slA cms c n) (nr := nr) (cl := cl) (k := cntB (slA cms c n) (cA cms c n) + 1) (most := 0) (rem := B)
    have hfin : ∀ R : Nat × Nat × (Nat → Nat), (R.1 = 0 ∨ R.1 = 1 ∨ R.1 = 2) → (R.1 = 0 → CR (cA cms c n) (slA cms c n) R.2.2 hu' uu') → (R.1 = 0 → CM (cA cms c n) R.2.2 cm) → (RRx d n c cpg (nI n) 1 (nI (cA cms c n)) nq (nI (cntB (slA cms c n) (cA cms c n))) (nI R.1) (nI (B - R.2.1)) crf crl cbx cxl cxr cyl cyh cms cwt pf nr sl cl hu' uu' cro cpg (nI n) (nI R.1) (nI (B - R.2.1)) (if R.1 = 0 then nI (uF (slA cms c n) R.2.2 (cA cms c n)) else -1) cbx cxl cyl cxr cyh cms mtl cm) := by
      intro R hcd hcr hcm
      refine ⟨hP0, ⟨rfl, rfl, rfl, rfl, rfl, rfl, rfl, rfl⟩, htl, Or.inr rfl, fun _ => hnt0, ⟨rfl, rfl⟩, fun _ => rfl, fun h0 => ?_, hrf, hR1.2.2.2.2.2.2.2.2.2⟩
      have e : R.1 = 0 := nI_inj (a := R.1) (b := 0) (by omega) (by omega) h0
      exact ⟨R.2.2, hcr e, hcm e, if_pos e⟩
    have hRR := hfin _ hcd hcr hcm
    exact fin0 rfl (fun _ => uo (f := ou) (x := (nI (PT (cA cms c n) cols (slA cms c n) nr cl (cntB (slA cms c n) (cA cms c n) + 1) 0 B).1).toInt64)) (by rintro _ rfl; apply hk; exact hRR) (by rintro _ rfl; apply hk; exact hRR)
  · exact fin2 rfl ten (by rintro _ rfl; apply hk; exact hR0)
  · exact fin2 rfl ten (by rintro _ rfl; apply hk; exact hR0)
theorem q_711 (hL : L ≤ 3072) (ht : t + 6 ≤ L) (hR : RRx d n c cpg cps cnf cnp cnq cns cpo cpt crf crl cbx cxl cxr cyl cyh cms cwt cpf cnr csl ccl chu cuu cro mkd mkn mka mkt mku mcn mxs mys mx2 my2 mmy mtl mco) (hk : HK k (nI t + 6)) : cs_711 L xs cpg cps cnf cnp cnq cns cpo cpt crf crl cbx cxl cxr cyl cyh cms cwt cpf cnr csl ccl chu cuu cpd cro crc ou mkc mkd mkn mkp mka mkt mku mkr mcn mxs mys mx2 my2 mmy mtl mpo mso mst mnr mco mrg mre (nI t) k := by
  have hR0 := hR
  obtain ⟨hP, ⟨rfl, rfl, rfl, rfl, rfl, rfl, rfl, rfl⟩, htl, hnf, hnet, ⟨rfl, rfl⟩, hpo, hcol, hrf, hring⟩ := hR
  have hP0 := hP
  obtain ⟨hd, ⟨rfl, hn⟩, hb, hu, hv⟩ := hP
  unfold cs_711 wL_colour
  generalize xs (nI t + 1).toNatClampNeg = x1
  generalize xs (nI t + 2).toNatClampNeg = x2
  have w1 : vp_in (nI t + 1) L := vin (i := 1) ht hL (by omega)
  have w2 : vp_in (nI t + 2) L := vin (i := 2) ht hL (by omega)
  refine ⟨w1, w2, ?_⟩
  unfold wX4_colour
  refine s_needSlot hn hb (fun s k hs hk2 e1 e2 => ?_) (fun hno => ⟨rfl, w1, w2, ?_⟩)
  · subst e1
    subst e2
    have hc4 := (hb s (by omega)).2.1
    have hbv : vp_in (nI (4 * s + k)) 40 := vp_in_nI (by omega) (by omega)
    have mm : ∀ K, (∀ kp po so st nm, MPR d n c cxl cxr cyl cyh cms kp po st nm → ((¬ cpo = 0 → K (-1) (0, kp, po, so, st, nm)) ∧ (cpo = 0 → (vp_in (po (4 * s + k)) 40 ∧ K (mco (po (4 * s + k)).toNatClampNeg) (0, kp, po, so, st, nm))))) → wX5_colour cpg (nI n) cpo cbx cxl cyl cxr cyh cms mco mkc mkp mpo mso mst mnr (nI s) (nI k) K := by
      intro K hK
      unfold wX5_colour bkX5_colour_15
      refine s_isBox1 hn hb hs hk2 ⟨fun h => absurd h ten, fun _ => ⟨fun _ => s_findParts hP0 (fun kp po so st nm hM => ?_), fun h => absurd (by decide) h⟩⟩
      rw [slotJ, nI_clamp (show 4 * s + k < 2 ^ 31 by omega)]
      exact ⟨(hK kp po so st nm hM).1, fun h => ⟨hbv, (hK kp po so st nm hM).2 h⟩⟩
    refine ⟨fun h => ⟨v01, ?_⟩, fun h => ?_⟩
    · rintro _ rfl
      refine ⟨w1, w2, mm _ (fun kp po so st nm hM => ⟨fun _ => ?_, fun h2 => absurd h2 h⟩)⟩
      exact fin0 rfl (fun _ => uo (f := ou) (x := (-1 : Int32).toInt64)) (by rintro _ rfl; apply hk; exact hR0) (by rintro _ rfl; apply hk; exact hR0)
    · obtain ⟨co, hcr, hcm, hku⟩ := hcol h
      have hnf1 : cnf = 1 := hpo (by rw [h]; decide)
      obtain ⟨r1, r2, r3, r4, r5, r6⟩ := hnet hnf1
      have hG := NI_GR hn (fun i hi => (hb i hi).2.1) r4
      have hN40 := hG.1
      have hQ : PO cms c s k < cA cms c n := PO_lt hs hk2
      rw [nI_clamp (show 4 * s + k < 2 ^ 31 by omega), r2 s k hs hk2, nI_clamp (show PO cms c s k < 2 ^ 31 by omega)]
      refine ⟨hbv, vp_in_nI (by omega) (by omega), v01, ?_⟩
      rintro _ rfl
      refine ⟨w1, w2, mm _ (fun kp po so st nm hM => ⟨fun h2 => absurd h h2, fun _ => ?_⟩)⟩
      rw [hM.2.1 s k hs hk2, nI_clamp (show PO cms c s k < 2 ^ 31 by omega)]
      refine ⟨vp_in_nI (by omega) (by omega), ?_⟩
      have ev : (chu (PO cms c s k)).toInt64 = (mco (PO cms c s k)).toInt64 := by rw [(hcr.1 _ hQ).1, (hcm _ hQ).1]
      exact fin0 rfl (fun _ => (uo (f := ou) (x := (chu (PO cms c s k)).toInt64)).trans ev) (by rintro _ rfl; apply hk; exact hR0) (by rintro _ rfl; apply hk; exact hR0)
  · unfold wX5_colour bkX5_colour_15
    refine s_isBox0 hn hb hno ⟨fun _ => ⟨fun h => absurd h (by decide), fun _ => ?_⟩, fun h => absurd rfl h⟩
    exact fin2 rfl ten (by rintro _ rfl; apply hk; exact hR0)
theorem q_779 (hL : L ≤ 3072) (ht : t + 6 ≤ L) (hR : RRx d n c cpg cps cnf cnp cnq cns cpo cpt crf crl cbx cxl cxr cyl cyh cms cwt cpf cnr csl ccl chu cuu cro mkd mkn mka mkt mku mcn mxs mys mx2 my2 mmy mtl mco) (hk : HK k (nI t + 6)) : cs_779 L xs cpg cps cnf cnp cnq cns cpo cpt crf crl cbx cxl cxr cyl cyh cms cwt cpf cnr csl ccl chu cuu cpd cro crc ou mkc mkd mkn mkp mka mkt mku mkr mcn mxs mys mx2 my2 mmy mtl mpo mso mst mnr mco mrg mre (nI t) k := by
  have hR0 := hR
  obtain ⟨hP, ⟨rfl, rfl, rfl, rfl, rfl, rfl, rfl, rfl⟩, htl, hnf, hnet, ⟨rfl, rfl⟩, hpo, hcol, hrf, hring⟩ := hR
  have hP0 := hP
  obtain ⟨hd, ⟨rfl, hn⟩, hb, hu, hv⟩ := hP
  unfold cs_779 wX4_used wX5_used
  refine ⟨fun h => ⟨fun _ => ?_, fun h2 => absurd h2 h⟩, fun h => ?_⟩
  · exact fin3 rfl (by rintro _ rfl; apply hk; exact hR0)
  · obtain ⟨co, hcr, hcm, hku⟩ := hcol h
    have hnf1 : cnf = 1 := hpo (by rw [h]; decide)
    obtain ⟨r1, r2, r3, r4, r5, r6⟩ := hnet hnf1
    have hG := NI_GR hn (fun i hi => (hb i hi).2.1) r4
    have hN40 := hG.1
    unfold wX1_stitchesUsed
    refine ⟨fun h2 => ?_, fun h2 => ⟨fun h3 => absurd h h3, fun _ => ?_⟩⟩
    · have hN0 : cA cms c n ≠ 0 := fun e => h2 (by rw [r1, e]; rfl)
      have e9 : cnp - 1 = nI (cA cms c n - 1) := by rw [r1, sub1 (by omega)]
      rw [e9, nI_clamp (by omega)]
      refine ⟨vp_in_nI (by omega) (by omega), fun h3 => absurd h h3, fun _ => ?_⟩
      refine fin3 ?_ (by rintro _ rfl; apply hk; exact hR0)
      rw [hcr.2 hN0, hku]
      congr 1
      exact (if_neg hN0).symm
    · have hN0 : cA cms c n = 0 := nI_inj (a := cA cms c n) (b := 0) (by omega) (by omega) (r1.symm.trans h2)
      refine fin3 ?_ (by rintro _ rfl; apply hk; exact hR0)
      rw [hku]
      show nI 0 = _
      congr 1
      exact (if_pos hN0).symm
theorem q_792 (hL : L ≤ 3072) (ht : t + 6 ≤ L) (hR : RRx d n c cpg cps cnf cnp cnq cns cpo cpt crf crl cbx cxl cxr cyl cyh cms cwt cpf cnr csl ccl chu cuu cro mkd mkn mka mkt mku mcn mxs mys mx2 my2 mmy mtl mco) (hk : HK k (nI t + 6)) : cs_792 L xs cpg cps cnf cnp cnq cns cpo cpt crf crl cbx cxl cxr cyl cyh cms cwt cpf cnr csl ccl chu cuu cpd cro crc ou mkc mkd mkn mkp mka mkt mku mkr mcn mxs mys mx2 my2 mmy mtl mpo mso mst mnr mco mrg mre (nI t) k := by
  have hR0 := hR
  obtain ⟨hP, ⟨rfl, rfl, rfl, rfl, rfl, rfl, rfl, rfl⟩, htl, hnf, hnet, ⟨rfl, rfl⟩, hpo, hcol, hrf, hring⟩ := hR
  unfold cs_792 wX4_steps wX5_steps
  exact fin3 rfl (by rintro _ rfl; apply hk; exact hR0)
theorem q_805 (hL : L ≤ 3072) (ht : t + 6 ≤ L) (hR : RRx d n c cpg cps cnf cnp cnq cns cpo cpt crf crl cbx cxl cxr cyl cyh cms cwt cpf cnr csl ccl chu cuu cro mkd mkn mka mkt mku mcn mxs mys mx2 my2 mmy mtl mco) (hk : HK k (nI t + 6)) : cs_805 L xs cpg cps cnf cnp cnq cns cpo cpt crf crl cbx cxl cxr cyl cyh cms cwt cpf cnr csl ccl chu cuu cpd cro crc ou mkc mkd mkn mkp mka mkt mku mkr mcn mxs mys mx2 my2 mmy mtl mpo mso mst mnr mco mrg mre (nI t) k := by
  have hR0 := hR
  obtain ⟨hP, ⟨rfl, rfl, rfl, rfl, rfl, rfl, rfl, rfl⟩, htl, hnf, hnet, ⟨rfl, rfl⟩, hpo, hcol, hrf, hring⟩ := hR
  have hP0 := hP
  obtain ⟨hd, ⟨rfl, hn⟩, hb, hu, hv⟩ := hP
  unfold cs_805 wL_area
  generalize xs (nI t + 1).toNatClampNeg = x1
  have w1 : vp_in (nI t + 1) L := vin (i := 1) ht hL (by omega)
  have a0 : (0 : Int64).toInt = 0 := rfl
  have a3 : (3 : Int64).toInt = 3 := rfl
  refine ⟨w1, ?_⟩
  unfold wX4_area
  refine s_isColour (fun x hx ex => ⟨fun _ => ⟨fun h => ⟨v01, ?_⟩, fun h => ?_⟩, fun h => absurd h ten⟩) (fun hx => ⟨fun h => absurd rfl h, fun _ => ⟨rfl, w1, ?_⟩⟩)
  · subst ex
    rintro _ rfl
    refine ⟨w1, ?_⟩
    unfold wX5_area bkX5_area_18
    refine s_inI (fun _ => ⟨fun h => absurd h ten, fun _ => s_findParts hP0 (fun kp po so st nm hM => s_area30n (Or.inr h) ?_)⟩) (fun h => absurd ⟨by rw [a0, nI_toInt (by omega)]; omega, by rw [a3, nI_toInt (by omega)]; omega⟩ h)
    exact fin0 rfl (fun _ => uo (f := ou) (x := 0)) (by rintro _ rfl; apply hk; exact hR0) (by rintro _ rfl; apply hk; exact hR0)
  · subst ex
    obtain ⟨co, hcr, hcm, hku⟩ := hcol h
    have hnf1 : cnf = 1 := hpo (by rw [h]; decide)
    obtain ⟨r1, r2, r3, r4, r5, r6⟩ := hnet hnf1
    have hG := NI_GR hn (fun i hi => (hb i hi).2.1) r4
    have hN40 := hG.1
    refine s_sizeOf hn hb r2 hN40 hcr.1 hx ⟨v01, ?_⟩
    rintro _ rfl
    refine ⟨w1, ?_⟩
    unfold wX5_area bkX5_area_18
    refine s_inI (fun _ => ⟨fun h => absurd h ten, fun _ => s_findParts hP0 (fun kp po so st nm hM => ?_)⟩) (fun h => absurd ⟨by rw [a0, nI_toInt (by omega)]; omega, by rw [a3, nI_toInt (by omega)]; omega⟩ h)
    subst h
    refine s_area30 (co := co) hn hb hM.2.1 hN40 hcm hx ?_
    exact fin0 rfl (fun _ => uo (f := ou) (x := arA (qB cms c co x) (szB cxl cxr cyl cyh) c n)) (by rintro _ rfl; apply hk; exact hR0) (by rintro _ rfl; apply hk; exact hR0)
  · unfold wX5_area bkX5_area_18
    refine s_inI (fun h => absurd (by rw [a0, a3] at h; exact h) hx) (fun _ => ⟨fun _ => s_findParts hP0 (fun kp po so st nm hM => s_area30n (Or.inl ten) ?_), fun h => absurd rfl h⟩)
    exact fin2 rfl ten (by rintro _ rfl; apply hk; exact hR0)
end CS
