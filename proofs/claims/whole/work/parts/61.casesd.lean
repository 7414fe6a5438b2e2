theorem nIs2 (n : Nat) (hn : n < 100000) : (nI n - 1).toInt = (n : Int) - 1 := by
  rw [i_sub]
  · rw [nI_toInt (by omega)]; rfl
  · rw [nI_toInt (by omega)]; show -2147483648 ≤ (n : Int) - 1; omega
  · rw [nI_toInt (by omega)]; show (n : Int) - 1 < 2147483648; omega
theorem fP_cong {nr nm : Nat → Int64} {N p : Nat} (h : ∀ p, p < N → nm p = nr p) (hp : p < N) : fP nm p = fP nr p := by
  funext q; unfold fP; rw [h p hp]
theorem gP_cong {nr nm : Nat → Int64} {N p : Nat} (h : ∀ p, p < N → nm p = nr p) (hp : p < N) : gP nm N p = gP nr N p := by
  unfold gP; rw [fP_cong h hp]
theorem PC_cong {nr nm : Nat → Int64} {N : Nat} (h : ∀ p, p < N → nm p = nr p) : PC nm N = PC nr N := by
  rw [PC_eq, PC_eq]
  exact sumN_cong (fun p hp => gP_cong h hp)
theorem IsP_cong {nr nm : Nat → Int64} {N k p q : Nat} (h : ∀ p, p < N → nm p = nr p) (hi : IsP nm N k p q) : IsP nr N k p q := by
  obtain ⟨a1, a2, a3, a4⟩ := hi
  refine ⟨a1, a2, by rw [← h p (by omega)]; exact a3, ?_⟩
  rw [← fP_cong h (by omega), ← sumN_cong (f := gP nm N) (fun j hj => gP_cong h (by omega))]
  exact a4
section CS
variable {L t : Nat} {xs : Nat → Int32} {d n : Nat} {c : Nat → Nat} {cpg : Int32} {cps : Int32} {cnf : Int32} {cnp : Int32} {cnq : Int32} {cns : Int32} {cpo : Int32} {cpt : Int32} {crf : Int32} {crl : Int32} {cbx : Nat → Int32} {cxl : Nat → Int32} {cxr : Nat → Int32} {cyl : Nat → Int32} {cyh : Nat → Int32} {cms : Nat → Int32} {cwt : Nat → Int32} {cpf : Nat → Int32} {cnr : Nat → Int64} {csl : Nat → Int32} {ccl : Nat → Int32} {chu : Nat → Int32} {cuu : Nat → Int32} {cpd : Nat → Int64} {cro : Nat → Int32} {crc : Nat → Int64} {ou : Nat → Int64} {mkc : Int32} {mkd : Int32} {mkn : Int32} {mkp : Int32} {mka : Int32} {mkt : Int32} {mku : Int32} {mkr : Int32} {mcn : Nat → Int32} {mxs : Nat → Int32} {mys : Nat → Int32} {mx2 : Nat → Int32} {my2 : Nat → Int32} {mmy : Nat → Int32} {mtl : Nat → Int32} {mpo : Nat → Int32} {mso : Nat → Int32} {mst : Nat → Int32} {mnr : Nat → Int64} {mco : Nat → Int32} {mrg : Nat → Int32} {mre : Nat → Int64} {k : (Int32) → (Int32) → (Int32) → (Int32) → (Int32) → (Int32) → (Int32) → (Int32) → (Int32) → (Int32) → (Nat → Int32) → (Nat → Int32) → (Nat → Int32) → (Nat → Int32) → (Nat → Int32) → (Nat → Int32) → (Nat → Int32) → (Nat → Int32) → (Nat → Int64) → (Nat → Int32) → (Nat → Int32) → (Nat → Int32) → (Nat → Int32) → (Nat → Int64) → (Nat → Int32) → (Nat → Int64) → (Nat → Int64) → (Int32) → (Int32) → (Int32) → (Int32) → (Int32) → (Int32) → (Int32) → (Int32) → (Nat → Int32) → (Nat → Int32) → (Nat → Int32) → (Nat → Int32) → (Nat → Int32) → (Nat → Int32) → (Nat → Int32) → (Nat → Int32) → (Nat → Int32) → (Nat → Int32) → (Nat → Int64) → (Nat → Int32) → (Nat → Int32) → (Nat → Int64) → Int32 → Prop}
theorem q_427 (hL : L ≤ 3072) (ht : t + 6 ≤ L) (hR : RRx d n c cpg cps cnf cnp cnq cns cpo cpt crf crl cbx cxl cxr cyl cyh cms cwt cpf cnr csl ccl chu cuu cro mkd mkn mka mkt mku mcn mxs mys mx2 my2 mmy mtl mco) (hk : HK k (nI t + 6)) : cs_427 L xs cpg cps cnf cnp cnq cns cpo cpt crf crl cbx cxl cxr cyl cyh cms cwt cpf cnr csl ccl chu cuu cpd cro crc ou mkc mkd mkn mkp mka mkt mku mkr mcn mxs mys mx2 my2 mmy mtl mpo mso mst mnr mco mrg mre (nI t) k := by
  have hR0 := hR
  obtain ⟨hP, ⟨rfl, rfl, rfl, rfl, rfl, rfl, rfl, rfl⟩, htl, hnf, hnet, ⟨rfl, rfl⟩, hpo, hcol, hrf, hring⟩ := hR
  have hP0 := hP
  obtain ⟨hd, ⟨rfl, hn⟩, hb, hu, hv⟩ := hP
  unfold cs_427 wL_pre
  generalize xs (nI t + 1).toNatClampNeg = x1
  generalize xs (nI t + 2).toNatClampNeg = x2
  generalize xs (nI t + 3).toNatClampNeg = x3
  have w1 : vp_in (nI t + 1) L := vin (i := 1) ht hL (by omega)
  have w2 : vp_in (nI t + 2) L := vin (i := 2) ht hL (by omega)
  have w3 : vp_in (nI t + 3) L := vin (i := 3) ht hL (by omega)
  refine ⟨w1, w2, w3, ?_⟩
  unfold wX4_pre
  refine s_needSlot hn hb (fun s k hs hk2 e1 e2 => ?_) (fun hno => Or.inl ⟨rfl, w1, w2, w3, ?_⟩)
  · subst e1
    subst e2
    have hc4 := (hb s (by omega)).2.1
    have hbv : vp_in (nI (4 * s + k)) 40 := vp_in_nI (by omega) (by omega)
    have good : ∀ (hx : x3 = -1 ∨ ∃ x, x < 4 ∧ x3 = nI x) K, K (mtl (4 * s + k)) (0, -1, 0, upd mtl (4 * s + k) x3) → wX5_pre (nI n) cbx mkc cpo cpt mtl (nI s) (nI k) x3 K := by
      intro hx K hK
      have hin : (-1 : Int64).toInt ≤ x3.toInt ∧ x3.toInt ≤ (3 : Int64).toInt := by
        have e1 : (-1 : Int64).toInt = -1 := rfl
        have e2 : (3 : Int64).toInt = 3 := rfl
        rw [e1, e2]
        rcases hx with rfl | ⟨x, hx, rfl⟩
        · exact ⟨by decide, by decide⟩
        · rw [nI_toInt (by omega)]; omega
      unfold wX5_pre bkX5_pre_33 wX5_forget
      refine s_isBox1 hn hb hs hk2 ⟨fun _ => s_inI (fun _ => ⟨fun _ => ⟨fun _ => ?_, fun h => absurd (by decide) h⟩, fun h => absurd h ten⟩) (fun h => absurd hin h), fun h => absurd h ten⟩
      rw [slotJ, nI_clamp (by omega)]
      refine ⟨hbv, ?_⟩
      rintro _ rfl
      refine ⟨hbv, ?_⟩
      rintro _ rfl
      exact hK
    have go : ∀ (hx : x3 = -1 ∨ ∃ x, x < 4 ∧ x3 = nI x) K KX, K (cwt (4 * s + k)) (0, -1, 0, 0, upd cwt (4 * s + k) x3) → bkX4_pre_30 (nI n) cbx K KX cnf cpo cpt crf cwt x3 (nI (4 * s + k)) := by
      intro hx K KX hK
      unfold bkX4_pre_30 wX4_forgetFindings wX1_clear
      rw [nI_clamp (by omega)]
      refine ⟨hbv, ?_⟩
      rintro _ rfl
      refine ⟨hbv, ?_⟩
      rintro _ rfl
      exact hK
    have fin : ∀ (hx : x3 = -1 ∨ ∃ x, x < 4 ∧ x3 = nI x), PLN cpg (nI n) cbx cxl cxr cyl cyh cms (upd cwt (4 * s + k) x3) d n c ∧ (∀ s' k', s' < n → k' < c s' → upd mtl (4 * s + k) x3 (4 * s' + k') = upd cwt (4 * s + k) x3 (4 * s' + k')) := by
      intro hx
      refine ⟨PLN_wt hP0 hs hk2 hx, fun s' k' hs' hk' => ?_⟩
      by_cases e : 4 * s' + k' = 4 * s + k
      · rw [e, u_s, u_s]
      · rw [u_n e, u_n e]; exact htl s' k' hs' hk'
    have ev : (cwt (4 * s + k)).toInt64 = (mtl (4 * s + k)).toInt64 := by rw [htl s k hs hk2]
    refine ⟨fun h => ?_, fun h => s_isColour (fun x hx ex => ⟨fun _ => ?_, fun h => absurd h ten⟩) (fun hno => ⟨fun h => absurd rfl h, fun _ => Or.inr ⟨rfl, w1, w2, w3, ?_⟩⟩)⟩
    · refine go (Or.inl h) _ _ ⟨v01, ?_⟩
      rintro _ rfl
      refine ⟨w1, w2, w3, good (Or.inl h) _ ?_⟩
      obtain ⟨f1, f2⟩ := fin (Or.inl h)
      exact fin0 rfl (fun _ => (uo (f := ou) (x := (cwt (4 * s + k)).toInt64)).trans ev) (by rintro _ rfl; apply hk; exact RR_new f1 f2) (by rintro _ rfl; apply hk; exact RR_new f1 f2)
    · have hx2 : x3 = -1 ∨ ∃ x, x < 4 ∧ x3 = nI x := Or.inr ⟨x, hx, ex⟩
      refine go hx2 _ _ ⟨v01, ?_⟩
      rintro _ rfl
      refine ⟨w1, w2, w3, good hx2 _ ?_⟩
      obtain ⟨f1, f2⟩ := fin hx2
      exact fin0 rfl (fun _ => (uo (f := ou) (x := (cwt (4 * s + k)).toInt64)).trans ev) (by rintro _ rfl; apply hk; exact RR_new f1 f2) (by rintro _ rfl; apply hk; exact RR_new f1 f2)
    · have hout : ¬ ((-1 : Int64).toInt ≤ x3.toInt ∧ x3.toInt ≤ (3 : Int64).toInt) := by
        have e1 : (-1 : Int64).toInt = -1 := rfl
        have e2 : (3 : Int64).toInt = 3 := rfl
        rw [e1, e2]
        intro h3
        have h4 : x3.toInt ≠ -1 := fun e => h (by rw [i_eq, e]; rfl)
        omega
      unfold wX5_pre bkX5_pre_33
      refine s_isBox1 hn hb hs hk2 ⟨fun _ => s_inI (fun h => absurd h hout) (fun _ => ⟨fun h => absurd rfl h, fun _ => ⟨fun h => absurd h (by decide), fun _ => ?_⟩⟩), fun h => absurd h ten⟩
      exact fin2 rfl (by decide) (by rintro _ rfl; apply hk; exact hR0)
  · unfold wX5_pre bkX5_pre_33
    refine s_isBox0 hn hb hno ⟨fun h => absurd rfl h, fun _ => ⟨fun h => absurd h (by decide), fun _ => ?_⟩⟩
    exact fin2 rfl ten (by rintro _ rfl; apply hk; exact hR0)
theorem q_507 (hL : L ≤ 3072) (ht : t + 6 ≤ L) (hR : RRx d n c cpg cps cnf cnp cnq cns cpo cpt crf crl cbx cxl cxr cyl cyh cms cwt cpf cnr csl ccl chu cuu cro mkd mkn mka mkt mku mcn mxs mys mx2 my2 mmy mtl mco) (hk : HK k (nI t + 6)) : cs_507 L xs cpg cps cnf cnp cnq cns cpo cpt crf crl cbx cxl cxr cyl cyh cms cwt cpf cnr csl ccl chu cuu cpd cro crc ou mkc mkd mkn mkp mka mkt mku mkr mcn mxs mys mx2 my2 mmy mtl mpo mso mst mnr mco mrg mre (nI t) k := by
  have hR0 := hR
  obtain ⟨hP, ⟨rfl, rfl, rfl, rfl, rfl, rfl, rfl, rfl⟩, htl, hnf, hnet, ⟨rfl, rfl⟩, hpo, hcol, hrf, hring⟩ := hR
  have hP0 := hP
  obtain ⟨hd, ⟨rfl, hn⟩, hb, hu, hv⟩ := hP
  unfold cs_507 wL_part
  generalize xs (nI t + 1).toNatClampNeg = x1
  generalize xs (nI t + 2).toNatClampNeg = x2
  have w1 : vp_in (nI t + 1) L := vin (i := 1) ht hL (by omega)
  have w2 : vp_in (nI t + 2) L := vin (i := 2) ht hL (by omega)
  refine ⟨w1, w2, ?_⟩
  unfold wX4_part
  refine s_needSlot hn hb (fun s k hs hk2 e1 e2 => rr_refresh hR0 (fun np nq ns pf nr sl cl hR1 => ?_)) (fun hno => ⟨rfl, w1, w2, ?_⟩)
  · subst e1
    subst e2
    have hc4 := (hb s (by omega)).2.1
    have hbv : vp_in (nI (4 * s + k)) 40 := vp_in_nI (by omega) (by omega)
    obtain ⟨r1, r2, _⟩ := hR1.2.2.2.2.1 rfl
    rw [nI_clamp (show 4 * s + k < 2 ^ 31 by omega)]
    refine ⟨hbv, v01, ?_⟩
    rintro _ rfl
    refine ⟨w1, w2, ?_⟩
    unfold wX5_part bkX5_part_15
    refine s_isBox1 hn hb hs hk2 ⟨fun h => absurd h ten, fun _ => ⟨fun _ => s_findParts hP0 (fun kp po so st nm hM => ?_), fun h => absurd (by decide) h⟩⟩
    rw [slotJ, nI_clamp (show 4 * s + k < 2 ^ 31 by omega)]
    refine ⟨hbv, ?_⟩
    have ev : (pf (4 * s + k)).toInt64 = (po (4 * s + k)).toInt64 := by rw [r2 s k hs hk2, hM.2.1 s k hs hk2]
    exact fin0 rfl (fun _ => (uo (f := ou) (x := (pf (4 * s + k)).toInt64)).trans ev) (by rintro _ rfl; apply hk; exact hR1) (by rintro _ rfl; apply hk; exact hR1)
  · unfold wX5_part bkX5_part_15
    refine s_isBox0 hn hb hno ⟨fun _ => ⟨fun h => absurd h (by decide), fun _ => ?_⟩, fun h => absurd rfl h⟩
    exact fin2 rfl ten (by rintro _ rfl; apply hk; exact hR0)
theorem q_575 (hL : L ≤ 3072) (ht : t + 6 ≤ L) (hR : RRx d n c cpg cps cnf cnp cnq cns cpo cpt crf crl cbx cxl cxr cyl cyh cms cwt cpf cnr csl ccl chu cuu cro mkd mkn mka mkt mku mcn mxs mys mx2 my2 mmy mtl mco) (hk : HK k (nI t + 6)) : cs_575 L xs cpg cps cnf cnp cnq cns cpo cpt crf crl cbx cxl cxr cyl cyh cms cwt cpf cnr csl ccl chu cuu cpd cro crc ou mkc mkd mkn mkp mka mkt mku mkr mcn mxs mys mx2 my2 mmy mtl mpo mso mst mnr mco mrg mre (nI t) k := by
  have hR0 := hR
  obtain ⟨hP, ⟨rfl, rfl, rfl, rfl, rfl, rfl, rfl, rfl⟩, htl, hnf, hnet, ⟨rfl, rfl⟩, hpo, hcol, hrf, hring⟩ := hR
  have hP0 := hP
  obtain ⟨hd, ⟨rfl, hn⟩, hb, hu, hv⟩ := hP
  have hco : ∀ s k, s < n → k < c s → COK cxl cxr cyl cyh (4 * s + k) := fun s k hs hk => (hu s k hs hk).1
  unfold cs_575 wL_pair
  generalize xs (nI t + 1).toNatClampNeg = x1
  generalize xs (nI t + 2).toNatClampNeg = x2
  have w1 : vp_in (nI t + 1) L := vin (i := 1) ht hL (by omega)
  have w2 : vp_in (nI t + 2) L := vin (i := 2) ht hL (by omega)
  refine ⟨w1, w2, ?_⟩
  unfold wX4_pair
  refine rr_refresh hR0 (fun np nq ns pf nr sl cl hR1 => ?_)
  obtain ⟨r1, r2, r3, r4, r5, r6⟩ := hR1.2.2.2.2.1 rfl
  have hG := NI_GR hn (fun i hi => (hb i hi).2.1) r4
  have hN40 := hG.1
  have hPC : PC nr (cA cms c n) < 2000 := by
    have h1 := PC_le nr (cA cms c n)
    have h2 : cA cms c n * cA cms c n ≤ 40 * 40 := Nat.mul_le_mul hN40 hN40
    omega
  have e64 : (0 : Int64).toInt = 0 := rfl
  have e641 : (1 : Int64).toInt = 1 := rfl
  have hi : ∀ K, (∀ po so st nm, (∀ p, p < cA cms c n → nm p = nr p) → wX5_isIn x1.toInt64 0 (((nI (PC nr (cA cms c n))) - 1) : Int32).toInt64 (fun r17 : Int32 => ((¬ r17 = 0 → (wX5_isIn x2.toInt64 0 1 (fun r20 : Int32 => ((¬ r20 = 0 → bkX5_pair_40 cpg (nI n) cbx cxl cyl cxr cyh cms K mkc (nI (cA cms c n)) po so st nm x1 x2 0) ∧ (r20 = 0 → bkX5_pair_40 cpg (nI n) cbx cxl cyl cxr cyh cms K mkc (nI (cA cms c n)) po so st nm x1 x2 2))))) ∧ (r17 = 0 → bkX5_pair_40 cpg (nI n) cbx cxl cyl cxr cyh cms K mkc (nI (cA cms c n)) po so st nm x1 x2 1)))) → wX5_pair cpg (nI n) cbx cxl cyl cxr cyh cms mkc mkp mpo mso mst mnr x1 x2 K := by
    intro K hK
    unfold wX5_pair
    refine s_findParts hP0 (fun kp po so st nm hM => ?_)
    obtain ⟨rfl, m2, m3, m4⟩ := hM
    have hnm := MI_eq hco r4 m4
    refine s_pairs hN40 ?_
    rw [PC_cong hnm]
    exact hK po so st nm hnm
  have out1 : ¬ (0 ≤ x1.toInt ∧ x1.toInt < PC nr (cA cms c n)) → ∀ K, (∀ po so st nm, K 0 (1, nI (cA cms c n), po, so, st, nm)) → wX5_pair cpg (nI n) cbx cxl cyl cxr cyh cms mkc mkp mpo mso mst mnr x1 x2 K := by
    intro hx K hK
    refine hi K (fun po so st nm hnm => s_inI (fun h => ?_) (fun _ => ⟨fun h => absurd rfl h, fun _ => s_pair40n hN40 (by decide) (hK _ _ _ _)⟩))
    rw [e64, iL, nIs2 _ (by omega)] at h
    omega
  have hnq : nq = nI (PC nr (cA cms c n)) := r4.2
  refine ⟨fun h => Or.inl ⟨rfl, w1, w2, out1 ?_ _ (fun po so st nm => ?_)⟩, fun h => ⟨fun h2 => ?_, fun h2 => Or.inl ⟨rfl, w1, w2, out1 ?_ _ (fun po so st nm => ?_)⟩⟩⟩
  · rw [i_lt] at h
    have : (0 : Int32).toInt = 0 := rfl
    omega
  · exact fin2 rfl ten (by rintro _ rfl; apply hk; exact hR1)
  · obtain ⟨j, hj, rfl⟩ := nI_of h
    have hjP : j < PC nr (cA cms c n) := by
      have h3 : nI j < nI (PC nr (cA cms c n)) := hnq ▸ h2
      rw [nI_ltI (by omega) (by omega)] at h3
      exact h3
    have hin1 : (0 : Int64).toInt ≤ (nI j).toInt ∧ (nI j).toInt ≤ ((nI (PC nr (cA cms c n)) - 1 : Int32).toInt64).toInt := by
      rw [e64, iL, nIs2 _ (by omega), nI_toInt (by omega)]
      omega
    have good : ∀ K KX, (∀ p q, IsP nr (cA cms c n) j p q → ∀ r, ((¬ x2 = 0 → r = nI q) ∧ (x2 = 0 → r = nI p)) → K r (1, np, nq, ns, pf, nr, sl, cl)) → bkX4_pair_51 cpg (nI n) cbx cxl cxr cyl cyh cms cwt K KX 1 np nq ns pf nr sl cl (nI j) x2 := by
      intro K KX hK
      unfold bkX4_pair_51
      have h9 : wX0_partOfPair (nI (cA cms c n)) nr (nI j) x2 (fun (r1 : Int32) => K r1 (1, np, nq, ns, pf, nr, sl, cl)) :=
        s_partOfPair hN40 hjP (fun p q hpq => ⟨fun h => hK p q hpq _ ⟨fun _ => rfl, fun h2 => absurd h2 h⟩, fun h => hK p q hpq _ ⟨fun h2 => absurd h h2, fun _ => rfl⟩⟩)
      rw [← r1] at h9
      exact h9
    have mgood : (x2 = 0 ∨ x2 = 1) → ∀ p q, IsP nr (cA cms c n) j p q → ∀ r, ((¬ x2 = 0 → r = nI q) ∧ (x2 = 0 → r = nI p)) → ∀ K, (∀ po so st nm, K r (0, nI (cA cms c n), po, so, st, nm)) → wX5_pair cpg (nI n) cbx cxl cyl cxr cyh cms mkc mkp mpo mso mst mnr (nI j) x2 K := by
      intro hx2 p q hpq r hr K hK
      have hin2 : (0 : Int64).toInt ≤ x2.toInt ∧ x2.toInt ≤ (1 : Int64).toInt := by
        rw [e64, e641]
        rcases hx2 with rfl | rfl <;> decide
      refine hi _ (fun po so st nm hnm => s_inI (fun _ => ⟨fun _ => s_inI (fun _ => ⟨fun _ => ?_, fun h => absurd h ten⟩) (fun h => absurd hin2 h), fun h => absurd h ten⟩) (fun h => absurd hin1 h))
      refine s_pair40 hN40 (by rw [PC_cong hnm]; exact hjP) (fun p' q' hpq' => ?_)
      obtain ⟨rfl, rfl⟩ := IsP_uniq hpq (IsP_cong hnm hpq')
      exact ⟨fun h => by rw [← hr.1 h]; exact hK _ _ _ _, fun h => by rw [← hr.2 h]; exact hK _ _ _ _⟩
    refine ⟨fun h3 => good _ _ (fun p q hpq r hr => ⟨v01, ?_⟩), fun h3 => ⟨fun h4 => good _ _ (fun p q hpq r hr => ⟨v01, ?_⟩), fun h4 => Or.inr ⟨rfl, w1, w2, ?_⟩⟩⟩
    · rintro _ rfl
      refine ⟨w1, w2, mgood (Or.inl h3) p q hpq r hr _ (fun po so st nm => ?_)⟩
      exact fin0 rfl (fun _ => uo (f := ou) (x := r.toInt64)) (by rintro _ rfl; apply hk; exact hR1) (by rintro _ rfl; apply hk; exact hR1)
    · rintro _ rfl
      refine ⟨w1, w2, mgood (Or.inr h4) p q hpq r hr _ (fun po so st nm => ?_)⟩
      exact fin0 rfl (fun _ => uo (f := ou) (x := r.toInt64)) (by rintro _ rfl; apply hk; exact hR1) (by rintro _ rfl; apply hk; exact hR1)
    · have hout : ¬ ((0 : Int64).toInt ≤ x2.toInt ∧ x2.toInt ≤ (1 : Int64).toInt) := by
        rw [e64, e641]
        intro h5
        have h6 : x2.toInt ≠ 0 := fun e => h3 (by rw [i_eq, e]; rfl)
        have h7 : x2.toInt ≠ 1 := fun e => h4 (by rw [i_eq, e]; rfl)
        omega
      refine hi _ (fun po so st nm hnm => s_inI (fun _ => ⟨fun _ => s_inI (fun h => absurd h hout) (fun _ => ⟨fun h => absurd rfl h, fun _ => s_pair40n hN40 (by decide) ?_⟩), fun h => absurd h ten⟩) (fun h => absurd hin1 h))
      exact fin2 rfl (by decide) (by rintro _ rfl; apply hk; exact hR1)
  · rw [hnq] at h2
    rw [i_lt, nI_toInt (by omega)] at h2
    omega
  · exact fin2 rfl ten (by rintro _ rfl; apply hk; exact hR1)
end CS
