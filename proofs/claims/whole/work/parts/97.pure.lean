theorem lp_all {L : Nat} {xs : Nat → Int32} (hL : L ≤ 3072) : ∀ (m t d n : Nat) (c : Nat → Nat) (cpg : Int32) (cps : Int32) (cnf : Int32) (cnp : Int32) (cnq : Int32) (cns : Int32) (cpo : Int32) (cpt : Int32) (crf : Int32) (crl : Int32) (cbx : Nat → Int32) (cxl : Nat → Int32) (cxr : Nat → Int32) (cyl : Nat → Int32) (cyh : Nat → Int32) (cms : Nat → Int32) (cwt : Nat → Int32) (cpf : Nat → Int32) (cnr : Nat → Int64) (csl : Nat → Int32) (ccl : Nat → Int32) (chu : Nat → Int32) (cuu : Nat → Int32) (cpd : Nat → Int64) (cro : Nat → Int32) (crc : Nat → Int64) (ou : Nat → Int64) (mkc : Int32) (mkd : Int32) (mkn : Int32) (mkp : Int32) (mka : Int32) (mkt : Int32) (mku : Int32) (mkr : Int32) (mcn : Nat → Int32) (mxs : Nat → Int32) (mys : Nat → Int32) (mx2 : Nat → Int32) (my2 : Nat → Int32) (mmy : Nat → Int32) (mtl : Nat → Int32) (mpo : Nat → Int32) (mso : Nat → Int32) (mst : Nat → Int32) (mnr : Nat → Int64) (mco : Nat → Int32) (mrg : Nat → Int32) (mre : Nat → Int64), t ≤ L → L < t + 6 * m → RRx d n c cpg cps cnf cnp cnq cns cpo cpt crf crl cbx cxl cxr cyl cyh cms cwt cpf cnr csl ccl chu cuu cro mkd mkn mka mkt mku mcn mxs mys mx2 my2 mmy mtl mco → lpL L xs m cpg cps cnf cnp cnq cns cpo cpt crf crl cbx cxl cxr cyl cyh cms cwt cpf cnr csl ccl chu cuu cpd cro crc ou mkc mkd mkn mkp mka mkt mku mkr mcn mxs mys mx2 my2 mmy mtl mpo mso mst mnr mco mrg mre (nI t) := by
  intro m
  induction m with
  | zero => intros; omega
  | succ m ih =>
    intro t d n c cpg cps cnf cnp cnq cns cpo cpt crf crl cbx cxl cxr cyl cyh cms cwt cpf cnr csl ccl chu cuu cpd cro crc ou mkc mkd mkn mkp mka mkt mku mkr mcn mxs mys mx2 my2 mmy mtl mpo mso mst mnr mco mrg mre h1 h2 hR
    rw [lpL.eq_2]
    have e6 : (6 : Int32).toInt = 6 := rfl
    have eL : (nI L - 6).toInt = (L : Int) - 6 := by
      rw [i_sub]
      · rw [nI_toInt (by omega), e6]
      · rw [nI_toInt (by omega), e6]; omega
      · rw [nI_toInt (by omega), e6]; omega
    rw [i_lt, eL, nI_toInt (by omega)]
    refine ⟨fun _ => trivial, fun h => ⟨vp_in_nI (by omega) (by omega), ?_⟩⟩
    have ht : t + 6 ≤ L := by omega
    have e7 : nI t + 6 = nI (t + 6) := nI_add t 6
    have hkk : HK (lpL L xs m) (nI t + 6) := by
      intro d n c cpg cps cnf cnp cnq cns cpo cpt crf crl cbx cxl cxr cyl cyh cms cwt cpf cnr csl ccl chu cuu cpd cro crc ou mkc mkd mkn mkp mka mkt mku mkr mcn mxs mys mx2 my2 mmy mtl mpo mso mst mnr mco mrg mre hR2
      rw [e7]
      exact ih (t + 6) d n c cpg cps cnf cnp cnq cns cpo cpt crf crl cbx cxl cxr cyl cyh cms cwt cpf cnr csl ccl chu cuu cpd cro crc ou mkc mkd mkn mkp mka mkt mku mkr mcn mxs mys mx2 my2 mmy mtl mpo mso mst mnr mco mrg mre (by omega) (by omega) hR2
    rintro x rfl
    refine ⟨fun _ => ?_, fun _ => q_120 hL ht hR hkk, fun _ => q_176 hL ht hR hkk, fun _ => q_220 hL ht hR hkk, fun _ => q_324 hL ht hR hkk, fun _ => q_427 hL ht hR hkk, fun _ => q_507 hL ht hR hkk, fun _ => q_575 hL ht hR hkk, fun _ => q_643 hL ht hR hkk, fun _ => q_711 hL ht hR hkk, fun _ => q_779 hL ht hR hkk, fun _ => q_792 hL ht hR hkk, fun _ => q_805 hL ht hR hkk, fun _ => q_860 hL ht hR hkk, fun _ => q_873 hL ht hR hkk, fun _ => q_929 hL ht hR hkk, fun _ => q_942 hL ht hR hkk⟩
    rintro _ rfl
    exact hkk _ _ _ _ _ _ _ _ _ _ _ _ _ _ _ _ _ _ _ _ _ _ _ _ _ _ _ _ _ _ _ _ _ _ _ _ _ _ _ _ _ _ _ _ _ _ _ _ _ _ _ _ hR
theorem pure_all (L : Nat) (xs : Nat → Int32) (hL : L ≤ 3072) : ∀ (w : Nat → Int32), (∀ j, j < 40 → w j = (-1)) → lpL L xs 513 10 0 0 0 0 0 (-1) 0 0 0 ((fun _ => 0)) ((fun _ => 0)) ((fun _ => 0)) ((fun _ => 0)) ((fun _ => 0)) ((fun _ => 0)) w ((fun _ => 0)) ((fun _ => 0)) ((fun _ => 0)) ((fun _ => 0)) ((fun _ => 0)) ((fun _ => 0)) ((fun _ => 0)) ((fun _ => 0)) ((fun _ => 0)) ((fun _ => 0)) 0 10 0 0 (-1) 0 0 0 ((fun _ => 0)) ((fun _ => 0)) ((fun _ => 0)) ((fun _ => 0)) ((fun _ => 0)) ((fun _ => 0)) ((fun _ => 0)) ((fun _ => 0)) ((fun _ => 0)) ((fun _ => 0)) ((fun _ => 0)) ((fun _ => 0)) ((fun _ => 0)) ((fun _ => 0)) 0 := by
  intro w hw
  have hP : PLN 10 0 (fun _ => 0) (fun _ => 0) (fun _ => 0) (fun _ => 0) (fun _ => 0) (fun _ => 0) w 10 0 (fun _ => 0) := ⟨⟨rfl, by omega, by omega⟩, ⟨rfl, by omega⟩, fun i hi => ⟨rfl, Nat.zero_le 4, fun _ => rfl⟩, fun s k hs => by omega, fun s k hs hk _ => ⟨rfl, hw _ (by omega)⟩⟩
  exact lp_all hL 513 0 10 0 (fun _ => 0) _ _ _ _ _ _ _ _ _ _ _ _ _ _ _ _ _ _ _ _ _ _ _ _ _ _ _ _ _ _ _ _ _ _ _ _ _ _ _ _ _ _ _ _ _ _ _ _ _ (by omega) (by omega) (RR_new hP (fun s k hs => by omega))
