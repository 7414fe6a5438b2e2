theorem fin1 {r61 r53 r59 : Int32} {a : Int64} {A B C : Prop} (h : r61 = r53) (hz : r59 = 0 → a = 0) (ho : ¬ r59 = 0 → a = 1) (hA : A) (hB : B) (hC : C) : ((r61 = r53 → ((¬ r53 = 0 → A) ∧ (r53 = 0 → (vp_in 0 1 ∧ ((r59 = 0 → (((lg_cmp a 0) = 0 → B) ∧ (¬ ((lg_cmp a 0) = 0) → False))) ∧ (¬ (r59 = 0) → (((lg_cmp a 1) = 0 → C) ∧ (¬ ((lg_cmp a 1) = 0) → False)))))))) ∧ (¬ (r61 = r53) → False)) :=
  ⟨fun _ => ⟨fun _ => hA, fun _ => ⟨v01, fun h2 => ⟨fun _ => hB, fun h3 => h3 ((lg_0 _ _).mpr (hz h2))⟩, fun h2 => ⟨fun _ => hC, fun h3 => h3 ((lg_0 _ _).mpr (ho h2))⟩⟩⟩, fun h2 => h2 h⟩
theorem fin2 {r61 r53 : Int32} {A B : Prop} (h : r61 = r53) (h0 : ¬ r53 = 0) (hA : A) : ((r61 = r53 → ((¬ r53 = 0 → A) ∧ (r53 = 0 → B))) ∧ (¬ (r61 = r53) → False)) :=
  ⟨fun _ => ⟨fun _ => hA, fun h2 => absurd h2 h0⟩, fun h2 => h2 h⟩
theorem PLN_ms {pg ps : Int32} {bx xl xr yl yh ms wt : Nat → Int32} {d n : Nat} {c : Nat → Nat} (hP : PLN pg ps bx xl xr yl yh ms wt d n c) {s k : Nat} (hs : s < n) (hk : k < c s) (b : Bool) : PLN pg ps bx xl xr yl yh (upd ms (4 * s + k) (z1 b)) wt d n c := by
  obtain ⟨hd, ⟨hp1, hn⟩, hb, hu, hv⟩ := hP
  have hc4 := (hb s (by omega)).2.1
  refine ⟨hd, ⟨hp1, hn⟩, hb, fun s' k' hs' hk' => ?_, fun s' k' hs' hk' hck => ?_⟩
  · obtain ⟨a1, a2, a3⟩ := hu s' k' hs' hk'
    refine ⟨a1, ?_, a3⟩
    by_cases e : 4 * s' + k' = 4 * s + k
    · rw [e, u_s]; cases b
      · exact Or.inl rfl
      · exact Or.inr rfl
    · rw [u_n e]; exact a2
  · have hne : 4 * s' + k' ≠ 4 * s + k := by
      intro h
      have e1 : s' = s := by omega
      subst e1
      omega
    rw [u_n hne]
    exact hv s' k' hs' hk' hck
theorem PLN_wt {pg ps : Int32} {bx xl xr yl yh ms wt : Nat → Int32} {d n : Nat} {c : Nat → Nat} (hP : PLN pg ps bx xl xr yl yh ms wt d n c) {s k : Nat} (hs : s < n) (hk : k < c s) {v : Int32} (hv0 : v = -1 ∨ ∃ x, x < 4 ∧ v = nI x) : PLN pg ps bx xl xr yl yh ms (upd wt (4 * s + k) v) d n c := by
  obtain ⟨hd, ⟨hp1, hn⟩, hb, hu, hv⟩ := hP
  have hc4 := (hb s (by omega)).2.1
  refine ⟨hd, ⟨hp1, hn⟩, hb, fun s' k' hs' hk' => ?_, fun s' k' hs' hk' hck => ?_⟩
  · obtain ⟨a1, a2, a3⟩ := hu s' k' hs' hk'
    refine ⟨a1, a2, ?_⟩
    by_cases e : 4 * s' + k' = 4 * s + k
    · rw [e, u_s]; exact hv0
    · rw [u_n e]; exact a3
  · have hne : 4 * s' + k' ≠ 4 * s + k := by
      intro h
      have e1 : s' = s := by omega
      subst e1
      omega
    rw [u_n hne]
    exact hv s' k' hs' hk' hck
theorem s_isColour {v : Int32} {K : Int32 → Prop} (h1 : ∀ x, x < 4 → v = nI x → K 1) (h0 : ¬ (0 ≤ v.toInt ∧ v.toInt ≤ 3) → K 0) : wX4_isColour v K := by
  have e1 : (0 : Int32).toInt = 0 := rfl
  have e2 : (4 : Int32).toInt = 4 := rfl
  unfold wX4_isColour
  rw [i_lt, i_le, e1, e2]
  refine ⟨fun h => h0 (by omega), fun h => ⟨fun h2 => h0 (by omega), fun h2 => ?_⟩⟩
  obtain ⟨x, hx, ex, _⟩ := int_nat (n := 3) (x := v) (by omega) (by omega) (by omega)
  exact h1 x (by omega) ex
section CS
variable {L t : Nat} {xs : Nat → Int32} {d n : Nat} {c : Nat → Nat} {cpg : Int32} {cps : Int32} {cnf : Int32} {cnp : Int32} {cnq : Int32} {cns : Int32} {cpo : Int32} {cpt : Int32} {crf : Int32} {crl : Int32} {cbx : Nat → Int32} {cxl : Nat → Int32} {cxr : Nat → Int32} {cyl : Nat → Int32} {cyh : Nat → Int32} {cms : Nat → Int32} {cwt : Nat → Int32} {cpf : Nat → Int32} {cnr : Nat → Int64} {csl : Nat → Int32} {ccl : Nat → Int32} {chu : Nat → Int32} {cuu : Nat → Int32} {cpd : Nat → Int64} {cro : Nat → Int32} {crc : Nat → Int64} {ou : Nat → Int64} {mkc : Int32} {mkd : Int32} {mkn : Int32} {mkp : Int32} {mka : Int32} {mkt : Int32} {mku : Int32} {mkr : Int32} {mcn : Nat → Int32} {mxs : Nat → Int32} {mys : Nat → Int32} {mx2 : Nat → Int32} {my2 : Nat → Int32} {mmy : Nat → Int32} {mtl : Nat → Int32} {mpo : Nat → Int32} {mso : Nat → Int32} {mst : Nat → Int32} {mnr : Nat → Int64} {mco : Nat → Int32} {mrg : Nat → Int32} {mre : Nat → Int64} {k : (Int32) → (Int32) → (Int32) → (Int32) → (Int32) → (Int32) → (Int32) → (Int32) → (Int32) → (Int32) → (Nat → Int32) → (Nat → Int32) → (Nat → Int32) → (Nat → Int32) → (Nat → Int32) → (Nat → Int32) → (Nat → Int32) → (Nat → Int32) → (Nat → Int64) → (Nat → Int32) → (Nat → Int32) → (Nat → Int32) → (Nat → Int32) → (Nat → Int64) → (Nat → Int32) → (Nat → Int64) → (Nat → Int64) → (Int32) → (Int32) → (Int32) → (Int32) → (Int32) → (Int32) → (Int32) → (Int32) → (Nat → Int32) → (Nat → Int32) → (Nat → Int32) → (Nat → Int32) → (Nat → Int32) → (Nat → Int32) → (Nat → Int32) → (Nat → Int32) → (Nat → Int32) → (Nat → Int32) → (Nat → Int64) → (Nat → Int32) → (Nat → Int32) → (Nat → Int64) → Int32 → Prop}
theorem q_324 (hL : L ≤ 3072) (ht : t + 6 ≤ L) (hR : RRx d n c cpg cps cnf cnp cnq cns cpo cpt crf crl cbx cxl cxr cyl cyh cms cwt cpf cnr csl ccl chu cuu cro mkd mkn mka mkt mku mcn mxs mys mx2 my2 mmy mtl mco) (hk : HK k (nI t + 6)) : cs_324 L xs cpg cps cnf cnp cnq cns cpo cpt crf crl cbx cxl cxr cyl cyh cms cwt cpf cnr csl ccl chu cuu cpd cro crc ou mkc mkd mkn mkp mka mkt mku mkr mcn mxs mys mx2 my2 mmy mtl mpo mso mst mnr mco mrg mre (nI t) k := by
  have hR0 := hR
  obtain ⟨hP, ⟨rfl, rfl, rfl, rfl, rfl, rfl, rfl, rfl⟩, htl, hnf, hnet, ⟨rfl, rfl⟩, hpo, hcol, hrf, hring⟩ := hR
  have hP0 := hP
  obtain ⟨hd, ⟨rfl, hn⟩, hb, hu, hv⟩ := hP
  unfold cs_324 wL_stitch
  generalize xs (nI t + 1).toNatClampNeg = x1
  generalize xs (nI t + 2).toNatClampNeg = x2
  generalize xs (nI t + 3).toNatClampNeg = x3
  have w1 : vp_in (nI t + 1) L := vin (i := 1) ht hL (by omega)
  have w2 : vp_in (nI t + 2) L := vin (i := 2) ht hL (by omega)
  have w3 : vp_in (nI t + 3) L := vin (i := 3) ht hL (by omega)
  have mno : (∀ s k, s < n → k < c s → x1 = nI s → x2 = nI k → False) → ∀ v3 K, K 0 (1, cpo, cpt, cms) → wX5_stitch (nI n) cbx mkc cpo cpt cms x1 x2 v3 K := by
    intro hno v3 K hK
    unfold wX5_stitch bkX5_stitch_15
    exact s_isBox0 hn hb hno ⟨fun _ => ⟨fun h => absurd h (by decide), fun _ => hK⟩, fun h => absurd rfl h⟩
  have nar : ∀ s k, s < n → k < c s → narrow .boolean (.int (cms (4 * s + k))) = .int (cms (4 * s + k)) := by
    intro s k hs hk2
    rcases (hu s k hs hk2).2.1 with e | e <;> rw [e] <;> decide
  have mok : ∀ s k, s < n → k < c s → ∀ b K, K (cms (4 * s + k)) (0, -1, 0, upd cms (4 * s + k) (z1 b)) → wX5_stitch (nI n) cbx mkc cpo cpt cms (nI s) (nI k) (z1 b) K := by
    intro s k hs hk2 b K hK
    have hc4 := (hb s (by omega)).2.1
    have hbv : vp_in (nI (4 * s + k)) 40 := vp_in_nI (by omega) (by omega)
    unfold wX5_stitch bkX5_stitch_15 wX5_forget
    refine s_isBox1 hn hb hs hk2 ⟨fun h => absurd h ten, fun _ => ⟨fun _ => ?_, fun h => absurd (by decide) h⟩⟩
    rw [slotJ, nI_clamp (by omega), z1_vp]
    refine ⟨hbv, ?_⟩
    rintro _ rfl
    refine ⟨hbv, ?_⟩
    rintro _ rfl
    exact ⟨nar s k hs hk2, hK⟩
  have cst : ∀ b K KX, (∀ s k, s < n → k < c s → x1 = nI s → x2 = nI k → K (cms (4 * s + k)) (0, -1, 0, 0, upd cms (4 * s + k) (z1 b))) → ((∀ s k, s < n → k < c s → x1 = nI s → x2 = nI k → False) → KX "java/lang/IndexOutOfBoundsException" (cnf, cpo, cpt, crf, cms)) → wX4_stitch (nI n) cbx cnf cpo cpt crf cms x1 x2 (z1 b) K KX := by
    intro b K KX h1 h0
    unfold wX4_stitch wX4_forgetFindings wX1_clear
    refine s_needSlot hn hb (fun s k hs hk2 e1 e2 => ?_) h0
    have hc4 := (hb s (by omega)).2.1
    have hbv : vp_in (nI (4 * s + k)) 40 := vp_in_nI (by omega) (by omega)
    rw [nI_clamp (by omega), z1_vp]
    refine ⟨hbv, ?_⟩
    rintro _ rfl
    refine ⟨hbv, ?_⟩
    rintro _ rfl
    exact ⟨nar s k hs hk2, h1 s k hs hk2 e1 e2⟩
  refine ⟨w1, w2, w3, fun h3 => cst false _ _ (fun s k hs hk2 e1 e2 => ?_) (fun hno => ⟨rfl, w1, w2, w3, fun _ => mno hno _ _ ?_, fun h => absurd h3 h⟩), fun h3 => cst true _ _ (fun s k hs hk2 e1 e2 => ?_) (fun hno => ⟨rfl, w1, w2, w3, fun h => absurd h h3, fun _ => mno hno _ _ ?_⟩)⟩
  · subst e1
    subst e2
    have hP2 := PLN_ms hP0 hs hk2 false
    refine ⟨fun hr => ⟨v01, ?_⟩, fun hr => ⟨v01, ?_⟩⟩
    · rintro _ rfl
      refine ⟨w1, w2, w3, fun _ => mok s k hs hk2 false _ ?_, fun h => absurd h3 h⟩
      exact fin1 rfl (fun _ => uo (f := ou) (x := 0)) (fun h => absurd hr h) (by rintro _ rfl; apply hk; exact RR_new hP2 htl) (by rintro _ rfl; apply hk; exact RR_new hP2 htl) (by rintro _ rfl; apply hk; exact RR_new hP2 htl)
    · rintro _ rfl
      refine ⟨w1, w2, w3, fun _ => mok s k hs hk2 false _ ?_, fun h => absurd h3 h⟩
      exact fin1 rfl (fun h => absurd h hr) (fun _ => uo (f := ou) (x := 1)) (by rintro _ rfl; apply hk; exact RR_new hP2 htl) (by rintro _ rfl; apply hk; exact RR_new hP2 htl) (by rintro _ rfl; apply hk; exact RR_new hP2 htl)
  · exact fin2 rfl ten (by rintro _ rfl; apply hk; exact hR0)
  · subst e1
    subst e2
    have hP2 := PLN_ms hP0 hs hk2 true
    refine ⟨fun hr => ⟨v01, ?_⟩, fun hr => ⟨v01, ?_⟩⟩
    · rintro _ rfl
      refine ⟨w1, w2, w3, fun h => absurd h h3, fun _ => mok s k hs hk2 true _ ?_⟩
      exact fin1 rfl (fun _ => uo (f := ou) (x := 0)) (fun h => absurd hr h) (by rintro _ rfl; apply hk; exact RR_new hP2 htl) (by rintro _ rfl; apply hk; exact RR_new hP2 htl) (by rintro _ rfl; apply hk; exact RR_new hP2 htl)
    · rintro _ rfl
      refine ⟨w1, w2, w3, fun h => absurd h h3, fun _ => mok s k hs hk2 true _ ?_⟩
      exact fin1 rfl (fun h => absurd h hr) (fun _ => uo (f := ou) (x := 1)) (by rintro _ rfl; apply hk; exact RR_new hP2 htl) (by rintro _ rfl; apply hk; exact RR_new hP2 htl) (by rintro _ rfl; apply hk; exact RR_new hP2 htl)
  · exact fin2 rfl ten (by rintro _ rfl; apply hk; exact hR0)
end CS
