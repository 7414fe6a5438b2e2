def cs_120 (L : Nat) (xs : Nat → Int32) (cpg : Int32) (cps : Int32) (cnf : Int32) (cnp : Int32) (cnq : Int32) (cns : Int32) (cpo : Int32) (cpt : Int32) (crf : Int32) (crl : Int32) (cbx : (Nat → Int32)) (cxl : (Nat → Int32)) (cxr : (Nat → Int32)) (cyl : (Nat → Int32)) (cyh : (Nat → Int32)) (cms : (Nat → Int32)) (cwt : (Nat → Int32)) (cpf : (Nat → Int32)) (cnr : (Nat → Int64)) (csl : (Nat → Int32)) (ccl : (Nat → Int32)) (chu : (Nat → Int32)) (cuu : (Nat → Int32)) (cpd : (Nat → Int64)) (cro : (Nat → Int32)) (crc : (Nat → Int64)) (ou : (Nat → Int64)) (mkc : Int32) (mkd : Int32) (mkn : Int32) (mkp : Int32) (mka : Int32) (mkt : Int32) (mku : Int32) (mkr : Int32) (mcn : (Nat → Int32)) (mxs : (Nat → Int32)) (mys : (Nat → Int32)) (mx2 : (Nat → Int32)) (my2 : (Nat → Int32)) (mmy : (Nat → Int32)) (mtl : (Nat → Int32)) (mpo : (Nat → Int32)) (mso : (Nat → Int32)) (mst : (Nat → Int32)) (mnr : (Nat → Int64)) (mco : (Nat → Int32)) (mrg : (Nat → Int32)) (mre : (Nat → Int64)) (v4 : Int32) (k : Int32 → Int32 → Int32 → Int32 → Int32 → Int32 → Int32 → Int32 → Int32 → Int32 → (Nat → Int32) → (Nat → Int32) → (Nat → Int32) → (Nat → Int32) → (Nat → Int32) → (Nat → Int32) → (Nat → Int32) → (Nat → Int32) → (Nat → Int64) → (Nat → Int32) → (Nat → Int32) → (Nat → Int32) → (Nat → Int32) → (Nat → Int64) → (Nat → Int32) → (Nat → Int64) → (Nat → Int64) → Int32 → Int32 → Int32 → Int32 → Int32 → Int32 → Int32 → Int32 → (Nat → Int32) → (Nat → Int32) → (Nat → Int32) → (Nat → Int32) → (Nat → Int32) → (Nat → Int32) → (Nat → Int32) → (Nat → Int32) → (Nat → Int32) → (Nat → Int32) → (Nat → Int64) → (Nat → Int32) → (Nat → Int32) → (Nat → Int64) → Int32 → Prop) : Prop := (vp_in ((v4 + 1)) L ∧ (wL_distance cpg cnf cpo cpt crf ou ((xs (v4 + 1).toNatClampNeg)) (fun (r2 : Int32) (u3 : Int32 × Int32 × Int32 × Int32 × Int32 × (Nat → Int64)) => (vp_in ((v4 + 1)) L ∧ (wX5_distance mkc mkd mka mkt ((xs (v4 + 1).toNatClampNeg)) (fun (r5 : Int32) (u6 : Int32 × Int32 × Int32 × Int32) => (wX5_thrown u6.1  (fun (r7 : Int32) => ((r7 = r2 → ((¬ r2 = 0 → (∀ i11 : Int32, i11 = v4 + 6 → k u3.1 cps u3.2.1 cnp cnq cns u3.2.2.1 u3.2.2.2.1 u3.2.2.2.2.1 crl cbx cxl cxr cyl cyh cms cwt cpf cnr csl ccl chu cuu cpd cro crc u3.2.2.2.2.2 u6.1 u6.2.1 mkn mkp u6.2.2.1 u6.2.2.2 mku mkr mcn mxs mys mx2 my2 mmy mtl mpo mso mst mnr mco mrg mre i11)) ∧ (r2 = 0 → (vp_in 0 1 ∧ (((lg_cmp ((u3.2.2.2.2.2 (0 : Int32).toNatClampNeg)) r5.toInt64) = 0 → (∀ i14 : Int32, i14 = v4 + 6 → k u3.1 cps u3.2.1 cnp cnq cns u3.2.2.1 u3.2.2.2.1 u3.2.2.2.2.1 crl cbx cxl cxr cyl cyh cms cwt cpf cnr csl ccl chu cuu cpd cro crc u3.2.2.2.2.2 u6.1 u6.2.1 mkn mkp u6.2.2.1 u6.2.2.2 mku mkr mcn mxs mys mx2 my2 mmy mtl mpo mso mst mnr mco mrg mre i14)) ∧ (¬ ((lg_cmp ((u3.2.2.2.2.2 (0 : Int32).toNatClampNeg)) r5.toInt64) = 0) → False)))))) ∧ (¬ (r7 = r2) → False))))))))))
set_option maxHeartbeats 4000000 in
set_option maxRecDepth 100000 in
theorem mcs_120 {p : Program} {l : Launch} {e : Env} {s : State} {m : MethodId} {below : List Frame} {meth : Method} {c : Code} {b L : Nat} {xs : Nat → Int32} {dC : Nat → ClassId} {dI : Nat → Nat → Nat} {cI cJ cZ : ClassId} {q : Nat → Nat} (hlt : l.stackTraces = false) (C : LX p s m meth c b L xs dC dI cI cJ cZ q) (cells slots : Nat) (hc : cells + 2 ≤ 1075) (hs : slots + 12 ≤ 9480) {k : Int32 → Int32 → Int32 → Int32 → Int32 → Int32 → Int32 → Int32 → Int32 → Int32 → (Nat → Int32) → (Nat → Int32) → (Nat → Int32) → (Nat → Int32) → (Nat → Int32) → (Nat → Int32) → (Nat → Int32) → (Nat → Int32) → (Nat → Int64) → (Nat → Int32) → (Nat → Int32) → (Nat → Int32) → (Nat → Int32) → (Nat → Int64) → (Nat → Int32) → (Nat → Int64) → (Nat → Int64) → Int32 → Int32 → Int32 → Int32 → Int32 → Int32 → Int32 → Int32 → (Nat → Int32) → (Nat → Int32) → (Nat → Int32) → (Nat → Int32) → (Nat → Int32) → (Nat → Int32) → (Nat → Int32) → (Nat → Int32) → (Nat → Int32) → (Nat → Int32) → (Nat → Int64) → (Nat → Int32) → (Nat → Int32) → (Nat → Int64) → Int32 → Prop} (hk : ∀ (cpg : Int32) (cps : Int32) (cnf : Int32) (cnp : Int32) (cnq : Int32) (cns : Int32) (cpo : Int32) (cpt : Int32) (crf : Int32) (crl : Int32) (cbx : (Nat → Int32)) (cxl : (Nat → Int32)) (cxr : (Nat → Int32)) (cyl : (Nat → Int32)) (cyh : (Nat → Int32)) (cms : (Nat → Int32)) (cwt : (Nat → Int32)) (cpf : (Nat → Int32)) (cnr : (Nat → Int64)) (csl : (Nat → Int32)) (ccl : (Nat → Int32)) (chu : (Nat → Int32)) (cuu : (Nat → Int32)) (cpd : (Nat → Int64)) (cro : (Nat → Int32)) (crc : (Nat → Int64)) (ou : (Nat → Int64)) (mkc : Int32) (mkd : Int32) (mkn : Int32) (mkp : Int32) (mka : Int32) (mkt : Int32) (mku : Int32) (mkr : Int32) (mcn : (Nat → Int32)) (mxs : (Nat → Int32)) (mys : (Nat → Int32)) (mx2 : (Nat → Int32)) (my2 : (Nat → Int32)) (mmy : (Nat → Int32)) (mtl : (Nat → Int32)) (mpo : (Nat → Int32)) (mso : (Nat → Int32)) (mst : (Nat → Int32)) (mnr : (Nat → Int64)) (mco : (Nat → Int32)) (mrg : (Nat → Int32)) (mre : (Nat → Int64)) (v4 : Int32) (ls : Array Slot) (H : Heap) (locs : List Loc), k cpg cps cnf cnp cnq cns cpo cpt crf crl cbx cxl cxr cyl cyh cms cwt cpf cnr csl ccl chu cuu cpd cro crc ou mkc mkd mkn mkp mka mkt mku mkr mcn mxs mys mx2 my2 mmy mtl mpo mso mst mnr mco mrg mre v4 → lv_has ls 8 [(0, .ref b), (1, .ref (q 0)), (2, .ref (q 22)), (3, .ref (q 21)), (4, .int v4)] → va_P (dC, dI) vwCl (WL q cI cJ cZ cpg cps cnf cnp cnq cns cpo cpt crf crl cbx cxl cxr cyl cyh cms cwt cpf cnr csl ccl chu cuu cpd cro crc ou) H → va_P (dC, dI) vwCl (WM (fun z => q (22 + z)) cI cJ cZ mkc mkd mkn mkp mka mkt mku mkr mcn mxs mys mx2 my2 mmy mtl mpo mso mst mnr mco mrg mre) H → va_S (fun x => s.heap.size ≤ x) s.heap H locs → W p l e room_1 s m #[Value.ref b] below meth c H locs (cells + 2) (slots + 12) (lw_Z below #[Value.ref b] s) (F0 m 23 ls [])) : ∀ (cpg : Int32) (cps : Int32) (cnf : Int32) (cnp : Int32) (cnq : Int32) (cns : Int32) (cpo : Int32) (cpt : Int32) (crf : Int32) (crl : Int32) (cbx : (Nat → Int32)) (cxl : (Nat → Int32)) (cxr : (Nat → Int32)) (cyl : (Nat → Int32)) (cyh : (Nat → Int32)) (cms : (Nat → Int32)) (cwt : (Nat → Int32)) (cpf : (Nat → Int32)) (cnr : (Nat → Int64)) (csl : (Nat → Int32)) (ccl : (Nat → Int32)) (chu : (Nat → Int32)) (cuu : (Nat → Int32)) (cpd : (Nat → Int64)) (cro : (Nat → Int32)) (crc : (Nat → Int64)) (ou : (Nat → Int64)) (mkc : Int32) (mkd : Int32) (mkn : Int32) (mkp : Int32) (mka : Int32) (mkt : Int32) (mku : Int32) (mkr : Int32) (mcn : (Nat → Int32)) (mxs : (Nat → Int32)) (mys : (Nat → Int32)) (mx2 : (Nat → Int32)) (my2 : (Nat → Int32)) (mmy : (Nat → Int32)) (mtl : (Nat → Int32)) (mpo : (Nat → Int32)) (mso : (Nat → Int32)) (mst : (Nat → Int32)) (mnr : (Nat → Int64)) (mco : (Nat → Int32)) (mrg : (Nat → Int32)) (mre : (Nat → Int64)) (v4 : Int32) (ls : Array Slot) (H : Heap) (locs : List Loc), cs_120 L xs cpg cps cnf cnp cnq cns cpo cpt crf crl cbx cxl cxr cyl cyh cms cwt cpf cnr csl ccl chu cuu cpd cro crc ou mkc mkd mkn mkp mka mkt mku mkr mcn mxs mys mx2 my2 mmy mtl mpo mso mst mnr mco mrg mre v4 k → lv_has ls 8 [(0, .ref b), (1, .ref (q 0)), (2, .ref (q 22)), (3, .ref (q 21)), (4, .int v4)] → va_P (dC, dI) vwCl (WL q cI cJ cZ cpg cps cnf cnp cnq cns cpo cpt crf crl cbx cxl cxr cyl cyh cms cwt cpf cnr csl ccl chu cuu cpd cro crc ou) H → va_P (dC, dI) vwCl (WM (fun z => q (22 + z)) cI cJ cZ mkc mkd mkn mkp mka mkt mku mkr mcn mxs mys mx2 my2 mmy mtl mpo mso mst mnr mco mrg mre) H → va_S (fun x => s.heap.size ≤ x) s.heap H locs → W p l e room_1 s m #[Value.ref b] below meth c H locs cells slots (lw_Z below #[Value.ref b] s) (F0 m 120 ls []) := by
  obtain ⟨hx, hb, hml, hown, hts, hX, hbl, hK, ha, hq, hN, hE, hC⟩ := id C
  have hbA : ¬ (fun q : Nat => s.heap.size ≤ q) b := Nat.not_le.mpr hbl
  intro cpg cps cnf cnp cnq cns cpo cpt crf crl cbx cxl cxr cyl cyh cms cwt cpf cnr csl ccl chu cuu cpd cro crc ou mkc mkd mkn mkp mka mkt mku mkr mcn mxs mys mx2 my2 mmy mtl mpo mso mst mnr mco mrg mre v4 ls H locs h hl hP hM hS
  unfold cs_120 at h
  refine lv_aload_n hx hb dL_law_120 rfl (lv_at hl 1 rfl) ?_
  refine lv_aload_n hx hb dL_law_121 rfl (lv_at hl 0 rfl) ?_
  refine lv_iload hx hb dL_law_122 (lv_at hl 4 rfl) ?_
  refine lv_iconst (v := 1) hx hb dL_law_124 (by decide) ?_
  refine lv_iadd hx hb dL_law_125 ?_
  obtain ⟨b1, h⟩ := h
  refine va_sld hx hb hX hbl hbA hS b1 dL_law_126 ?_
  refine lv_aload_n hx hb dL_law_127 rfl (lv_at hl 3 rfl) ?_
  refine ga_i (vx_runSX (As := [.ref (q 0), .int (xs (v4 + 1).toNatClampNeg), .ref (q 21)]) (rest := []) ⟨hx, hb, hml, hown, hts⟩ (ktL_distance l hlt dC dI q cI cJ cZ H.size cpg cps cnf cnp cnq cns cpo cpt crf crl cbx cxl cxr cyl cyh cms cwt cpf cnr csl ccl chu cuu cpd cro crc ou ((xs (v4 + 1).toNatClampNeg)) h) (vx_cwSW 3 hts gL_law_L_distance rfl rfl rfl (by decide +kernel) ⟨Nat.le_of_ble_eq_true rfl, Nat.le_of_ble_eq_true rfl⟩) ⟨wl.blind, fun U hU hW => ⟨rfl, ⟨wd.at hP hK (fun i j hi hj => ha i j (by omega) (by omega)) hN hU hW, hE.at hS hU hW (fun x hx9 => AF_AL (i0 := 0) (n := 22) hq (by omega) hS.1 x (by simpa using hx9))⟩, hC.moved hW.alike⟩⟩ rfl rfl hl.1 rfl (lv_room (Nat.le_of_ble_eq_true rfl)) dL_law_128 ⟨show _ ≤ 1075 by omega, show _ ≤ 9480 by omega⟩) hS ha hq rfl hM (fun r2 u3 H locs h hP hM hS => ?_)
  have hP : va_P (dC, dI) vwCl (WL q cI cJ cZ u3.1 cps u3.2.1 cnp cnq cns u3.2.2.1 u3.2.2.2.1 u3.2.2.2.2.1 crl cbx cxl cxr cyl cyh cms cwt cpf cnr csl ccl chu cuu cpd cro crc u3.2.2.2.2.2) H := hP
  have hM : va_P (dC, dI) vwCl (WM (fun z => q (22 + z)) cI cJ cZ mkc mkd mkn mkp mka mkt mku mkr mcn mxs mys mx2 my2 mmy mtl mpo mso mst mnr mco mrg mre) H := hM
  refine lv_istore (lv' := [(5, .int r2), (0, .ref b), (1, .ref (q 0)), (2, .ref (q 22)), (3, .ref (q 21)), (4, .int v4)]) hx hb dL_law_131 hl (by decide) rfl (fun ls hl => ?_)
  refine lv_aload_n hx hb dL_law_133 rfl (lv_at hl 3 rfl) ?_
  refine lv_aload_n hx hb dL_law_134 rfl (lv_at hl 1 rfl) ?_
  refine lv_iload hx hb dL_law_135 (lv_at hl 5 rfl) ?_
  refine lv_iconst (v := 1) hx hb dL_law_137 (by decide) ?_
  refine lv_iadd hx hb dL_law_138 ?_
  obtain ⟨b4, h⟩ := h
  refine va_sld hx hb hX hbl hbA hS b4 dL_law_139 ?_
  refine gc_i (va_runV (As := [.int (xs (v4 + 1).toNatClampNeg)]) (rest := []) ⟨hx, hb, hml, hown, hts⟩ (ktX5_distance l dC dI (fun z => q (22 + z)) cI cJ cZ H.size mkc mkd mkn mkp mka mkt mku mkr mcn mxs mys mx2 my2 mmy mtl mpo mso mst mnr mco mrg mre ((xs (v4 + 1).toNatClampNeg)) h) (cwV 1 hts gL_law_X5_distance rfl rfl rfl (by decide +kernel) ⟨Nat.le_of_ble_eq_true rfl, Nat.le_of_ble_eq_true rfl⟩) ⟨wd.blind, va_recv hK hM (ci := 5) (q0 := 0) rfl rfl, fun U hU hW => ⟨rfl, wd.at hM hK (fun i j hi hj e9 => Nat.add_left_cancel (ha (22 + i) (22 + j) (by omega) (by omega) e9)) hN hU hW⟩⟩ rfl rfl hl.1 rfl (lv_room (Nat.le_of_ble_eq_true rfl)) dL_law_140 ⟨show _ ≤ 1075 by omega, show _ ≤ 9480 by omega⟩) hS ha hq rfl hP (fun r5 u6 H locs h hP hM hS => ?_)
  have hP : va_P (dC, dI) vwCl (WL q cI cJ cZ u3.1 cps u3.2.1 cnp cnq cns u3.2.2.1 u3.2.2.2.1 u3.2.2.2.2.1 crl cbx cxl cxr cyl cyh cms cwt cpf cnr csl ccl chu cuu cpd cro crc u3.2.2.2.2.2) H := hP
  have hM : va_P (dC, dI) vwCl (WM (fun z => q (22 + z)) cI cJ cZ u6.1 u6.2.1 mkn mkp u6.2.2.1 u6.2.2.2 mku mkr mcn mxs mys mx2 my2 mmy mtl mpo mso mst mnr mco mrg mre) H := hM
  refine lv_istore (lv' := [(6, .int r5), (5, .int r2), (0, .ref b), (1, .ref (q 0)), (2, .ref (q 22)), (3, .ref (q 21)), (4, .int v4)]) hx hb dL_law_143 hl (by decide) rfl (fun ls hl => ?_)
  refine lv_aload_n hx hb dL_law_145 rfl (lv_at hl 4 rfl) ?_
  refine gc_i (va_runV (As := []) (rest := []) ⟨hx, hb, hml, hown, hts⟩ (ktX5_thrown l dC dI (fun z => q (22 + z)) cI cJ cZ H.size u6.1 u6.2.1 mkn mkp u6.2.2.1 u6.2.2.2 mku mkr mcn mxs mys mx2 my2 mmy mtl mpo mso mst mnr mco mrg mre  h) (cwV 0 hts gL_law_X5_thrown rfl rfl rfl (by decide +kernel) ⟨Nat.le_of_ble_eq_true rfl, Nat.le_of_ble_eq_true rfl⟩) ⟨wd.blind, va_recv hK hM (ci := 5) (q0 := 0) rfl rfl, fun U hU hW => ⟨rfl, wd.at hM hK (fun i j hi hj e9 => Nat.add_left_cancel (ha (22 + i) (22 + j) (by omega) (by omega) e9)) hN hU hW⟩⟩ rfl rfl hl.1 rfl (lv_room (Nat.le_of_ble_eq_true rfl)) dL_law_146 ⟨show _ ≤ 1075 by omega, show _ ≤ 9480 by omega⟩) hS ha hq rfl hP (fun r7 _ H locs h hP hM hS => ?_)
  have hP : va_P (dC, dI) vwCl (WL q cI cJ cZ u3.1 cps u3.2.1 cnp cnq cns u3.2.2.1 u3.2.2.2.1 u3.2.2.2.2.1 crl cbx cxl cxr cyl cyh cms cwt cpf cnr csl ccl chu cuu cpd cro crc u3.2.2.2.2.2) H := hP
  have hM : va_P (dC, dI) vwCl (WM (fun z => q (22 + z)) cI cJ cZ u6.1 u6.2.1 mkn mkp u6.2.2.1 u6.2.2.2 mku mkr mcn mxs mys mx2 my2 mmy mtl mpo mso mst mnr mco mrg mre) H := hM
  refine lv_iload hx hb dL_law_149 (lv_at hl 1 rfl) ?_
  refine lv_icmp_eq (tgt := 156) hx hb dL_law_151 (by decide) (fun c9 => ?_) (fun c9 => ?_)
  · have h := h.1 c9
    refine lv_iload hx hb dL_law_156 (lv_at hl 1 rfl) ?_
    refine lv_if_ne (tgt := 173) hx hb dL_law_158 (by decide) (fun c10 => ?_) (fun c10 => ?_)
    · have h := h.1 c10
      refine lv_goto (tgt := 998) hx hb dL_law_173 (by decide) ?_
      obtain ⟨i11, ei11⟩ : ∃ y : Int32, y = v4 + 6 := ⟨_, rfl⟩
      refine lv_iinc (v := i11) (lv' := [(4, .int i11), (6, .int r5), (5, .int r2), (0, .ref b), (1, .ref (q 0)), (2, .ref (q 22)), (3, .ref (q 21))]) hx hb dL_law_998 hl (k := 6) rfl (by rw [ei11]; rfl) (by decide) rfl (fun ls hl => ?_)
      have h := h i11 ei11
      refine lv_goto (tgt := 23) hx hb dL_law_1001 (by decide) ?_
      refine W.widen (k := cells + 2) (n := slots + 12) (by omega) (by omega) ?_
      exact hk u3.1 cps u3.2.1 cnp cnq cns u3.2.2.1 u3.2.2.2.1 u3.2.2.2.2.1 crl cbx cxl cxr cyl cyh cms cwt cpf cnr csl ccl chu cuu cpd cro crc u3.2.2.2.2.2 u6.1 u6.2.1 mkn mkp u6.2.2.1 u6.2.2.2 mku mkr mcn mxs mys mx2 my2 mmy mtl mpo mso mst mnr mco mrg mre i11 ls H locs h (lv_sub hl [3, 4, 5, 6, 0] rfl) hP hM hS
    · have h := h.2 c10
      refine lv_aload_n hx hb dL_law_161 rfl (lv_at hl 5 rfl) ?_
      refine lv_iconst (v := 0) hx hb dL_law_162 (by decide) ?_
      obtain ⟨b12, h⟩ := h
      refine va_lald (D := (dC, dI)) hx hb hK hP 21 1 rfl rfl b12 dL_law_163 ?_
      refine lv_iload hx hb dL_law_164 (lv_at hl 0 rfl) ?_
      refine lv_i2l hx hb dL_law_166 rfl ?_
      refine W.lcmp hx hb dL_law_167 ?_
      refine lv_if_eq (tgt := 173) hx hb dL_law_168 (by decide) (fun c13 => ?_) (fun c13 => ?_)
      · have h := h.1 c13
        refine lv_goto (tgt := 998) hx hb dL_law_173 (by decide) ?_
        obtain ⟨i14, ei14⟩ : ∃ y : Int32, y = v4 + 6 := ⟨_, rfl⟩
        refine lv_iinc (v := i14) (lv' := [(4, .int i14), (6, .int r5), (5, .int r2), (0, .ref b), (1, .ref (q 0)), (2, .ref (q 22)), (3, .ref (q 21))]) hx hb dL_law_998 hl (k := 6) rfl (by rw [ei14]; rfl) (by decide) rfl (fun ls hl => ?_)
        have h := h i14 ei14
        refine lv_goto (tgt := 23) hx hb dL_law_1001 (by decide) ?_
        refine W.widen (k := cells + 2) (n := slots + 12) (by omega) (by omega) ?_
        exact hk u3.1 cps u3.2.1 cnp cnq cns u3.2.2.1 u3.2.2.2.1 u3.2.2.2.2.1 crl cbx cxl cxr cyl cyh cms cwt cpf cnr csl ccl chu cuu cpd cro crc u3.2.2.2.2.2 u6.1 u6.2.1 mkn mkp u6.2.2.1 u6.2.2.2 mku mkr mcn mxs mys mx2 my2 mmy mtl mpo mso mst mnr mco mrg mre i14 ls H locs h (lv_sub hl [3, 4, 5, 6, 0] rfl) hP hM hS
      · have h := h.2 c13
        exact (h : False).elim
  · have h := h.2 c9
    exact (h : False).elim

def cs_176 (L : Nat) (xs : Nat → Int32) (cpg : Int32) (cps : Int32) (cnf : Int32) (cnp : Int32) (cnq : Int32) (cns : Int32) (cpo : Int32) (cpt : Int32) (crf : Int32) (crl : Int32) (cbx : (Nat → Int32)) (cxl : (Nat → Int32)) (cxr : (Nat → Int32)) (cyl : (Nat → Int32)) (cyh : (Nat → Int32)) (cms : (Nat → Int32)) (cwt : (Nat → Int32)) (cpf : (Nat → Int32)) (cnr : (Nat → Int64)) (csl : (Nat → Int32)) (ccl : (Nat → Int32)) (chu : (Nat → Int32)) (cuu : (Nat → Int32)) (cpd : (Nat → Int64)) (cro : (Nat → Int32)) (crc : (Nat → Int64)) (ou : (Nat → Int64)) (mkc : Int32) (mkd : Int32) (mkn : Int32) (mkp : Int32) (mka : Int32) (mkt : Int32) (mku : Int32) (mkr : Int32) (mcn : (Nat → Int32)) (mxs : (Nat → Int32)) (mys : (Nat → Int32)) (mx2 : (Nat → Int32)) (my2 : (Nat → Int32)) (mmy : (Nat → Int32)) (mtl : (Nat → Int32)) (mpo : (Nat → Int32)) (mso : (Nat → Int32)) (mst : (Nat → Int32)) (mnr : (Nat → Int64)) (mco : (Nat → Int32)) (mrg : (Nat → Int32)) (mre : (Nat → Int64)) (v4 : Int32) (k : Int32 → Int32 → Int32 → Int32 → Int32 → Int32 → Int32 → Int32 → Int32 → Int32 → (Nat → Int32) → (Nat → Int32) → (Nat → Int32) → (Nat → Int32) → (Nat → Int32) → (Nat → Int32) → (Nat → Int32) → (Nat → Int32) → (Nat → Int64) → (Nat → Int32) → (Nat → Int32) → (Nat → Int32) → (Nat → Int32) → (Nat → Int64) → (Nat → Int32) → (Nat → Int64) → (Nat → Int64) → Int32 → Int32 → Int32 → Int32 → Int32 → Int32 → Int32 → Int32 → (Nat → Int32) → (Nat → Int32) → (Nat → Int32) → (Nat → Int32) → (Nat → Int32) → (Nat → Int32) → (Nat → Int32) → (Nat → Int32) → (Nat → Int32) → (Nat → Int32) → (Nat → Int64) → (Nat → Int32) → (Nat → Int32) → (Nat → Int64) → Int32 → Prop) : Prop := (wL_shape cps cnf cpo cpt crf ou  (fun (r15 : Int32) (u16 : Int32 × Int32 × Int32 × Int32 × Int32 × (Nat → Int64)) => (wX5_shape mkc mkn mka mkt mcn  (fun (r17 : Int32) (u18 : Int32 × Int32 × Int32 × Int32 × (Nat → Int32)) => (wX5_thrown u18.1  (fun (r19 : Int32) => ((r19 = r15 → ((¬ r15 = 0 → (∀ i23 : Int32, i23 = v4 + 6 → k cpg u16.1 u16.2.1 cnp cnq cns u16.2.2.1 u16.2.2.2.1 u16.2.2.2.2.1 crl cbx cxl cxr cyl cyh cms cwt cpf cnr csl ccl chu cuu cpd cro crc u16.2.2.2.2.2 u18.1 mkd u18.2.1 mkp u18.2.2.1 u18.2.2.2.1 mku mkr u18.2.2.2.2 mxs mys mx2 my2 mmy mtl mpo mso mst mnr mco mrg mre i23)) ∧ (r15 = 0 → (vp_in 0 1 ∧ (((lg_cmp ((u16.2.2.2.2.2 (0 : Int32).toNatClampNeg)) r17.toInt64) = 0 → (∀ i26 : Int32, i26 = v4 + 6 → k cpg u16.1 u16.2.1 cnp cnq cns u16.2.2.1 u16.2.2.2.1 u16.2.2.2.2.1 crl cbx cxl cxr cyl cyh cms cwt cpf cnr csl ccl chu cuu cpd cro crc u16.2.2.2.2.2 u18.1 mkd u18.2.1 mkp u18.2.2.1 u18.2.2.2.1 mku mkr u18.2.2.2.2 mxs mys mx2 my2 mmy mtl mpo mso mst mnr mco mrg mre i26)) ∧ (¬ ((lg_cmp ((u16.2.2.2.2.2 (0 : Int32).toNatClampNeg)) r17.toInt64) = 0) → False)))))) ∧ (¬ (r19 = r15) → False))))))))
set_option maxHeartbeats 4000000 in
set_option maxRecDepth 100000 in
theorem mcs_176 {p : Program} {l : Launch} {e : Env} {s : State} {m : MethodId} {below : List Frame} {meth : Method} {c : Code} {b L : Nat} {xs : Nat → Int32} {dC : Nat → ClassId} {dI : Nat → Nat → Nat} {cI cJ cZ : ClassId} {q : Nat → Nat} (hlt : l.stackTraces = false) (C : LX p s m meth c b L xs dC dI cI cJ cZ q) (cells slots : Nat) (hc : cells + 2 ≤ 1075) (hs : slots + 12 ≤ 9480) {k : Int32 → Int32 → Int32 → Int32 → Int32 → Int32 → Int32 → Int32 → Int32 → Int32 → (Nat → Int32) → (Nat → Int32) → (Nat → Int32) → (Nat → Int32) → (Nat → Int32) → (Nat → Int32) → (Nat → Int32) → (Nat → Int32) → (Nat → Int64) → (Nat → Int32) → (Nat → Int32) → (Nat → Int32) → (Nat → Int32) → (Nat → Int64) → (Nat → Int32) → (Nat → Int64) → (Nat → Int64) → Int32 → Int32 → Int32 → Int32 → Int32 → Int32 → Int32 → Int32 → (Nat → Int32) → (Nat → Int32) → (Nat → Int32) → (Nat → Int32) → (Nat → Int32) → (Nat → Int32) → (Nat → Int32) → (Nat → Int32) → (Nat → Int32) → (Nat → Int32) → (Nat → Int64) → (Nat → Int32) → (Nat → Int32) → (Nat → Int64) → Int32 → Prop} (hk : ∀ (cpg : Int32) (cps : Int32) (cnf : Int32) (cnp : Int32) (cnq : Int32) (cns : Int32) (cpo : Int32) (cpt : Int32) (crf : Int32) (crl : Int32) (cbx : (Nat → Int32)) (cxl : (Nat → Int32)) (cxr : (Nat → Int32)) (cyl : (Nat → Int32)) (cyh : (Nat → Int32)) (cms : (Nat → Int32)) (cwt : (Nat → Int32)) (cpf : (Nat → Int32)) (cnr : (Nat → Int64)) (csl : (Nat → Int32)) (ccl : (Nat → Int32)) (chu : (Nat → Int32)) (cuu : (Nat → Int32)) (cpd : (Nat → Int64)) (cro : (Nat → Int32)) (crc : (Nat → Int64)) (ou : (Nat → Int64)) (mkc : Int32) (mkd : Int32) (mkn : Int32) (mkp : Int32) (mka : Int32) (mkt : Int32) (mku : Int32) (mkr : Int32) (mcn : (Nat → Int32)) (mxs : (Nat → Int32)) (mys : (Nat → Int32)) (mx2 : (Nat → Int32)) (my2 : (Nat → Int32)) (mmy : (Nat → Int32)) (mtl : (Nat → Int32)) (mpo : (Nat → Int32)) (mso : (Nat → Int32)) (mst : (Nat → Int32)) (mnr : (Nat → Int64)) (mco : (Nat → Int32)) (mrg : (Nat → Int32)) (mre : (Nat → Int64)) (v4 : Int32) (ls : Array Slot) (H : Heap) (locs : List Loc), k cpg cps cnf cnp cnq cns cpo cpt crf crl cbx cxl cxr cyl cyh cms cwt cpf cnr csl ccl chu cuu cpd cro crc ou mkc mkd mkn mkp mka mkt mku mkr mcn mxs mys mx2 my2 mmy mtl mpo mso mst mnr mco mrg mre v4 → lv_has ls 8 [(0, .ref b), (1, .ref (q 0)), (2, .ref (q 22)), (3, .ref (q 21)), (4, .int v4)] → va_P (dC, dI) vwCl (WL q cI cJ cZ cpg cps cnf cnp cnq cns cpo cpt crf crl cbx cxl cxr cyl cyh cms cwt cpf cnr csl ccl chu cuu cpd cro crc ou) H → va_P (dC, dI) vwCl (WM (fun z => q (22 + z)) cI cJ cZ mkc mkd mkn mkp mka mkt mku mkr mcn mxs mys mx2 my2 mmy mtl mpo mso mst mnr mco mrg mre) H → va_S (fun x => s.heap.size ≤ x) s.heap H locs → W p l e room_1 s m #[Value.ref b] below meth c H locs (cells + 2) (slots + 12) (lw_Z below #[Value.ref b] s) (F0 m 23 ls [])) : ∀ (cpg : Int32) (cps : Int32) (cnf : Int32) (cnp : Int32) (cnq : Int32) (cns : Int32) (cpo : Int32) (cpt : Int32) (crf : Int32) (crl : Int32) (cbx : (Nat → Int32)) (cxl : (Nat → Int32)) (cxr : (Nat → Int32)) (cyl : (Nat → Int32)) (cyh : (Nat → Int32)) (cms : (Nat → Int32)) (cwt : (Nat → Int32)) (cpf : (Nat → Int32)) (cnr : (Nat → Int64)) (csl : (Nat → Int32)) (ccl : (Nat → Int32)) (chu : (Nat → Int32)) (cuu : (Nat → Int32)) (cpd : (Nat → Int64)) (cro : (Nat → Int32)) (crc : (Nat → Int64)) (ou : (Nat → Int64)) (mkc : Int32) (mkd : Int32) (mkn : Int32) (mkp : Int32) (mka : Int32) (mkt : Int32) (mku : Int32) (mkr : Int32) (mcn : (Nat → Int32)) (mxs : (Nat → Int32)) (mys : (Nat → Int32)) (mx2 : (Nat → Int32)) (my2 : (Nat → Int32)) (mmy : (Nat → Int32)) (mtl : (Nat → Int32)) (mpo : (Nat → Int32)) (mso : (Nat → Int32)) (mst : (Nat → Int32)) (mnr : (Nat → Int64)) (mco : (Nat → Int32)) (mrg : (Nat → Int32)) (mre : (Nat → Int64)) (v4 : Int32) (ls : Array Slot) (H : Heap) (locs : List Loc), cs_176 L xs cpg cps cnf cnp cnq cns cpo cpt crf crl cbx cxl cxr cyl cyh cms cwt cpf cnr csl ccl chu cuu cpd cro crc ou mkc mkd mkn mkp mka mkt mku mkr mcn mxs mys mx2 my2 mmy mtl mpo mso mst mnr mco mrg mre v4 k → lv_has ls 8 [(0, .ref b), (1, .ref (q 0)), (2, .ref (q 22)), (3, .ref (q 21)), (4, .int v4)] → va_P (dC, dI) vwCl (WL q cI cJ cZ cpg cps cnf cnp cnq cns cpo cpt crf crl cbx cxl cxr cyl cyh cms cwt cpf cnr csl ccl chu cuu cpd cro crc ou) H → va_P (dC, dI) vwCl (WM (fun z => q (22 + z)) cI cJ cZ mkc mkd mkn mkp mka mkt mku mkr mcn mxs mys mx2 my2 mmy mtl mpo mso mst mnr mco mrg mre) H → va_S (fun x => s.heap.size ≤ x) s.heap H locs → W p l e room_1 s m #[Value.ref b] below meth c H locs cells slots (lw_Z below #[Value.ref b] s) (F0 m 176 ls []) := by
  obtain ⟨hx, hb, hml, hown, hts, hX, hbl, hK, ha, hq, hN, hE, hC⟩ := id C
  have hbA : ¬ (fun q : Nat => s.heap.size ≤ q) b := Nat.not_le.mpr hbl
  intro cpg cps cnf cnp cnq cns cpo cpt crf crl cbx cxl cxr cyl cyh cms cwt cpf cnr csl ccl chu cuu cpd cro crc ou mkc mkd mkn mkp mka mkt mku mkr mcn mxs mys mx2 my2 mmy mtl mpo mso mst mnr mco mrg mre v4 ls H locs h hl hP hM hS
  unfold cs_176 at h
  refine lv_aload_n hx hb dL_law_176 rfl (lv_at hl 1 rfl) ?_
  refine lv_aload_n hx hb dL_law_177 rfl (lv_at hl 3 rfl) ?_
  refine ga_i (vx_runSX (As := [.ref (q 0), .ref (q 21)]) (rest := []) ⟨hx, hb, hml, hown, hts⟩ (ktL_shape l hlt dC dI q cI cJ cZ H.size cpg cps cnf cnp cnq cns cpo cpt crf crl cbx cxl cxr cyl cyh cms cwt cpf cnr csl ccl chu cuu cpd cro crc ou  h) (vx_cwSW 2 hts gL_law_L_shape rfl rfl rfl (by decide +kernel) ⟨Nat.le_of_ble_eq_true rfl, Nat.le_of_ble_eq_true rfl⟩) ⟨wl.blind, fun U hU hW => ⟨rfl, ⟨wd.at hP hK (fun i j hi hj => ha i j (by omega) (by omega)) hN hU hW, hE.at hS hU hW (fun x hx9 => AF_AL (i0 := 0) (n := 22) hq (by omega) hS.1 x (by simpa using hx9))⟩, hC.moved hW.alike⟩⟩ rfl rfl hl.1 rfl (lv_room (Nat.le_of_ble_eq_true rfl)) dL_law_178 ⟨show _ ≤ 1075 by omega, show _ ≤ 9480 by omega⟩) hS ha hq rfl hM (fun r15 u16 H locs h hP hM hS => ?_)
  have hP : va_P (dC, dI) vwCl (WL q cI cJ cZ cpg u16.1 u16.2.1 cnp cnq cns u16.2.2.1 u16.2.2.2.1 u16.2.2.2.2.1 crl cbx cxl cxr cyl cyh cms cwt cpf cnr csl ccl chu cuu cpd cro crc u16.2.2.2.2.2) H := hP
  have hM : va_P (dC, dI) vwCl (WM (fun z => q (22 + z)) cI cJ cZ mkc mkd mkn mkp mka mkt mku mkr mcn mxs mys mx2 my2 mmy mtl mpo mso mst mnr mco mrg mre) H := hM
  refine lv_istore (lv' := [(5, .int r15), (0, .ref b), (1, .ref (q 0)), (2, .ref (q 22)), (3, .ref (q 21)), (4, .int v4)]) hx hb dL_law_181 hl (by decide) rfl (fun ls hl => ?_)
  refine lv_aload_n hx hb dL_law_183 rfl (lv_at hl 3 rfl) ?_
  refine gc_i (va_runV (As := []) (rest := []) ⟨hx, hb, hml, hown, hts⟩ (ktX5_shape l dC dI (fun z => q (22 + z)) cI cJ cZ H.size mkc mkd mkn mkp mka mkt mku mkr mcn mxs mys mx2 my2 mmy mtl mpo mso mst mnr mco mrg mre  h) (cwV 0 hts gL_law_X5_shape rfl rfl rfl (by decide +kernel) ⟨Nat.le_of_ble_eq_true rfl, Nat.le_of_ble_eq_true rfl⟩) ⟨wd.blind, va_recv hK hM (ci := 5) (q0 := 0) rfl rfl, fun U hU hW => ⟨rfl, wd.at hM hK (fun i j hi hj e9 => Nat.add_left_cancel (ha (22 + i) (22 + j) (by omega) (by omega) e9)) hN hU hW⟩⟩ rfl rfl hl.1 rfl (lv_room (Nat.le_of_ble_eq_true rfl)) dL_law_184 ⟨show _ ≤ 1075 by omega, show _ ≤ 9480 by omega⟩) hS ha hq rfl hP (fun r17 u18 H locs h hP hM hS => ?_)
  have hP : va_P (dC, dI) vwCl (WL q cI cJ cZ cpg u16.1 u16.2.1 cnp cnq cns u16.2.2.1 u16.2.2.2.1 u16.2.2.2.2.1 crl cbx cxl cxr cyl cyh cms cwt cpf cnr csl ccl chu cuu cpd cro crc u16.2.2.2.2.2) H := hP
  have hM : va_P (dC, dI) vwCl (WM (fun z => q (22 + z)) cI cJ cZ u18.1 mkd u18.2.1 mkp u18.2.2.1 u18.2.2.2.1 mku mkr u18.2.2.2.2 mxs mys mx2 my2 mmy mtl mpo mso mst mnr mco mrg mre) H := hM
  refine lv_istore (lv' := [(6, .int r17), (5, .int r15), (0, .ref b), (1, .ref (q 0)), (2, .ref (q 22)), (3, .ref (q 21)), (4, .int v4)]) hx hb dL_law_187 hl (by decide) rfl (fun ls hl => ?_)
  refine lv_aload_n hx hb dL_law_189 rfl (lv_at hl 4 rfl) ?_
  refine gc_i (va_runV (As := []) (rest := []) ⟨hx, hb, hml, hown, hts⟩ (ktX5_thrown l dC dI (fun z => q (22 + z)) cI cJ cZ H.size u18.1 mkd u18.2.1 mkp u18.2.2.1 u18.2.2.2.1 mku mkr u18.2.2.2.2 mxs mys mx2 my2 mmy mtl mpo mso mst mnr mco mrg mre  h) (cwV 0 hts gL_law_X5_thrown rfl rfl rfl (by decide +kernel) ⟨Nat.le_of_ble_eq_true rfl, Nat.le_of_ble_eq_true rfl⟩) ⟨wd.blind, va_recv hK hM (ci := 5) (q0 := 0) rfl rfl, fun U hU hW => ⟨rfl, wd.at hM hK (fun i j hi hj e9 => Nat.add_left_cancel (ha (22 + i) (22 + j) (by omega) (by omega) e9)) hN hU hW⟩⟩ rfl rfl hl.1 rfl (lv_room (Nat.le_of_ble_eq_true rfl)) dL_law_190 ⟨show _ ≤ 1075 by omega, show _ ≤ 9480 by omega⟩) hS ha hq rfl hP (fun r19 _ H locs h hP hM hS => ?_)
  have hP : va_P (dC, dI) vwCl (WL q cI cJ cZ cpg u16.1 u16.2.1 cnp cnq cns u16.2.2.1 u16.2.2.2.1 u16.2.2.2.2.1 crl cbx cxl cxr cyl cyh cms cwt cpf cnr csl ccl chu cuu cpd cro crc u16.2.2.2.2.2) H := hP
  have hM : va_P (dC, dI) vwCl (WM (fun z => q (22 + z)) cI cJ cZ u18.1 mkd u18.2.1 mkp u18.2.2.1 u18.2.2.2.1 mku mkr u18.2.2.2.2 mxs mys mx2 my2 mmy mtl mpo mso mst mnr mco mrg mre) H := hM
  refine lv_iload hx hb dL_law_193 (lv_at hl 1 rfl) ?_
  refine lv_icmp_eq (tgt := 200) hx hb dL_law_195 (by decide) (fun c21 => ?_) (fun c21 => ?_)
  · have h := h.1 c21
    refine lv_iload hx hb dL_law_200 (lv_at hl 1 rfl) ?_
    refine lv_if_ne (tgt := 217) hx hb dL_law_202 (by decide) (fun c22 => ?_) (fun c22 => ?_)
    · have h := h.1 c22
      refine lv_goto (tgt := 998) hx hb dL_law_217 (by decide) ?_
      obtain ⟨i23, ei23⟩ : ∃ y : Int32, y = v4 + 6 := ⟨_, rfl⟩
      refine lv_iinc (v := i23) (lv' := [(4, .int i23), (6, .int r17), (5, .int r15), (0, .ref b), (1, .ref (q 0)), (2, .ref (q 22)), (3, .ref (q 21))]) hx hb dL_law_998 hl (k := 6) rfl (by rw [ei23]; rfl) (by decide) rfl (fun ls hl => ?_)
      have h := h i23 ei23
      refine lv_goto (tgt := 23) hx hb dL_law_1001 (by decide) ?_
      refine W.widen (k := cells + 2) (n := slots + 12) (by omega) (by omega) ?_
      exact hk cpg u16.1 u16.2.1 cnp cnq cns u16.2.2.1 u16.2.2.2.1 u16.2.2.2.2.1 crl cbx cxl cxr cyl cyh cms cwt cpf cnr csl ccl chu cuu cpd cro crc u16.2.2.2.2.2 u18.1 mkd u18.2.1 mkp u18.2.2.1 u18.2.2.2.1 mku mkr u18.2.2.2.2 mxs mys mx2 my2 mmy mtl mpo mso mst mnr mco mrg mre i23 ls H locs h (lv_sub hl [3, 4, 5, 6, 0] rfl) hP hM hS
    · have h := h.2 c22
      refine lv_aload_n hx hb dL_law_205 rfl (lv_at hl 5 rfl) ?_
      refine lv_iconst (v := 0) hx hb dL_law_206 (by decide) ?_
      obtain ⟨b24, h⟩ := h
      refine va_lald (D := (dC, dI)) hx hb hK hP 21 1 rfl rfl b24 dL_law_207 ?_
      refine lv_iload hx hb dL_law_208 (lv_at hl 0 rfl) ?_
      refine lv_i2l hx hb dL_law_210 rfl ?_
      refine W.lcmp hx hb dL_law_211 ?_
      refine lv_if_eq (tgt := 217) hx hb dL_law_212 (by decide) (fun c25 => ?_) (fun c25 => ?_)
      · have h := h.1 c25
        refine lv_goto (tgt := 998) hx hb dL_law_217 (by decide) ?_
        obtain ⟨i26, ei26⟩ : ∃ y : Int32, y = v4 + 6 := ⟨_, rfl⟩
        refine lv_iinc (v := i26) (lv' := [(4, .int i26), (6, .int r17), (5, .int r15), (0, .ref b), (1, .ref (q 0)), (2, .ref (q 22)), (3, .ref (q 21))]) hx hb dL_law_998 hl (k := 6) rfl (by rw [ei26]; rfl) (by decide) rfl (fun ls hl => ?_)
        have h := h i26 ei26
        refine lv_goto (tgt := 23) hx hb dL_law_1001 (by decide) ?_
        refine W.widen (k := cells + 2) (n := slots + 12) (by omega) (by omega) ?_
        exact hk cpg u16.1 u16.2.1 cnp cnq cns u16.2.2.1 u16.2.2.2.1 u16.2.2.2.2.1 crl cbx cxl cxr cyl cyh cms cwt cpf cnr csl ccl chu cuu cpd cro crc u16.2.2.2.2.2 u18.1 mkd u18.2.1 mkp u18.2.2.1 u18.2.2.2.1 mku mkr u18.2.2.2.2 mxs mys mx2 my2 mmy mtl mpo mso mst mnr mco mrg mre i26 ls H locs h (lv_sub hl [3, 4, 5, 6, 0] rfl) hP hM hS
      · have h := h.2 c25
        exact (h : False).elim
  · have h := h.2 c21
    exact (h : False).elim

def cs_220 (L : Nat) (xs : Nat → Int32) (cpg : Int32) (cps : Int32) (cnf : Int32) (cnp : Int32) (cnq : Int32) (cns : Int32) (cpo : Int32) (cpt : Int32) (crf : Int32) (crl : Int32) (cbx : (Nat → Int32)) (cxl : (Nat → Int32)) (cxr : (Nat → Int32)) (cyl : (Nat → Int32)) (cyh : (Nat → Int32)) (cms : (Nat → Int32)) (cwt : (Nat → Int32)) (cpf : (Nat → Int32)) (cnr : (Nat → Int64)) (csl : (Nat → Int32)) (ccl : (Nat → Int32)) (chu : (Nat → Int32)) (cuu : (Nat → Int32)) (cpd : (Nat → Int64)) (cro : (Nat → Int32)) (crc : (Nat → Int64)) (ou : (Nat → Int64)) (mkc : Int32) (mkd : Int32) (mkn : Int32) (mkp : Int32) (mka : Int32) (mkt : Int32) (mku : Int32) (mkr : Int32) (mcn : (Nat → Int32)) (mxs : (Nat → Int32)) (mys : (Nat → Int32)) (mx2 : (Nat → Int32)) (my2 : (Nat → Int32)) (mmy : (Nat → Int32)) (mtl : (Nat → Int32)) (mpo : (Nat → Int32)) (mso : (Nat → Int32)) (mst : (Nat → Int32)) (mnr : (Nat → Int64)) (mco : (Nat → Int32)) (mrg : (Nat → Int32)) (mre : (Nat → Int64)) (v4 : Int32) (k : Int32 → Int32 → Int32 → Int32 → Int32 → Int32 → Int32 → Int32 → Int32 → Int32 → (Nat → Int32) → (Nat → Int32) → (Nat → Int32) → (Nat → Int32) → (Nat → Int32) → (Nat → Int32) → (Nat → Int32) → (Nat → Int32) → (Nat → Int64) → (Nat → Int32) → (Nat → Int32) → (Nat → Int32) → (Nat → Int32) → (Nat → Int64) → (Nat → Int32) → (Nat → Int64) → (Nat → Int64) → Int32 → Int32 → Int32 → Int32 → Int32 → Int32 → Int32 → Int32 → (Nat → Int32) → (Nat → Int32) → (Nat → Int32) → (Nat → Int32) → (Nat → Int32) → (Nat → Int32) → (Nat → Int32) → (Nat → Int32) → (Nat → Int32) → (Nat → Int32) → (Nat → Int64) → (Nat → Int32) → (Nat → Int32) → (Nat → Int64) → Int32 → Prop) : Prop := (vp_in ((v4 + 1)) L ∧ (vp_in ((v4 + 2)) L ∧ (vp_in ((v4 + 3)) L ∧ (vp_in ((v4 + 4)) L ∧ (vp_in ((v4 + 5)) L ∧ (wL_box cps cnf cpo cpt crf cbx cxl cxr cyl cyh ou ((xs (v4 + 1).toNatClampNeg)) ((xs (v4 + 2).toNatClampNeg)) ((xs (v4 + 3).toNatClampNeg)) ((xs (v4 + 4).toNatClampNeg)) ((xs (v4 + 5).toNatClampNeg)) (fun (r32 : Int32) (u33 : Int32 × Int32 × Int32 × Int32 × (Nat → Int32) × (Nat → Int32) × (Nat → Int32) × (Nat → Int32) × (Nat → Int32) × (Nat → Int64)) => (vp_in ((v4 + 1)) L ∧ (vp_in ((v4 + 2)) L ∧ (vp_in ((v4 + 3)) L ∧ (vp_in ((v4 + 4)) L ∧ (vp_in ((v4 + 5)) L ∧ (wX5_box mkn mkc mka mkt mcn mxs mys mx2 my2 mmy mtl ((xs (v4 + 1).toNatClampNeg)) ((xs (v4 + 2).toNatClampNeg)) ((xs (v4 + 3).toNatClampNeg)) ((xs (v4 + 4).toNatClampNeg)) ((xs (v4 + 5).toNatClampNeg)) (fun (r39 : Int32) (u40 : Int32 × Int32 × Int32 × (Nat → Int32) × (Nat → Int32) × (Nat → Int32) × (Nat → Int32) × (Nat → Int32) × (Nat → Int32) × (Nat → Int32)) => (wX5_thrown u40.1  (fun (r41 : Int32) => ((r41 = r32 → ((¬ r32 = 0 → (∀ i45 : Int32, i45 = v4 + 6 → k cpg cps u33.1 cnp cnq cns u33.2.1 u33.2.2.1 u33.2.2.2.1 crl u33.2.2.2.2.1 u33.2.2.2.2.2.1 u33.2.2.2.2.2.2.1 u33.2.2.2.2.2.2.2.1 u33.2.2.2.2.2.2.2.2.1 cms cwt cpf cnr csl ccl chu cuu cpd cro crc u33.2.2.2.2.2.2.2.2.2 u40.1 mkd mkn mkp u40.2.1 u40.2.2.1 mku mkr u40.2.2.2.1 u40.2.2.2.2.1 u40.2.2.2.2.2.1 u40.2.2.2.2.2.2.1 u40.2.2.2.2.2.2.2.1 u40.2.2.2.2.2.2.2.2.1 u40.2.2.2.2.2.2.2.2.2 mpo mso mst mnr mco mrg mre i45)) ∧ (r32 = 0 → (vp_in 0 1 ∧ (((lg_cmp ((u33.2.2.2.2.2.2.2.2.2 (0 : Int32).toNatClampNeg)) r39.toInt64) = 0 → (∀ i48 : Int32, i48 = v4 + 6 → k cpg cps u33.1 cnp cnq cns u33.2.1 u33.2.2.1 u33.2.2.2.1 crl u33.2.2.2.2.1 u33.2.2.2.2.2.1 u33.2.2.2.2.2.2.1 u33.2.2.2.2.2.2.2.1 u33.2.2.2.2.2.2.2.2.1 cms cwt cpf cnr csl ccl chu cuu cpd cro crc u33.2.2.2.2.2.2.2.2.2 u40.1 mkd mkn mkp u40.2.1 u40.2.2.1 mku mkr u40.2.2.2.1 u40.2.2.2.2.1 u40.2.2.2.2.2.1 u40.2.2.2.2.2.2.1 u40.2.2.2.2.2.2.2.1 u40.2.2.2.2.2.2.2.2.1 u40.2.2.2.2.2.2.2.2.2 mpo mso mst mnr mco mrg mre i48)) ∧ (¬ ((lg_cmp ((u33.2.2.2.2.2.2.2.2.2 (0 : Int32).toNatClampNeg)) r39.toInt64) = 0) → False)))))) ∧ (¬ (r41 = r32) → False))))))))))))))))))
set_option maxHeartbeats 4000000 in
set_option maxRecDepth 100000 in
theorem mcs_220 {p : Program} {l : Launch} {e : Env} {s : State} {m : MethodId} {below : List Frame} {meth : Method} {c : Code} {b L : Nat} {xs : Nat → Int32} {dC : Nat → ClassId} {dI : Nat → Nat → Nat} {cI cJ cZ : ClassId} {q : Nat → Nat} (hlt : l.stackTraces = false) (C : LX p s m meth c b L xs dC dI cI cJ cZ q) (cells slots : Nat) (hc : cells + 2 ≤ 1075) (hs : slots + 12 ≤ 9480) {k : Int32 → Int32 → Int32 → Int32 → Int32 → Int32 → Int32 → Int32 → Int32 → Int32 → (Nat → Int32) → (Nat → Int32) → (Nat → Int32) → (Nat → Int32) → (Nat → Int32) → (Nat → Int32) → (Nat → Int32) → (Nat → Int32) → (Nat → Int64) → (Nat → Int32) → (Nat → Int32) → (Nat → Int32) → (Nat → Int32) → (Nat → Int64) → (Nat → Int32) → (Nat → Int64) → (Nat → Int64) → Int32 → Int32 → Int32 → Int32 → Int32 → Int32 → Int32 → Int32 → (Nat → Int32) → (Nat → Int32) → (Nat → Int32) → (Nat → Int32) → (Nat → Int32) → (Nat → Int32) → (Nat → Int32) → (Nat → Int32) → (Nat → Int32) → (Nat → Int32) → (Nat → Int64) → (Nat → Int32) → (Nat → Int32) → (Nat → Int64) → Int32 → Prop} (hk : ∀ (cpg : Int32) (cps : Int32) (cnf : Int32) (cnp : Int32) (cnq : Int32) (cns : Int32) (cpo : Int32) (cpt : Int32) (crf : Int32) (crl : Int32) (cbx : (Nat → Int32)) (cxl : (Nat → Int32)) (cxr : (Nat → Int32)) (cyl : (Nat → Int32)) (cyh : (Nat → Int32)) (cms : (Nat → Int32)) (cwt : (Nat → Int32)) (cpf : (Nat → Int32)) (cnr : (Nat → Int64)) (csl : (Nat → Int32)) (ccl : (Nat → Int32)) (chu : (Nat → Int32)) (cuu : (Nat → Int32)) (cpd : (Nat → Int64)) (cro : (Nat → Int32)) (crc : (Nat → Int64)) (ou : (Nat → Int64)) (mkc : Int32) (mkd : Int32) (mkn : Int32) (mkp : Int32) (mka : Int32) (mkt : Int32) (mku : Int32) (mkr : Int32) (mcn : (Nat → Int32)) (mxs : (Nat → Int32)) (mys : (Nat → Int32)) (mx2 : (Nat → Int32)) (my2 : (Nat → Int32)) (mmy : (Nat → Int32)) (mtl : (Nat → Int32)) (mpo : (Nat → Int32)) (mso : (Nat → Int32)) (mst : (Nat → Int32)) (mnr : (Nat → Int64)) (mco : (Nat → Int32)) (mrg : (Nat → Int32)) (mre : (Nat → Int64)) (v4 : Int32) (ls : Array Slot) (H : Heap) (locs : List Loc), k cpg cps cnf cnp cnq cns cpo cpt crf crl cbx cxl cxr cyl cyh cms cwt cpf cnr csl ccl chu cuu cpd cro crc ou mkc mkd mkn mkp mka mkt mku mkr mcn mxs mys mx2 my2 mmy mtl mpo mso mst mnr mco mrg mre v4 → lv_has ls 8 [(0, .ref b), (1, .ref (q 0)), (2, .ref (q 22)), (3, .ref (q 21)), (4, .int v4)] → va_P (dC, dI) vwCl (WL q cI cJ cZ cpg cps cnf cnp cnq cns cpo cpt crf crl cbx cxl cxr cyl cyh cms cwt cpf cnr csl ccl chu cuu cpd cro crc ou) H → va_P (dC, dI) vwCl (WM (fun z => q (22 + z)) cI cJ cZ mkc mkd mkn mkp mka mkt mku mkr mcn mxs mys mx2 my2 mmy mtl mpo mso mst mnr mco mrg mre) H → va_S (fun x => s.heap.size ≤ x) s.heap H locs → W p l e room_1 s m #[Value.ref b] below meth c H locs (cells + 2) (slots + 12) (lw_Z below #[Value.ref b] s) (F0 m 23 ls [])) : ∀ (cpg : Int32) (cps : Int32) (cnf : Int32) (cnp : Int32) (cnq : Int32) (cns : Int32) (cpo : Int32) (cpt : Int32) (crf : Int32) (crl : Int32) (cbx : (Nat → Int32)) (cxl : (Nat → Int32)) (cxr : (Nat → Int32)) (cyl : (Nat → Int32)) (cyh : (Nat → Int32)) (cms : (Nat → Int32)) (cwt : (Nat → Int32)) (cpf : (Nat → Int32)) (cnr : (Nat → Int64)) (csl : (Nat → Int32)) (ccl : (Nat → Int32)) (chu : (Nat → Int32)) (cuu : (Nat → Int32)) (cpd : (Nat → Int64)) (cro : (Nat → Int32)) (crc : (Nat → Int64)) (ou : (Nat → Int64)) (mkc : Int32) (mkd : Int32) (mkn : Int32) (mkp : Int32) (mka : Int32) (mkt : Int32) (mku : Int32) (mkr : Int32) (mcn : (Nat → Int32)) (mxs : (Nat → Int32)) (mys : (Nat → Int32)) (mx2 : (Nat → Int32)) (my2 : (Nat → Int32)) (mmy : (Nat → Int32)) (mtl : (Nat → Int32)) (mpo : (Nat → Int32)) (mso : (Nat → Int32)) (mst : (Nat → Int32)) (mnr : (Nat → Int64)) (mco : (Nat → Int32)) (mrg : (Nat → Int32)) (mre : (Nat → Int64)) (v4 : Int32) (ls : Array Slot) (H : Heap) (locs : List Loc), cs_220 L xs cpg cps cnf cnp cnq cns cpo cpt crf crl cbx cxl cxr cyl cyh cms cwt cpf cnr csl ccl chu cuu cpd cro crc ou mkc mkd mkn mkp mka mkt mku mkr mcn mxs mys mx2 my2 mmy mtl mpo mso mst mnr mco mrg mre v4 k → lv_has ls 8 [(0, .ref b), (1, .ref (q 0)), (2, .ref (q 22)), (3, .ref (q 21)), (4, .int v4)] → va_P (dC, dI) vwCl (WL q cI cJ cZ cpg cps cnf cnp cnq cns cpo cpt crf crl cbx cxl cxr cyl cyh cms cwt cpf cnr csl ccl chu cuu cpd cro crc ou) H → va_P (dC, dI) vwCl (WM (fun z => q (22 + z)) cI cJ cZ mkc mkd mkn mkp mka mkt mku mkr mcn mxs mys mx2 my2 mmy mtl mpo mso mst mnr mco mrg mre) H → va_S (fun x => s.heap.size ≤ x) s.heap H locs → W p l e room_1 s m #[Value.ref b] below meth c H locs cells slots (lw_Z below #[Value.ref b] s) (F0 m 220 ls []) := by
  obtain ⟨hx, hb, hml, hown, hts, hX, hbl, hK, ha, hq, hN, hE, hC⟩ := id C
  have hbA : ¬ (fun q : Nat => s.heap.size ≤ q) b := Nat.not_le.mpr hbl
  intro cpg cps cnf cnp cnq cns cpo cpt crf crl cbx cxl cxr cyl cyh cms cwt cpf cnr csl ccl chu cuu cpd cro crc ou mkc mkd mkn mkp mka mkt mku mkr mcn mxs mys mx2 my2 mmy mtl mpo mso mst mnr mco mrg mre v4 ls H locs h hl hP hM hS
  unfold cs_220 at h
  refine lv_aload_n hx hb dL_law_220 rfl (lv_at hl 1 rfl) ?_
  refine lv_aload_n hx hb dL_law_221 rfl (lv_at hl 0 rfl) ?_
  refine lv_iload hx hb dL_law_222 (lv_at hl 4 rfl) ?_
  refine lv_iconst (v := 1) hx hb dL_law_224 (by decide) ?_
  refine lv_iadd hx hb dL_law_225 ?_
  obtain ⟨b27, h⟩ := h
  refine va_sld hx hb hX hbl hbA hS b27 dL_law_226 ?_
  refine lv_aload_n hx hb dL_law_227 rfl (lv_at hl 0 rfl) ?_
  refine lv_iload hx hb dL_law_228 (lv_at hl 4 rfl) ?_
  refine lv_iconst (v := 2) hx hb dL_law_230 (by decide) ?_
  refine lv_iadd hx hb dL_law_231 ?_
  obtain ⟨b28, h⟩ := h
  refine va_sld hx hb hX hbl hbA hS b28 dL_law_232 ?_
  refine lv_aload_n hx hb dL_law_233 rfl (lv_at hl 0 rfl) ?_
  refine lv_iload hx hb dL_law_234 (lv_at hl 4 rfl) ?_
  refine lv_iconst (v := 3) hx hb dL_law_236 (by decide) ?_
  refine lv_iadd hx hb dL_law_237 ?_
  obtain ⟨b29, h⟩ := h
  refine va_sld hx hb hX hbl hbA hS b29 dL_law_238 ?_
  refine lv_aload_n hx hb dL_law_239 rfl (lv_at hl 0 rfl) ?_
  refine lv_iload hx hb dL_law_240 (lv_at hl 4 rfl) ?_
  refine lv_iconst (v := 4) hx hb dL_law_242 (by decide) ?_
  refine lv_iadd hx hb dL_law_243 ?_
  obtain ⟨b30, h⟩ := h
  refine va_sld hx hb hX hbl hbA hS b30 dL_law_244 ?_
  refine lv_aload_n hx hb dL_law_245 rfl (lv_at hl 0 rfl) ?_
  refine lv_iload hx hb dL_law_246 (lv_at hl 4 rfl) ?_
  refine lv_iconst (v := 5) hx hb dL_law_248 (by decide) ?_
  refine lv_iadd hx hb dL_law_249 ?_
  obtain ⟨b31, h⟩ := h
  refine va_sld hx hb hX hbl hbA hS b31 dL_law_250 ?_
  refine lv_aload_n hx hb dL_law_251 rfl (lv_at hl 3 rfl) ?_
  refine ga_i (vx_runSX (As := [.ref (q 0), .int (xs (v4 + 1).toNatClampNeg), .int (xs (v4 + 2).toNatClampNeg), .int (xs (v4 + 3).toNatClampNeg), .int (xs (v4 + 4).toNatClampNeg), .int (xs (v4 + 5).toNatClampNeg), .ref (q 21)]) (rest := []) ⟨hx, hb, hml, hown, hts⟩ (ktL_box l hlt dC dI q cI cJ cZ H.size cpg cps cnf cnp cnq cns cpo cpt crf crl cbx cxl cxr cyl cyh cms cwt cpf cnr csl ccl chu cuu cpd cro crc ou ((xs (v4 + 1).toNatClampNeg)) ((xs (v4 + 2).toNatClampNeg)) ((xs (v4 + 3).toNatClampNeg)) ((xs (v4 + 4).toNatClampNeg)) ((xs (v4 + 5).toNatClampNeg)) h) (vx_cwSW 7 hts gL_law_L_box rfl rfl rfl (by decide +kernel) ⟨Nat.le_of_ble_eq_true rfl, Nat.le_of_ble_eq_true rfl⟩) ⟨wl.blind, fun U hU hW => ⟨rfl, ⟨wd.at hP hK (fun i j hi hj => ha i j (by omega) (by omega)) hN hU hW, hE.at hS hU hW (fun x hx9 => AF_AL (i0 := 0) (n := 22) hq (by omega) hS.1 x (by simpa using hx9))⟩, hC.moved hW.alike⟩⟩ rfl rfl hl.1 rfl (lv_room (Nat.le_of_ble_eq_true rfl)) dL_law_252 ⟨show _ ≤ 1075 by omega, show _ ≤ 9480 by omega⟩) hS ha hq rfl hM (fun r32 u33 H locs h hP hM hS => ?_)
  have hP : va_P (dC, dI) vwCl (WL q cI cJ cZ cpg cps u33.1 cnp cnq cns u33.2.1 u33.2.2.1 u33.2.2.2.1 crl u33.2.2.2.2.1 u33.2.2.2.2.2.1 u33.2.2.2.2.2.2.1 u33.2.2.2.2.2.2.2.1 u33.2.2.2.2.2.2.2.2.1 cms cwt cpf cnr csl ccl chu cuu cpd cro crc u33.2.2.2.2.2.2.2.2.2) H := hP
  have hM : va_P (dC, dI) vwCl (WM (fun z => q (22 + z)) cI cJ cZ mkc mkd mkn mkp mka mkt mku mkr mcn mxs mys mx2 my2 mmy mtl mpo mso mst mnr mco mrg mre) H := hM
  refine lv_istore (lv' := [(5, .int r32), (0, .ref b), (1, .ref (q 0)), (2, .ref (q 22)), (3, .ref (q 21)), (4, .int v4)]) hx hb dL_law_255 hl (by decide) rfl (fun ls hl => ?_)
  refine lv_aload_n hx hb dL_law_257 rfl (lv_at hl 3 rfl) ?_
  refine lv_aload_n hx hb dL_law_258 rfl (lv_at hl 1 rfl) ?_
  refine lv_iload hx hb dL_law_259 (lv_at hl 5 rfl) ?_
  refine lv_iconst (v := 1) hx hb dL_law_261 (by decide) ?_
  refine lv_iadd hx hb dL_law_262 ?_
  obtain ⟨b34, h⟩ := h
  refine va_sld hx hb hX hbl hbA hS b34 dL_law_263 ?_
  refine lv_aload_n hx hb dL_law_264 rfl (lv_at hl 1 rfl) ?_
  refine lv_iload hx hb dL_law_265 (lv_at hl 5 rfl) ?_
  refine lv_iconst (v := 2) hx hb dL_law_267 (by decide) ?_
  refine lv_iadd hx hb dL_law_268 ?_
  obtain ⟨b35, h⟩ := h
  refine va_sld hx hb hX hbl hbA hS b35 dL_law_269 ?_
  refine lv_aload_n hx hb dL_law_270 rfl (lv_at hl 1 rfl) ?_
  refine lv_iload hx hb dL_law_271 (lv_at hl 5 rfl) ?_
  refine lv_iconst (v := 3) hx hb dL_law_273 (by decide) ?_
  refine lv_iadd hx hb dL_law_274 ?_
  obtain ⟨b36, h⟩ := h
  refine va_sld hx hb hX hbl hbA hS b36 dL_law_275 ?_
  refine lv_aload_n hx hb dL_law_276 rfl (lv_at hl 1 rfl) ?_
  refine lv_iload hx hb dL_law_277 (lv_at hl 5 rfl) ?_
  refine lv_iconst (v := 4) hx hb dL_law_279 (by decide) ?_
  refine lv_iadd hx hb dL_law_280 ?_
  obtain ⟨b37, h⟩ := h
  refine va_sld hx hb hX hbl hbA hS b37 dL_law_281 ?_
  refine lv_aload_n hx hb dL_law_282 rfl (lv_at hl 1 rfl) ?_
  refine lv_iload hx hb dL_law_283 (lv_at hl 5 rfl) ?_
  refine lv_iconst (v := 5) hx hb dL_law_285 (by decide) ?_
  refine lv_iadd hx hb dL_law_286 ?_
  obtain ⟨b38, h⟩ := h
  refine va_sld hx hb hX hbl hbA hS b38 dL_law_287 ?_
  refine gc_i (va_runV (As := [.int (xs (v4 + 1).toNatClampNeg), .int (xs (v4 + 2).toNatClampNeg), .int (xs (v4 + 3).toNatClampNeg), .int (xs (v4 + 4).toNatClampNeg), .int (xs (v4 + 5).toNatClampNeg)]) (rest := []) ⟨hx, hb, hml, hown, hts⟩ (ktX5_box l dC dI (fun z => q (22 + z)) cI cJ cZ H.size mkc mkd mkn mkp mka mkt mku mkr mcn mxs mys mx2 my2 mmy mtl mpo mso mst mnr mco mrg mre ((xs (v4 + 1).toNatClampNeg)) ((xs (v4 + 2).toNatClampNeg)) ((xs (v4 + 3).toNatClampNeg)) ((xs (v4 + 4).toNatClampNeg)) ((xs (v4 + 5).toNatClampNeg)) h) (cwV 5 hts gL_law_X5_box rfl rfl rfl (by decide +kernel) ⟨Nat.le_of_ble_eq_true rfl, Nat.le_of_ble_eq_true rfl⟩) ⟨wd.blind, va_recv hK hM (ci := 5) (q0 := 0) rfl rfl, fun U hU hW => ⟨rfl, wd.at hM hK (fun i j hi hj e9 => Nat.add_left_cancel (ha (22 + i) (22 + j) (by omega) (by omega) e9)) hN hU hW⟩⟩ rfl rfl hl.1 rfl (lv_room (Nat.le_of_ble_eq_true rfl)) dL_law_288 ⟨show _ ≤ 1075 by omega, show _ ≤ 9480 by omega⟩) hS ha hq rfl hP (fun r39 u40 H locs h hP hM hS => ?_)
  have hP : va_P (dC, dI) vwCl (WL q cI cJ cZ cpg cps u33.1 cnp cnq cns u33.2.1 u33.2.2.1 u33.2.2.2.1 crl u33.2.2.2.2.1 u33.2.2.2.2.2.1 u33.2.2.2.2.2.2.1 u33.2.2.2.2.2.2.2.1 u33.2.2.2.2.2.2.2.2.1 cms cwt cpf cnr csl ccl chu cuu cpd cro crc u33.2.2.2.2.2.2.2.2.2) H := hP
  have hM : va_P (dC, dI) vwCl (WM (fun z => q (22 + z)) cI cJ cZ u40.1 mkd mkn mkp u40.2.1 u40.2.2.1 mku mkr u40.2.2.2.1 u40.2.2.2.2.1 u40.2.2.2.2.2.1 u40.2.2.2.2.2.2.1 u40.2.2.2.2.2.2.2.1 u40.2.2.2.2.2.2.2.2.1 u40.2.2.2.2.2.2.2.2.2 mpo mso mst mnr mco mrg mre) H := hM
  refine lv_istore (lv' := [(6, .int r39), (5, .int r32), (0, .ref b), (1, .ref (q 0)), (2, .ref (q 22)), (3, .ref (q 21)), (4, .int v4)]) hx hb dL_law_291 hl (by decide) rfl (fun ls hl => ?_)
  refine lv_aload_n hx hb dL_law_293 rfl (lv_at hl 4 rfl) ?_
  refine gc_i (va_runV (As := []) (rest := []) ⟨hx, hb, hml, hown, hts⟩ (ktX5_thrown l dC dI (fun z => q (22 + z)) cI cJ cZ H.size u40.1 mkd mkn mkp u40.2.1 u40.2.2.1 mku mkr u40.2.2.2.1 u40.2.2.2.2.1 u40.2.2.2.2.2.1 u40.2.2.2.2.2.2.1 u40.2.2.2.2.2.2.2.1 u40.2.2.2.2.2.2.2.2.1 u40.2.2.2.2.2.2.2.2.2 mpo mso mst mnr mco mrg mre  h) (cwV 0 hts gL_law_X5_thrown rfl rfl rfl (by decide +kernel) ⟨Nat.le_of_ble_eq_true rfl, Nat.le_of_ble_eq_true rfl⟩) ⟨wd.blind, va_recv hK hM (ci := 5) (q0 := 0) rfl rfl, fun U hU hW => ⟨rfl, wd.at hM hK (fun i j hi hj e9 => Nat.add_left_cancel (ha (22 + i) (22 + j) (by omega) (by omega) e9)) hN hU hW⟩⟩ rfl rfl hl.1 rfl (lv_room (Nat.le_of_ble_eq_true rfl)) dL_law_294 ⟨show _ ≤ 1075 by omega, show _ ≤ 9480 by omega⟩) hS ha hq rfl hP (fun r41 _ H locs h hP hM hS => ?_)
  have hP : va_P (dC, dI) vwCl (WL q cI cJ cZ cpg cps u33.1 cnp cnq cns u33.2.1 u33.2.2.1 u33.2.2.2.1 crl u33.2.2.2.2.1 u33.2.2.2.2.2.1 u33.2.2.2.2.2.2.1 u33.2.2.2.2.2.2.2.1 u33.2.2.2.2.2.2.2.2.1 cms cwt cpf cnr csl ccl chu cuu cpd cro crc u33.2.2.2.2.2.2.2.2.2) H := hP
  have hM : va_P (dC, dI) vwCl (WM (fun z => q (22 + z)) cI cJ cZ u40.1 mkd mkn mkp u40.2.1 u40.2.2.1 mku mkr u40.2.2.2.1 u40.2.2.2.2.1 u40.2.2.2.2.2.1 u40.2.2.2.2.2.2.1 u40.2.2.2.2.2.2.2.1 u40.2.2.2.2.2.2.2.2.1 u40.2.2.2.2.2.2.2.2.2 mpo mso mst mnr mco mrg mre) H := hM
  refine lv_iload hx hb dL_law_297 (lv_at hl 1 rfl) ?_
  refine lv_icmp_eq (tgt := 304) hx hb dL_law_299 (by decide) (fun c43 => ?_) (fun c43 => ?_)
  · have h := h.1 c43
    refine lv_iload hx hb dL_law_304 (lv_at hl 1 rfl) ?_
    refine lv_if_ne (tgt := 321) hx hb dL_law_306 (by decide) (fun c44 => ?_) (fun c44 => ?_)
    · have h := h.1 c44
      refine lv_goto (tgt := 998) hx hb dL_law_321 (by decide) ?_
      obtain ⟨i45, ei45⟩ : ∃ y : Int32, y = v4 + 6 := ⟨_, rfl⟩
      refine lv_iinc (v := i45) (lv' := [(4, .int i45), (6, .int r39), (5, .int r32), (0, .ref b), (1, .ref (q 0)), (2, .ref (q 22)), (3, .ref (q 21))]) hx hb dL_law_998 hl (k := 6) rfl (by rw [ei45]; rfl) (by decide) rfl (fun ls hl => ?_)
      have h := h i45 ei45
      refine lv_goto (tgt := 23) hx hb dL_law_1001 (by decide) ?_
      refine W.widen (k := cells + 2) (n := slots + 12) (by omega) (by omega) ?_
      exact hk cpg cps u33.1 cnp cnq cns u33.2.1 u33.2.2.1 u33.2.2.2.1 crl u33.2.2.2.2.1 u33.2.2.2.2.2.1 u33.2.2.2.2.2.2.1 u33.2.2.2.2.2.2.2.1 u33.2.2.2.2.2.2.2.2.1 cms cwt cpf cnr csl ccl chu cuu cpd cro crc u33.2.2.2.2.2.2.2.2.2 u40.1 mkd mkn mkp u40.2.1 u40.2.2.1 mku mkr u40.2.2.2.1 u40.2.2.2.2.1 u40.2.2.2.2.2.1 u40.2.2.2.2.2.2.1 u40.2.2.2.2.2.2.2.1 u40.2.2.2.2.2.2.2.2.1 u40.2.2.2.2.2.2.2.2.2 mpo mso mst mnr mco mrg mre i45 ls H locs h (lv_sub hl [3, 4, 5, 6, 0] rfl) hP hM hS
    · have h := h.2 c44
      refine lv_aload_n hx hb dL_law_309 rfl (lv_at hl 5 rfl) ?_
      refine lv_iconst (v := 0) hx hb dL_law_310 (by decide) ?_
      obtain ⟨b46, h⟩ := h
      refine va_lald (D := (dC, dI)) hx hb hK hP 21 1 rfl rfl b46 dL_law_311 ?_
      refine lv_iload hx hb dL_law_312 (lv_at hl 0 rfl) ?_
      refine lv_i2l hx hb dL_law_314 rfl ?_
      refine W.lcmp hx hb dL_law_315 ?_
      refine lv_if_eq (tgt := 321) hx hb dL_law_316 (by decide) (fun c47 => ?_) (fun c47 => ?_)
      · have h := h.1 c47
        refine lv_goto (tgt := 998) hx hb dL_law_321 (by decide) ?_
        obtain ⟨i48, ei48⟩ : ∃ y : Int32, y = v4 + 6 := ⟨_, rfl⟩
        refine lv_iinc (v := i48) (lv' := [(4, .int i48), (6, .int r39), (5, .int r32), (0, .ref b), (1, .ref (q 0)), (2, .ref (q 22)), (3, .ref (q 21))]) hx hb dL_law_998 hl (k := 6) rfl (by rw [ei48]; rfl) (by decide) rfl (fun ls hl => ?_)
        have h := h i48 ei48
        refine lv_goto (tgt := 23) hx hb dL_law_1001 (by decide) ?_
        refine W.widen (k := cells + 2) (n := slots + 12) (by omega) (by omega) ?_
        exact hk cpg cps u33.1 cnp cnq cns u33.2.1 u33.2.2.1 u33.2.2.2.1 crl u33.2.2.2.2.1 u33.2.2.2.2.2.1 u33.2.2.2.2.2.2.1 u33.2.2.2.2.2.2.2.1 u33.2.2.2.2.2.2.2.2.1 cms cwt cpf cnr csl ccl chu cuu cpd cro crc u33.2.2.2.2.2.2.2.2.2 u40.1 mkd mkn mkp u40.2.1 u40.2.2.1 mku mkr u40.2.2.2.1 u40.2.2.2.2.1 u40.2.2.2.2.2.1 u40.2.2.2.2.2.2.1 u40.2.2.2.2.2.2.2.1 u40.2.2.2.2.2.2.2.2.1 u40.2.2.2.2.2.2.2.2.2 mpo mso mst mnr mco mrg mre i48 ls H locs h (lv_sub hl [3, 4, 5, 6, 0] rfl) hP hM hS
      · have h := h.2 c47
        exact (h : False).elim
  · have h := h.2 c43
    exact (h : False).elim

def cs_324 (L : Nat) (xs : Nat → Int32) (cpg : Int32) (cps : Int32) (cnf : Int32) (cnp : Int32) (cnq : Int32) (cns : Int32) (cpo : Int32) (cpt : Int32) (crf : Int32) (crl : Int32) (cbx : (Nat → Int32)) (cxl : (Nat → Int32)) (cxr : (Nat → Int32)) (cyl : (Nat → Int32)) (cyh : (Nat → Int32)) (cms : (Nat → Int32)) (cwt : (Nat → Int32)) (cpf : (Nat → Int32)) (cnr : (Nat → Int64)) (csl : (Nat → Int32)) (ccl : (Nat → Int32)) (chu : (Nat → Int32)) (cuu : (Nat → Int32)) (cpd : (Nat → Int64)) (cro : (Nat → Int32)) (crc : (Nat → Int64)) (ou : (Nat → Int64)) (mkc : Int32) (mkd : Int32) (mkn : Int32) (mkp : Int32) (mka : Int32) (mkt : Int32) (mku : Int32) (mkr : Int32) (mcn : (Nat → Int32)) (mxs : (Nat → Int32)) (mys : (Nat → Int32)) (mx2 : (Nat → Int32)) (my2 : (Nat → Int32)) (mmy : (Nat → Int32)) (mtl : (Nat → Int32)) (mpo : (Nat → Int32)) (mso : (Nat → Int32)) (mst : (Nat → Int32)) (mnr : (Nat → Int64)) (mco : (Nat → Int32)) (mrg : (Nat → Int32)) (mre : (Nat → Int64)) (v4 : Int32) (k : Int32 → Int32 → Int32 → Int32 → Int32 → Int32 → Int32 → Int32 → Int32 → Int32 → (Nat → Int32) → (Nat → Int32) → (Nat → Int32) → (Nat → Int32) → (Nat → Int32) → (Nat → Int32) → (Nat → Int32) → (Nat → Int32) → (Nat → Int64) → (Nat → Int32) → (Nat → Int32) → (Nat → Int32) → (Nat → Int32) → (Nat → Int64) → (Nat → Int32) → (Nat → Int64) → (Nat → Int64) → Int32 → Int32 → Int32 → Int32 → Int32 → Int32 → Int32 → Int32 → (Nat → Int32) → (Nat → Int32) → (Nat → Int32) → (Nat → Int32) → (Nat → Int32) → (Nat → Int32) → (Nat → Int32) → (Nat → Int32) → (Nat → Int32) → (Nat → Int32) → (Nat → Int64) → (Nat → Int32) → (Nat → Int32) → (Nat → Int64) → Int32 → Prop) : Prop := (vp_in ((v4 + 1)) L ∧ (vp_in ((v4 + 2)) L ∧ (vp_in ((v4 + 3)) L ∧ (((xs (v4 + 3).toNatClampNeg) = 0 → (wL_stitch cps cbx cnf cpo cpt crf cms ou ((xs (v4 + 1).toNatClampNeg)) ((xs (v4 + 2).toNatClampNeg)) 0 (fun (r53 : Int32) (u54 : Int32 × Int32 × Int32 × Int32 × (Nat → Int32) × (Nat → Int64)) => (vp_in ((v4 + 1)) L ∧ (vp_in ((v4 + 2)) L ∧ (vp_in ((v4 + 3)) L ∧ (((xs (v4 + 3).toNatClampNeg) = 0 → (wX5_stitch mkn mcn mkc mka mkt mmy ((xs (v4 + 1).toNatClampNeg)) ((xs (v4 + 2).toNatClampNeg)) 0 (fun (r59 : Int32) (u60 : Int32 × Int32 × Int32 × (Nat → Int32)) => (wX5_thrown u60.1  (fun (r61 : Int32) => ((r61 = r53 → ((¬ r53 = 0 → (∀ i65 : Int32, i65 = v4 + 6 → k cpg cps u54.1 cnp cnq cns u54.2.1 u54.2.2.1 u54.2.2.2.1 crl cbx cxl cxr cyl cyh u54.2.2.2.2.1 cwt cpf cnr csl ccl chu cuu cpd cro crc u54.2.2.2.2.2 u60.1 mkd mkn mkp u60.2.1 u60.2.2.1 mku mkr mcn mxs mys mx2 my2 u60.2.2.2 mtl mpo mso mst mnr mco mrg mre i65)) ∧ (r53 = 0 → (vp_in 0 1 ∧ ((r59 = 0 → (((lg_cmp ((u54.2.2.2.2.2 (0 : Int32).toNatClampNeg)) 0) = 0 → (∀ i69 : Int32, i69 = v4 + 6 → k cpg cps u54.1 cnp cnq cns u54.2.1 u54.2.2.1 u54.2.2.2.1 crl cbx cxl cxr cyl cyh u54.2.2.2.2.1 cwt cpf cnr csl ccl chu cuu cpd cro crc u54.2.2.2.2.2 u60.1 mkd mkn mkp u60.2.1 u60.2.2.1 mku mkr mcn mxs mys mx2 my2 u60.2.2.2 mtl mpo mso mst mnr mco mrg mre i69)) ∧ (¬ ((lg_cmp ((u54.2.2.2.2.2 (0 : Int32).toNatClampNeg)) 0) = 0) → False))) ∧ (¬ (r59 = 0) → (((lg_cmp ((u54.2.2.2.2.2 (0 : Int32).toNatClampNeg)) 1) = 0 → (∀ i71 : Int32, i71 = v4 + 6 → k cpg cps u54.1 cnp cnq cns u54.2.1 u54.2.2.1 u54.2.2.2.1 crl cbx cxl cxr cyl cyh u54.2.2.2.2.1 cwt cpf cnr csl ccl chu cuu cpd cro crc u54.2.2.2.2.2 u60.1 mkd mkn mkp u60.2.1 u60.2.2.1 mku mkr mcn mxs mys mx2 my2 u60.2.2.2 mtl mpo mso mst mnr mco mrg mre i71)) ∧ (¬ ((lg_cmp ((u54.2.2.2.2.2 (0 : Int32).toNatClampNeg)) 1) = 0) → False)))))))) ∧ (¬ (r61 = r53) → False))))))) ∧ (¬ ((xs (v4 + 3).toNatClampNeg) = 0) → (wX5_stitch mkn mcn mkc mka mkt mmy ((xs (v4 + 1).toNatClampNeg)) ((xs (v4 + 2).toNatClampNeg)) 1 (fun (r72 : Int32) (u73 : Int32 × Int32 × Int32 × (Nat → Int32)) => (wX5_thrown u73.1  (fun (r74 : Int32) => ((r74 = r53 → ((¬ r53 = 0 → (∀ i78 : Int32, i78 = v4 + 6 → k cpg cps u54.1 cnp cnq cns u54.2.1 u54.2.2.1 u54.2.2.2.1 crl cbx cxl cxr cyl cyh u54.2.2.2.2.1 cwt cpf cnr csl ccl chu cuu cpd cro crc u54.2.2.2.2.2 u73.1 mkd mkn mkp u73.2.1 u73.2.2.1 mku mkr mcn mxs mys mx2 my2 u73.2.2.2 mtl mpo mso mst mnr mco mrg mre i78)) ∧ (r53 = 0 → (vp_in 0 1 ∧ ((r72 = 0 → (((lg_cmp ((u54.2.2.2.2.2 (0 : Int32).toNatClampNeg)) 0) = 0 → (∀ i82 : Int32, i82 = v4 + 6 → k cpg cps u54.1 cnp cnq cns u54.2.1 u54.2.2.1 u54.2.2.2.1 crl cbx cxl cxr cyl cyh u54.2.2.2.2.1 cwt cpf cnr csl ccl chu cuu cpd cro crc u54.2.2.2.2.2 u73.1 mkd mkn mkp u73.2.1 u73.2.2.1 mku mkr mcn mxs mys mx2 my2 u73.2.2.2 mtl mpo mso mst mnr mco mrg mre i82)) ∧ (¬ ((lg_cmp ((u54.2.2.2.2.2 (0 : Int32).toNatClampNeg)) 0) = 0) → False))) ∧ (¬ (r72 = 0) → (((lg_cmp ((u54.2.2.2.2.2 (0 : Int32).toNatClampNeg)) 1) = 0 → (∀ i84 : Int32, i84 = v4 + 6 → k cpg cps u54.1 cnp cnq cns u54.2.1 u54.2.2.1 u54.2.2.2.1 crl cbx cxl cxr cyl cyh u54.2.2.2.2.1 cwt cpf cnr csl ccl chu cuu cpd cro crc u54.2.2.2.2.2 u73.1 mkd mkn mkp u73.2.1 u73.2.2.1 mku mkr mcn mxs mys mx2 my2 u73.2.2.2 mtl mpo mso mst mnr mco mrg mre i84)) ∧ (¬ ((lg_cmp ((u54.2.2.2.2.2 (0 : Int32).toNatClampNeg)) 1) = 0) → False)))))))) ∧ (¬ (r74 = r53) → False)))))))))))))) ∧ (¬ ((xs (v4 + 3).toNatClampNeg) = 0) → (wL_stitch cps cbx cnf cpo cpt crf cms ou ((xs (v4 + 1).toNatClampNeg)) ((xs (v4 + 2).toNatClampNeg)) 1 (fun (r85 : Int32) (u86 : Int32 × Int32 × Int32 × Int32 × (Nat → Int32) × (Nat → Int64)) => (vp_in ((v4 + 1)) L ∧ (vp_in ((v4 + 2)) L ∧ (vp_in ((v4 + 3)) L ∧ (((xs (v4 + 3).toNatClampNeg) = 0 → (wX5_stitch mkn mcn mkc mka mkt mmy ((xs (v4 + 1).toNatClampNeg)) ((xs (v4 + 2).toNatClampNeg)) 0 (fun (r91 : Int32) (u92 : Int32 × Int32 × Int32 × (Nat → Int32)) => (wX5_thrown u92.1  (fun (r93 : Int32) => ((r93 = r85 → ((¬ r85 = 0 → (∀ i97 : Int32, i97 = v4 + 6 → k cpg cps u86.1 cnp cnq cns u86.2.1 u86.2.2.1 u86.2.2.2.1 crl cbx cxl cxr cyl cyh u86.2.2.2.2.1 cwt cpf cnr csl ccl chu cuu cpd cro crc u86.2.2.2.2.2 u92.1 mkd mkn mkp u92.2.1 u92.2.2.1 mku mkr mcn mxs mys mx2 my2 u92.2.2.2 mtl mpo mso mst mnr mco mrg mre i97)) ∧ (r85 = 0 → (vp_in 0 1 ∧ ((r91 = 0 → (((lg_cmp ((u86.2.2.2.2.2 (0 : Int32).toNatClampNeg)) 0) = 0 → (∀ i101 : Int32, i101 = v4 + 6 → k cpg cps u86.1 cnp cnq cns u86.2.1 u86.2.2.1 u86.2.2.2.1 crl cbx cxl cxr cyl cyh u86.2.2.2.2.1 cwt cpf cnr csl ccl chu cuu cpd cro crc u86.2.2.2.2.2 u92.1 mkd mkn mkp u92.2.1 u92.2.2.1 mku mkr mcn mxs mys mx2 my2 u92.2.2.2 mtl mpo mso mst mnr mco mrg mre i101)) ∧ (¬ ((lg_cmp ((u86.2.2.2.2.2 (0 : Int32).toNatClampNeg)) 0) = 0) → False))) ∧ (¬ (r91 = 0) → (((lg_cmp ((u86.2.2.2.2.2 (0 : Int32).toNatClampNeg)) 1) = 0 → (∀ i103 : Int32, i103 = v4 + 6 → k cpg cps u86.1 cnp cnq cns u86.2.1 u86.2.2.1 u86.2.2.2.1 crl cbx cxl cxr cyl cyh u86.2.2.2.2.1 cwt cpf cnr csl ccl chu cuu cpd cro crc u86.2.2.2.2.2 u92.1 mkd mkn mkp u92.2.1 u92.2.2.1 mku mkr mcn mxs mys mx2 my2 u92.2.2.2 mtl mpo mso mst mnr mco mrg mre i103)) ∧ (¬ ((lg_cmp ((u86.2.2.2.2.2 (0 : Int32).toNatClampNeg)) 1) = 0) → False)))))))) ∧ (¬ (r93 = r85) → False))))))) ∧ (¬ ((xs (v4 + 3).toNatClampNeg) = 0) → (wX5_stitch mkn mcn mkc mka mkt mmy ((xs (v4 + 1).toNatClampNeg)) ((xs (v4 + 2).toNatClampNeg)) 1 (fun (r104 : Int32) (u105 : Int32 × Int32 × Int32 × (Nat → Int32)) => (wX5_thrown u105.1  (fun (r106 : Int32) => ((r106 = r85 → ((¬ r85 = 0 → (∀ i110 : Int32, i110 = v4 + 6 → k cpg cps u86.1 cnp cnq cns u86.2.1 u86.2.2.1 u86.2.2.2.1 crl cbx cxl cxr cyl cyh u86.2.2.2.2.1 cwt cpf cnr csl ccl chu cuu cpd cro crc u86.2.2.2.2.2 u105.1 mkd mkn mkp u105.2.1 u105.2.2.1 mku mkr mcn mxs mys mx2 my2 u105.2.2.2 mtl mpo mso mst mnr mco mrg mre i110)) ∧ (r85 = 0 → (vp_in 0 1 ∧ ((r104 = 0 → (((lg_cmp ((u86.2.2.2.2.2 (0 : Int32).toNatClampNeg)) 0) = 0 → (∀ i114 : Int32, i114 = v4 + 6 → k cpg cps u86.1 cnp cnq cns u86.2.1 u86.2.2.1 u86.2.2.2.1 crl cbx cxl cxr cyl cyh u86.2.2.2.2.1 cwt cpf cnr csl ccl chu cuu cpd cro crc u86.2.2.2.2.2 u105.1 mkd mkn mkp u105.2.1 u105.2.2.1 mku mkr mcn mxs mys mx2 my2 u105.2.2.2 mtl mpo mso mst mnr mco mrg mre i114)) ∧ (¬ ((lg_cmp ((u86.2.2.2.2.2 (0 : Int32).toNatClampNeg)) 0) = 0) → False))) ∧ (¬ (r104 = 0) → (((lg_cmp ((u86.2.2.2.2.2 (0 : Int32).toNatClampNeg)) 1) = 0 → (∀ i116 : Int32, i116 = v4 + 6 → k cpg cps u86.1 cnp cnq cns u86.2.1 u86.2.2.1 u86.2.2.2.1 crl cbx cxl cxr cyl cyh u86.2.2.2.2.1 cwt cpf cnr csl ccl chu cuu cpd cro crc u86.2.2.2.2.2 u105.1 mkd mkn mkp u105.2.1 u105.2.2.1 mku mkr mcn mxs mys mx2 my2 u105.2.2.2 mtl mpo mso mst mnr mco mrg mre i116)) ∧ (¬ ((lg_cmp ((u86.2.2.2.2.2 (0 : Int32).toNatClampNeg)) 1) = 0) → False)))))))) ∧ (¬ (r106 = r85) → False))))))))))))))))))
set_option maxHeartbeats 4000000 in
set_option maxRecDepth 100000 in
theorem mcs_324 {p : Program} {l : Launch} {e : Env} {s : State} {m : MethodId} {below : List Frame} {meth : Method} {c : Code} {b L : Nat} {xs : Nat → Int32} {dC : Nat → ClassId} {dI : Nat → Nat → Nat} {cI cJ cZ : ClassId} {q : Nat → Nat} (hlt : l.stackTraces = false) (C : LX p s m meth c b L xs dC dI cI cJ cZ q) (cells slots : Nat) (hc : cells + 2 ≤ 1075) (hs : slots + 12 ≤ 9480) {k : Int32 → Int32 → Int32 → Int32 → Int32 → Int32 → Int32 → Int32 → Int32 → Int32 → (Nat → Int32) → (Nat → Int32) → (Nat → Int32) → (Nat → Int32) → (Nat → Int32) → (Nat → Int32) → (Nat → Int32) → (Nat → Int32) → (Nat → Int64) → (Nat → Int32) → (Nat → Int32) → (Nat → Int32) → (Nat → Int32) → (Nat → Int64) → (Nat → Int32) → (Nat → Int64) → (Nat → Int64) → Int32 → Int32 → Int32 → Int32 → Int32 → Int32 → Int32 → Int32 → (Nat → Int32) → (Nat → Int32) → (Nat → Int32) → (Nat → Int32) → (Nat → Int32) → (Nat → Int32) → (Nat → Int32) → (Nat → Int32) → (Nat → Int32) → (Nat → Int32) → (Nat → Int64) → (Nat → Int32) → (Nat → Int32) → (Nat → Int64) → Int32 → Prop} (hk : ∀ (cpg : Int32) (cps : Int32) (cnf : Int32) (cnp : Int32) (cnq : Int32) (cns : Int32) (cpo : Int32) (cpt : Int32) (crf : Int32) (crl : Int32) (cbx : (Nat → Int32)) (cxl : (Nat → Int32)) (cxr : (Nat → Int32)) (cyl : (Nat → Int32)) (cyh : (Nat → Int32)) (cms : (Nat → Int32)) (cwt : (Nat → Int32)) (cpf : (Nat → Int32)) (cnr : (Nat → Int64)) (csl : (Nat → Int32)) (ccl : (Nat → Int32)) (chu : (Nat → Int32)) (cuu : (Nat → Int32)) (cpd : (Nat → Int64)) (cro : (Nat → Int32)) (crc : (Nat → Int64)) (ou : (Nat → Int64)) (mkc : Int32) (mkd : Int32) (mkn : Int32) (mkp : Int32) (mka : Int32) (mkt : Int32) (mku : Int32) (mkr : Int32) (mcn : (Nat → Int32)) (mxs : (Nat → Int32)) (mys : (Nat → Int32)) (mx2 : (Nat → Int32)) (my2 : (Nat → Int32)) (mmy : (Nat → Int32)) (mtl : (Nat → Int32)) (mpo : (Nat → Int32)) (mso : (Nat → Int32)) (mst : (Nat → Int32)) (mnr : (Nat → Int64)) (mco : (Nat → Int32)) (mrg : (Nat → Int32)) (mre : (Nat → Int64)) (v4 : Int32) (ls : Array Slot) (H : Heap) (locs : List Loc), k cpg cps cnf cnp cnq cns cpo cpt crf crl cbx cxl cxr cyl cyh cms cwt cpf cnr csl ccl chu cuu cpd cro crc ou mkc mkd mkn mkp mka mkt mku mkr mcn mxs mys mx2 my2 mmy mtl mpo mso mst mnr mco mrg mre v4 → lv_has ls 8 [(0, .ref b), (1, .ref (q 0)), (2, .ref (q 22)), (3, .ref (q 21)), (4, .int v4)] → va_P (dC, dI) vwCl (WL q cI cJ cZ cpg cps cnf cnp cnq cns cpo cpt crf crl cbx cxl cxr cyl cyh cms cwt cpf cnr csl ccl chu cuu cpd cro crc ou) H → va_P (dC, dI) vwCl (WM (fun z => q (22 + z)) cI cJ cZ mkc mkd mkn mkp mka mkt mku mkr mcn mxs mys mx2 my2 mmy mtl mpo mso mst mnr mco mrg mre) H → va_S (fun x => s.heap.size ≤ x) s.heap H locs → W p l e room_1 s m #[Value.ref b] below meth c H locs (cells + 2) (slots + 12) (lw_Z below #[Value.ref b] s) (F0 m 23 ls [])) : ∀ (cpg : Int32) (cps : Int32) (cnf : Int32) (cnp : Int32) (cnq : Int32) (cns : Int32) (cpo : Int32) (cpt : Int32) (crf : Int32) (crl : Int32) (cbx : (Nat → Int32)) (cxl : (Nat → Int32)) (cxr : (Nat → Int32)) (cyl : (Nat → Int32)) (cyh : (Nat → Int32)) (cms : (Nat → Int32)) (cwt : (Nat → Int32)) (cpf : (Nat → Int32)) (cnr : (Nat → Int64)) (csl : (Nat → Int32)) (ccl : (Nat → Int32)) (chu : (Nat → Int32)) (cuu : (Nat → Int32)) (cpd : (Nat → Int64)) (cro : (Nat → Int32)) (crc : (Nat → Int64)) (ou : (Nat → Int64)) (mkc : Int32) (mkd : Int32) (mkn : Int32) (mkp : Int32) (mka : Int32) (mkt : Int32) (mku : Int32) (mkr : Int32) (mcn : (Nat → Int32)) (mxs : (Nat → Int32)) (mys : (Nat → Int32)) (mx2 : (Nat → Int32)) (my2 : (Nat → Int32)) (mmy : (Nat → Int32)) (mtl : (Nat → Int32)) (mpo : (Nat → Int32)) (mso : (Nat → Int32)) (mst : (Nat → Int32)) (mnr : (Nat → Int64)) (mco : (Nat → Int32)) (mrg : (Nat → Int32)) (mre : (Nat → Int64)) (v4 : Int32) (ls : Array Slot) (H : Heap) (locs : List Loc), cs_324 L xs cpg cps cnf cnp cnq cns cpo cpt crf crl cbx cxl cxr cyl cyh cms cwt cpf cnr csl ccl chu cuu cpd cro crc ou mkc mkd mkn mkp mka mkt mku mkr mcn mxs mys mx2 my2 mmy mtl mpo mso mst mnr mco mrg mre v4 k → lv_has ls 8 [(0, .ref b), (1, .ref (q 0)), (2, .ref (q 22)), (3, .ref (q 21)), (4, .int v4)] → va_P (dC, dI) vwCl (WL q cI cJ cZ cpg cps cnf cnp cnq cns cpo cpt crf crl cbx cxl cxr cyl cyh cms cwt cpf cnr csl ccl chu cuu cpd cro crc ou) H → va_P (dC, dI) vwCl (WM (fun z => q (22 + z)) cI cJ cZ mkc mkd mkn mkp mka mkt mku mkr mcn mxs mys mx2 my2 mmy mtl mpo mso mst mnr mco mrg mre) H → va_S (fun x => s.heap.size ≤ x) s.heap H locs → W p l e room_1 s m #[Value.ref b] below meth c H locs cells slots (lw_Z below #[Value.ref b] s) (F0 m 324 ls []) := by
  obtain ⟨hx, hb, hml, hown, hts, hX, hbl, hK, ha, hq, hN, hE, hC⟩ := id C
  have hbA : ¬ (fun q : Nat => s.heap.size ≤ q) b := Nat.not_le.mpr hbl
  intro cpg cps cnf cnp cnq cns cpo cpt crf crl cbx cxl cxr cyl cyh cms cwt cpf cnr csl ccl chu cuu cpd cro crc ou mkc mkd mkn mkp mka mkt mku mkr mcn mxs mys mx2 my2 mmy mtl mpo mso mst mnr mco mrg mre v4 ls H locs h hl hP hM hS
  unfold cs_324 at h
  refine lv_aload_n hx hb dL_law_324 rfl (lv_at hl 1 rfl) ?_
  refine lv_aload_n hx hb dL_law_325 rfl (lv_at hl 0 rfl) ?_
  refine lv_iload hx hb dL_law_326 (lv_at hl 4 rfl) ?_
  refine lv_iconst (v := 1) hx hb dL_law_328 (by decide) ?_
  refine lv_iadd hx hb dL_law_329 ?_
  obtain ⟨b49, h⟩ := h
  refine va_sld hx hb hX hbl hbA hS b49 dL_law_330 ?_
  refine lv_aload_n hx hb dL_law_331 rfl (lv_at hl 0 rfl) ?_
  refine lv_iload hx hb dL_law_332 (lv_at hl 4 rfl) ?_
  refine lv_iconst (v := 2) hx hb dL_law_334 (by decide) ?_
  refine lv_iadd hx hb dL_law_335 ?_
  obtain ⟨b50, h⟩ := h
  refine va_sld hx hb hX hbl hbA hS b50 dL_law_336 ?_
  refine lv_aload_n hx hb dL_law_337 rfl (lv_at hl 0 rfl) ?_
  refine lv_iload hx hb dL_law_338 (lv_at hl 4 rfl) ?_
  refine lv_iconst (v := 3) hx hb dL_law_340 (by decide) ?_
  refine lv_iadd hx hb dL_law_341 ?_
  obtain ⟨b51, h⟩ := h
  refine va_sld hx hb hX hbl hbA hS b51 dL_law_342 ?_
  refine lv_if_eq (tgt := 350) hx hb dL_law_343 (by decide) (fun c52 => ?_) (fun c52 => ?_)
  · have h := h.1 c52
    refine lv_iconst (v := 0) hx hb dL_law_350 (by decide) ?_
    refine lv_aload_n hx hb dL_law_351 rfl (lv_at hl 3 rfl) ?_
    refine ga_i (vx_runSX (As := [.ref (q 0), .int (xs (v4 + 1).toNatClampNeg), .int (xs (v4 + 2).toNatClampNeg), .int 0, .ref (q 21)]) (rest := []) ⟨hx, hb, hml, hown, hts⟩ (ktL_stitch l hlt dC dI q cI cJ cZ H.size cpg cps cnf cnp cnq cns cpo cpt crf crl cbx cxl cxr cyl cyh cms cwt cpf cnr csl ccl chu cuu cpd cro crc ou ((xs (v4 + 1).toNatClampNeg)) ((xs (v4 + 2).toNatClampNeg)) 0 h) (vx_cwSW 5 hts gL_law_L_stitch rfl rfl rfl (by decide +kernel) ⟨Nat.le_of_ble_eq_true rfl, Nat.le_of_ble_eq_true rfl⟩) ⟨wl.blind, fun U hU hW => ⟨rfl, ⟨wd.at hP hK (fun i j hi hj => ha i j (by omega) (by omega)) hN hU hW, hE.at hS hU hW (fun x hx9 => AF_AL (i0 := 0) (n := 22) hq (by omega) hS.1 x (by simpa using hx9))⟩, hC.moved hW.alike⟩⟩ rfl rfl hl.1 rfl (lv_room (Nat.le_of_ble_eq_true rfl)) dL_law_352 ⟨show _ ≤ 1075 by omega, show _ ≤ 9480 by omega⟩) hS ha hq rfl hM (fun r53 u54 H locs h hP hM hS => ?_)
    have hP : va_P (dC, dI) vwCl (WL q cI cJ cZ cpg cps u54.1 cnp cnq cns u54.2.1 u54.2.2.1 u54.2.2.2.1 crl cbx cxl cxr cyl cyh u54.2.2.2.2.1 cwt cpf cnr csl ccl chu cuu cpd cro crc u54.2.2.2.2.2) H := hP
    have hM : va_P (dC, dI) vwCl (WM (fun z => q (22 + z)) cI cJ cZ mkc mkd mkn mkp mka mkt mku mkr mcn mxs mys mx2 my2 mmy mtl mpo mso mst mnr mco mrg mre) H := hM
    refine lv_istore (lv' := [(5, .int r53), (0, .ref b), (1, .ref (q 0)), (2, .ref (q 22)), (3, .ref (q 21)), (4, .int v4)]) hx hb dL_law_355 hl (by decide) rfl (fun ls hl => ?_)
    refine lv_aload_n hx hb dL_law_357 rfl (lv_at hl 3 rfl) ?_
    refine lv_aload_n hx hb dL_law_358 rfl (lv_at hl 1 rfl) ?_
    refine lv_iload hx hb dL_law_359 (lv_at hl 5 rfl) ?_
    refine lv_iconst (v := 1) hx hb dL_law_361 (by decide) ?_
    refine lv_iadd hx hb dL_law_362 ?_
    obtain ⟨b55, h⟩ := h
    refine va_sld hx hb hX hbl hbA hS b55 dL_law_363 ?_
    refine lv_aload_n hx hb dL_law_364 rfl (lv_at hl 1 rfl) ?_
    refine lv_iload hx hb dL_law_365 (lv_at hl 5 rfl) ?_
    refine lv_iconst (v := 2) hx hb dL_law_367 (by decide) ?_
    refine lv_iadd hx hb dL_law_368 ?_
    obtain ⟨b56, h⟩ := h
    refine va_sld hx hb hX hbl hbA hS b56 dL_law_369 ?_
    refine lv_aload_n hx hb dL_law_370 rfl (lv_at hl 1 rfl) ?_
    refine lv_iload hx hb dL_law_371 (lv_at hl 5 rfl) ?_
    refine lv_iconst (v := 3) hx hb dL_law_373 (by decide) ?_
    refine lv_iadd hx hb dL_law_374 ?_
    obtain ⟨b57, h⟩ := h
    refine va_sld hx hb hX hbl hbA hS b57 dL_law_375 ?_
    refine lv_if_eq (tgt := 383) hx hb dL_law_376 (by decide) (fun c58 => ?_) (fun c58 => ?_)
    · have h := h.1 c58
      refine lv_iconst (v := 0) hx hb dL_law_383 (by decide) ?_
      refine gc_i (va_runV (As := [.int (xs (v4 + 1).toNatClampNeg), .int (xs (v4 + 2).toNatClampNeg), .int 0]) (rest := []) ⟨hx, hb, hml, hown, hts⟩ (ktX5_stitch l dC dI (fun z => q (22 + z)) cI cJ cZ H.size mkc mkd mkn mkp mka mkt mku mkr mcn mxs mys mx2 my2 mmy mtl mpo mso mst mnr mco mrg mre ((xs (v4 + 1).toNatClampNeg)) ((xs (v4 + 2).toNatClampNeg)) 0 h) (cwV 3 hts gL_law_X5_stitch rfl rfl rfl (by decide +kernel) ⟨Nat.le_of_ble_eq_true rfl, Nat.le_of_ble_eq_true rfl⟩) ⟨wd.blind, va_recv hK hM (ci := 5) (q0 := 0) rfl rfl, fun U hU hW => ⟨rfl, wd.at hM hK (fun i j hi hj e9 => Nat.add_left_cancel (ha (22 + i) (22 + j) (by omega) (by omega) e9)) hN hU hW⟩⟩ rfl rfl hl.1 rfl (lv_room (Nat.le_of_ble_eq_true rfl)) dL_law_384 ⟨show _ ≤ 1075 by omega, show _ ≤ 9480 by omega⟩) hS ha hq rfl hP (fun r59 u60 H locs h hP hM hS => ?_)
      have hP : va_P (dC, dI) vwCl (WL q cI cJ cZ cpg cps u54.1 cnp cnq cns u54.2.1 u54.2.2.1 u54.2.2.2.1 crl cbx cxl cxr cyl cyh u54.2.2.2.2.1 cwt cpf cnr csl ccl chu cuu cpd cro crc u54.2.2.2.2.2) H := hP
      have hM : va_P (dC, dI) vwCl (WM (fun z => q (22 + z)) cI cJ cZ u60.1 mkd mkn mkp u60.2.1 u60.2.2.1 mku mkr mcn mxs mys mx2 my2 u60.2.2.2 mtl mpo mso mst mnr mco mrg mre) H := hM
      refine lv_istore (lv' := [(6, .int r59), (5, .int r53), (0, .ref b), (1, .ref (q 0)), (2, .ref (q 22)), (3, .ref (q 21)), (4, .int v4)]) hx hb dL_law_387 hl (by decide) rfl (fun ls hl => ?_)
      refine lv_aload_n hx hb dL_law_389 rfl (lv_at hl 4 rfl) ?_
      refine gc_i (va_runV (As := []) (rest := []) ⟨hx, hb, hml, hown, hts⟩ (ktX5_thrown l dC dI (fun z => q (22 + z)) cI cJ cZ H.size u60.1 mkd mkn mkp u60.2.1 u60.2.2.1 mku mkr mcn mxs mys mx2 my2 u60.2.2.2 mtl mpo mso mst mnr mco mrg mre  h) (cwV 0 hts gL_law_X5_thrown rfl rfl rfl (by decide +kernel) ⟨Nat.le_of_ble_eq_true rfl, Nat.le_of_ble_eq_true rfl⟩) ⟨wd.blind, va_recv hK hM (ci := 5) (q0 := 0) rfl rfl, fun U hU hW => ⟨rfl, wd.at hM hK (fun i j hi hj e9 => Nat.add_left_cancel (ha (22 + i) (22 + j) (by omega) (by omega) e9)) hN hU hW⟩⟩ rfl rfl hl.1 rfl (lv_room (Nat.le_of_ble_eq_true rfl)) dL_law_390 ⟨show _ ≤ 1075 by omega, show _ ≤ 9480 by omega⟩) hS ha hq rfl hP (fun r61 _ H locs h hP hM hS => ?_)
      have hP : va_P (dC, dI) vwCl (WL q cI cJ cZ cpg cps u54.1 cnp cnq cns u54.2.1 u54.2.2.1 u54.2.2.2.1 crl cbx cxl cxr cyl cyh u54.2.2.2.2.1 cwt cpf cnr csl ccl chu cuu cpd cro crc u54.2.2.2.2.2) H := hP
      have hM : va_P (dC, dI) vwCl (WM (fun z => q (22 + z)) cI cJ cZ u60.1 mkd mkn mkp u60.2.1 u60.2.2.1 mku mkr mcn mxs mys mx2 my2 u60.2.2.2 mtl mpo mso mst mnr mco mrg mre) H := hM
      refine lv_iload hx hb dL_law_393 (lv_at hl 1 rfl) ?_
      refine lv_icmp_eq (tgt := 400) hx hb dL_law_395 (by decide) (fun c63 => ?_) (fun c63 => ?_)
      · have h := h.1 c63
        refine lv_iload hx hb dL_law_400 (lv_at hl 1 rfl) ?_
        refine lv_if_ne (tgt := 424) hx hb dL_law_402 (by decide) (fun c64 => ?_) (fun c64 => ?_)
        · have h := h.1 c64
          refine lv_goto (tgt := 998) hx hb dL_law_424 (by decide) ?_
          obtain ⟨i65, ei65⟩ : ∃ y : Int32, y = v4 + 6 := ⟨_, rfl⟩
          refine lv_iinc (v := i65) (lv' := [(4, .int i65), (6, .int r59), (5, .int r53), (0, .ref b), (1, .ref (q 0)), (2, .ref (q 22)), (3, .ref (q 21))]) hx hb dL_law_998 hl (k := 6) rfl (by rw [ei65]; rfl) (by decide) rfl (fun ls hl => ?_)
          have h := h i65 ei65
          refine lv_goto (tgt := 23) hx hb dL_law_1001 (by decide) ?_
          refine W.widen (k := cells + 2) (n := slots + 12) (by omega) (by omega) ?_
          exact hk cpg cps u54.1 cnp cnq cns u54.2.1 u54.2.2.1 u54.2.2.2.1 crl cbx cxl cxr cyl cyh u54.2.2.2.2.1 cwt cpf cnr csl ccl chu cuu cpd cro crc u54.2.2.2.2.2 u60.1 mkd mkn mkp u60.2.1 u60.2.2.1 mku mkr mcn mxs mys mx2 my2 u60.2.2.2 mtl mpo mso mst mnr mco mrg mre i65 ls H locs h (lv_sub hl [3, 4, 5, 6, 0] rfl) hP hM hS
        · have h := h.2 c64
          refine lv_aload_n hx hb dL_law_405 rfl (lv_at hl 5 rfl) ?_
          refine lv_iconst (v := 0) hx hb dL_law_406 (by decide) ?_
          obtain ⟨b66, h⟩ := h
          refine va_lald (D := (dC, dI)) hx hb hK hP 21 1 rfl rfl b66 dL_law_407 ?_
          refine lv_iload hx hb dL_law_408 (lv_at hl 0 rfl) ?_
          refine lv_if_eq (tgt := 417) hx hb dL_law_410 (by decide) (fun c67 => ?_) (fun c67 => ?_)
          · have h := h.1 c67
            refine lv_lconst (v := 0) hx hb dL_law_417 (by decide) ?_
            refine W.lcmp hx hb dL_law_418 ?_
            refine lv_if_eq (tgt := 424) hx hb dL_law_419 (by decide) (fun c68 => ?_) (fun c68 => ?_)
            · have h := h.1 c68
              refine lv_goto (tgt := 998) hx hb dL_law_424 (by decide) ?_
              obtain ⟨i69, ei69⟩ : ∃ y : Int32, y = v4 + 6 := ⟨_, rfl⟩
              refine lv_iinc (v := i69) (lv' := [(4, .int i69), (6, .int r59), (5, .int r53), (0, .ref b), (1, .ref (q 0)), (2, .ref (q 22)), (3, .ref (q 21))]) hx hb dL_law_998 hl (k := 6) rfl (by rw [ei69]; rfl) (by decide) rfl (fun ls hl => ?_)
              have h := h i69 ei69
              refine lv_goto (tgt := 23) hx hb dL_law_1001 (by decide) ?_
              refine W.widen (k := cells + 2) (n := slots + 12) (by omega) (by omega) ?_
              exact hk cpg cps u54.1 cnp cnq cns u54.2.1 u54.2.2.1 u54.2.2.2.1 crl cbx cxl cxr cyl cyh u54.2.2.2.2.1 cwt cpf cnr csl ccl chu cuu cpd cro crc u54.2.2.2.2.2 u60.1 mkd mkn mkp u60.2.1 u60.2.2.1 mku mkr mcn mxs mys mx2 my2 u60.2.2.2 mtl mpo mso mst mnr mco mrg mre i69 ls H locs h (lv_sub hl [3, 4, 5, 6, 0] rfl) hP hM hS
            · have h := h.2 c68
              exact (h : False).elim
          · have h := h.2 c67
            refine lv_lconst (v := 1) hx hb dL_law_413 (by decide) ?_
            refine lv_goto (tgt := 418) hx hb dL_law_414 (by decide) ?_
            refine W.lcmp hx hb dL_law_418 ?_
            refine lv_if_eq (tgt := 424) hx hb dL_law_419 (by decide) (fun c70 => ?_) (fun c70 => ?_)
            · have h := h.1 c70
              refine lv_goto (tgt := 998) hx hb dL_law_424 (by decide) ?_
              obtain ⟨i71, ei71⟩ : ∃ y : Int32, y = v4 + 6 := ⟨_, rfl⟩
              refine lv_iinc (v := i71) (lv' := [(4, .int i71), (6, .int r59), (5, .int r53), (0, .ref b), (1, .ref (q 0)), (2, .ref (q 22)), (3, .ref (q 21))]) hx hb dL_law_998 hl (k := 6) rfl (by rw [ei71]; rfl) (by decide) rfl (fun ls hl => ?_)
              have h := h i71 ei71
              refine lv_goto (tgt := 23) hx hb dL_law_1001 (by decide) ?_
              refine W.widen (k := cells + 2) (n := slots + 12) (by omega) (by omega) ?_
              exact hk cpg cps u54.1 cnp cnq cns u54.2.1 u54.2.2.1 u54.2.2.2.1 crl cbx cxl cxr cyl cyh u54.2.2.2.2.1 cwt cpf cnr csl ccl chu cuu cpd cro crc u54.2.2.2.2.2 u60.1 mkd mkn mkp u60.2.1 u60.2.2.1 mku mkr mcn mxs mys mx2 my2 u60.2.2.2 mtl mpo mso mst mnr mco mrg mre i71 ls H locs h (lv_sub hl [3, 4, 5, 6, 0] rfl) hP hM hS
            · have h := h.2 c70
              exact (h : False).elim
      · have h := h.2 c63
        exact (h : False).elim
    · have h := h.2 c58
      refine lv_iconst (v := 1) hx hb dL_law_379 (by decide) ?_
      refine lv_goto (tgt := 384) hx hb dL_law_380 (by decide) ?_
      refine gc_i (va_runV (As := [.int (xs (v4 + 1).toNatClampNeg), .int (xs (v4 + 2).toNatClampNeg), .int 1]) (rest := []) ⟨hx, hb, hml, hown, hts⟩ (ktX5_stitch l dC dI (fun z => q (22 + z)) cI cJ cZ H.size mkc mkd mkn mkp mka mkt mku mkr mcn mxs mys mx2 my2 mmy mtl mpo mso mst mnr mco mrg mre ((xs (v4 + 1).toNatClampNeg)) ((xs (v4 + 2).toNatClampNeg)) 1 h) (cwV 3 hts gL_law_X5_stitch rfl rfl rfl (by decide +kernel) ⟨Nat.le_of_ble_eq_true rfl, Nat.le_of_ble_eq_true rfl⟩) ⟨wd.blind, va_recv hK hM (ci := 5) (q0 := 0) rfl rfl, fun U hU hW => ⟨rfl, wd.at hM hK (fun i j hi hj e9 => Nat.add_left_cancel (ha (22 + i) (22 + j) (by omega) (by omega) e9)) hN hU hW⟩⟩ rfl rfl hl.1 rfl (lv_room (Nat.le_of_ble_eq_true rfl)) dL_law_384 ⟨show _ ≤ 1075 by omega, show _ ≤ 9480 by omega⟩) hS ha hq rfl hP (fun r72 u73 H locs h hP hM hS => ?_)
      have hP : va_P (dC, dI) vwCl (WL q cI cJ cZ cpg cps u54.1 cnp cnq cns u54.2.1 u54.2.2.1 u54.2.2.2.1 crl cbx cxl cxr cyl cyh u54.2.2.2.2.1 cwt cpf cnr csl ccl chu cuu cpd cro crc u54.2.2.2.2.2) H := hP
      have hM : va_P (dC, dI) vwCl (WM (fun z => q (22 + z)) cI cJ cZ u73.1 mkd mkn mkp u73.2.1 u73.2.2.1 mku mkr mcn mxs mys mx2 my2 u73.2.2.2 mtl mpo mso mst mnr mco mrg mre) H := hM
      refine lv_istore (lv' := [(6, .int r72), (5, .int r53), (0, .ref b), (1, .ref (q 0)), (2, .ref (q 22)), (3, .ref (q 21)), (4, .int v4)]) hx hb dL_law_387 hl (by decide) rfl (fun ls hl => ?_)
      refine lv_aload_n hx hb dL_law_389 rfl (lv_at hl 4 rfl) ?_
      refine gc_i (va_runV (As := []) (rest := []) ⟨hx, hb, hml, hown, hts⟩ (ktX5_thrown l dC dI (fun z => q (22 + z)) cI cJ cZ H.size u73.1 mkd mkn mkp u73.2.1 u73.2.2.1 mku mkr mcn mxs mys mx2 my2 u73.2.2.2 mtl mpo mso mst mnr mco mrg mre  h) (cwV 0 hts gL_law_X5_thrown rfl rfl rfl (by decide +kernel) ⟨Nat.le_of_ble_eq_true rfl, Nat.le_of_ble_eq_true rfl⟩) ⟨wd.blind, va_recv hK hM (ci := 5) (q0 := 0) rfl rfl, fun U hU hW => ⟨rfl, wd.at hM hK (fun i j hi hj e9 => Nat.add_left_cancel (ha (22 + i) (22 + j) (by omega) (by omega) e9)) hN hU hW⟩⟩ rfl rfl hl.1 rfl (lv_room (Nat.le_of_ble_eq_true rfl)) dL_law_390 ⟨show _ ≤ 1075 by omega, show _ ≤ 9480 by omega⟩) hS ha hq rfl hP (fun r74 _ H locs h hP hM hS => ?_)
      have hP : va_P (dC, dI) vwCl (WL q cI cJ cZ cpg cps u54.1 cnp cnq cns u54.2.1 u54.2.2.1 u54.2.2.2.1 crl cbx cxl cxr cyl cyh u54.2.2.2.2.1 cwt cpf cnr csl ccl chu cuu cpd cro crc u54.2.2.2.2.2) H := hP
      have hM : va_P (dC, dI) vwCl (WM (fun z => q (22 + z)) cI cJ cZ u73.1 mkd mkn mkp u73.2.1 u73.2.2.1 mku mkr mcn mxs mys mx2 my2 u73.2.2.2 mtl mpo mso mst mnr mco mrg mre) H := hM
      refine lv_iload hx hb dL_law_393 (lv_at hl 1 rfl) ?_
      refine lv_icmp_eq (tgt := 400) hx hb dL_law_395 (by decide) (fun c76 => ?_) (fun c76 => ?_)
      · have h := h.1 c76
        refine lv_iload hx hb dL_law_400 (lv_at hl 1 rfl) ?_
        refine lv_if_ne (tgt := 424) hx hb dL_law_402 (by decide) (fun c77 => ?_) (fun c77 => ?_)
        · have h := h.1 c77
          refine lv_goto (tgt := 998) hx hb dL_law_424 (by decide) ?_
          obtain ⟨i78, ei78⟩ : ∃ y : Int32, y = v4 + 6 := ⟨_, rfl⟩
          refine lv_iinc (v := i78) (lv' := [(4, .int i78), (6, .int r72), (5, .int r53), (0, .ref b), (1, .ref (q 0)), (2, .ref (q 22)), (3, .ref (q 21))]) hx hb dL_law_998 hl (k := 6) rfl (by rw [ei78]; rfl) (by decide) rfl (fun ls hl => ?_)
          have h := h i78 ei78
          refine lv_goto (tgt := 23) hx hb dL_law_1001 (by decide) ?_
          refine W.widen (k := cells + 2) (n := slots + 12) (by omega) (by omega) ?_
          exact hk cpg cps u54.1 cnp cnq cns u54.2.1 u54.2.2.1 u54.2.2.2.1 crl cbx cxl cxr cyl cyh u54.2.2.2.2.1 cwt cpf cnr csl ccl chu cuu cpd cro crc u54.2.2.2.2.2 u73.1 mkd mkn mkp u73.2.1 u73.2.2.1 mku mkr mcn mxs mys mx2 my2 u73.2.2.2 mtl mpo mso mst mnr mco mrg mre i78 ls H locs h (lv_sub hl [3, 4, 5, 6, 0] rfl) hP hM hS
        · have h := h.2 c77
          refine lv_aload_n hx hb dL_law_405 rfl (lv_at hl 5 rfl) ?_
          refine lv_iconst (v := 0) hx hb dL_law_406 (by decide) ?_
          obtain ⟨b79, h⟩ := h
          refine va_lald (D := (dC, dI)) hx hb hK hP 21 1 rfl rfl b79 dL_law_407 ?_
          refine lv_iload hx hb dL_law_408 (lv_at hl 0 rfl) ?_
          refine lv_if_eq (tgt := 417) hx hb dL_law_410 (by decide) (fun c80 => ?_) (fun c80 => ?_)
          · have h := h.1 c80
            refine lv_lconst (v := 0) hx hb dL_law_417 (by decide) ?_
            refine W.lcmp hx hb dL_law_418 ?_
            refine lv_if_eq (tgt := 424) hx hb dL_law_419 (by decide) (fun c81 => ?_) (fun c81 => ?_)
            · have h := h.1 c81
              refine lv_goto (tgt := 998) hx hb dL_law_424 (by decide) ?_
              obtain ⟨i82, ei82⟩ : ∃ y : Int32, y = v4 + 6 := ⟨_, rfl⟩
              refine lv_iinc (v := i82) (lv' := [(4, .int i82), (6, .int r72), (5, .int r53), (0, .ref b), (1, .ref (q 0)), (2, .ref (q 22)), (3, .ref (q 21))]) hx hb dL_law_998 hl (k := 6) rfl (by rw [ei82]; rfl) (by decide) rfl (fun ls hl => ?_)
              have h := h i82 ei82
              refine lv_goto (tgt := 23) hx hb dL_law_1001 (by decide) ?_
              refine W.widen (k := cells + 2) (n := slots + 12) (by omega) (by omega) ?_
              exact hk cpg cps u54.1 cnp cnq cns u54.2.1 u54.2.2.1 u54.2.2.2.1 crl cbx cxl cxr cyl cyh u54.2.2.2.2.1 cwt cpf cnr csl ccl chu cuu cpd cro crc u54.2.2.2.2.2 u73.1 mkd mkn mkp u73.2.1 u73.2.2.1 mku mkr mcn mxs mys mx2 my2 u73.2.2.2 mtl mpo mso mst mnr mco mrg mre i82 ls H locs h (lv_sub hl [3, 4, 5, 6, 0] rfl) hP hM hS
            · have h := h.2 c81
              exact (h : False).elim
          · have h := h.2 c80
            refine lv_lconst (v := 1) hx hb dL_law_413 (by decide) ?_
            refine lv_goto (tgt := 418) hx hb dL_law_414 (by decide) ?_
            refine W.lcmp hx hb dL_law_418 ?_
            refine lv_if_eq (tgt := 424) hx hb dL_law_419 (by decide) (fun c83 => ?_) (fun c83 => ?_)
            · have h := h.1 c83
              refine lv_goto (tgt := 998) hx hb dL_law_424 (by decide) ?_
              obtain ⟨i84, ei84⟩ : ∃ y : Int32, y = v4 + 6 := ⟨_, rfl⟩
              refine lv_iinc (v := i84) (lv' := [(4, .int i84), (6, .int r72), (5, .int r53), (0, .ref b), (1, .ref (q 0)), (2, .ref (q 22)), (3, .ref (q 21))]) hx hb dL_law_998 hl (k := 6) rfl (by rw [ei84]; rfl) (by decide) rfl (fun ls hl => ?_)
              have h := h i84 ei84
              refine lv_goto (tgt := 23) hx hb dL_law_1001 (by decide) ?_
              refine W.widen (k := cells + 2) (n := slots + 12) (by omega) (by omega) ?_
              exact hk cpg cps u54.1 cnp cnq cns u54.2.1 u54.2.2.1 u54.2.2.2.1 crl cbx cxl cxr cyl cyh u54.2.2.2.2.1 cwt cpf cnr csl ccl chu cuu cpd cro crc u54.2.2.2.2.2 u73.1 mkd mkn mkp u73.2.1 u73.2.2.1 mku mkr mcn mxs mys mx2 my2 u73.2.2.2 mtl mpo mso mst mnr mco mrg mre i84 ls H locs h (lv_sub hl [3, 4, 5, 6, 0] rfl) hP hM hS
            · have h := h.2 c83
              exact (h : False).elim
      · have h := h.2 c76
        exact (h : False).elim
  · have h := h.2 c52
    refine lv_iconst (v := 1) hx hb dL_law_346 (by decide) ?_
    refine lv_goto (tgt := 351) hx hb dL_law_347 (by decide) ?_
    refine lv_aload_n hx hb dL_law_351 rfl (lv_at hl 3 rfl) ?_
    refine ga_i (vx_runSX (As := [.ref (q 0), .int (xs (v4 + 1).toNatClampNeg), .int (xs (v4 + 2).toNatClampNeg), .int 1, .ref (q 21)]) (rest := []) ⟨hx, hb, hml, hown, hts⟩ (ktL_stitch l hlt dC dI q cI cJ cZ H.size cpg cps cnf cnp cnq cns cpo cpt crf crl cbx cxl cxr cyl cyh cms cwt cpf cnr csl ccl chu cuu cpd cro crc ou ((xs (v4 + 1).toNatClampNeg)) ((xs (v4 + 2).toNatClampNeg)) 1 h) (vx_cwSW 5 hts gL_law_L_stitch rfl rfl rfl (by decide +kernel) ⟨Nat.le_of_ble_eq_true rfl, Nat.le_of_ble_eq_true rfl⟩) ⟨wl.blind, fun U hU hW => ⟨rfl, ⟨wd.at hP hK (fun i j hi hj => ha i j (by omega) (by omega)) hN hU hW, hE.at hS hU hW (fun x hx9 => AF_AL (i0 := 0) (n := 22) hq (by omega) hS.1 x (by simpa using hx9))⟩, hC.moved hW.alike⟩⟩ rfl rfl hl.1 rfl (lv_room (Nat.le_of_ble_eq_true rfl)) dL_law_352 ⟨show _ ≤ 1075 by omega, show _ ≤ 9480 by omega⟩) hS ha hq rfl hM (fun r85 u86 H locs h hP hM hS => ?_)
    have hP : va_P (dC, dI) vwCl (WL q cI cJ cZ cpg cps u86.1 cnp cnq cns u86.2.1 u86.2.2.1 u86.2.2.2.1 crl cbx cxl cxr cyl cyh u86.2.2.2.2.1 cwt cpf cnr csl ccl chu cuu cpd cro crc u86.2.2.2.2.2) H := hP
    have hM : va_P (dC, dI) vwCl (WM (fun z => q (22 + z)) cI cJ cZ mkc mkd mkn mkp mka mkt mku mkr mcn mxs mys mx2 my2 mmy mtl mpo mso mst mnr mco mrg mre) H := hM
    refine lv_istore (lv' := [(5, .int r85), (0, .ref b), (1, .ref (q 0)), (2, .ref (q 22)), (3, .ref (q 21)), (4, .int v4)]) hx hb dL_law_355 hl (by decide) rfl (fun ls hl => ?_)
    refine lv_aload_n hx hb dL_law_357 rfl (lv_at hl 3 rfl) ?_
    refine lv_aload_n hx hb dL_law_358 rfl (lv_at hl 1 rfl) ?_
    refine lv_iload hx hb dL_law_359 (lv_at hl 5 rfl) ?_
    refine lv_iconst (v := 1) hx hb dL_law_361 (by decide) ?_
    refine lv_iadd hx hb dL_law_362 ?_
    obtain ⟨b87, h⟩ := h
    refine va_sld hx hb hX hbl hbA hS b87 dL_law_363 ?_
    refine lv_aload_n hx hb dL_law_364 rfl (lv_at hl 1 rfl) ?_
    refine lv_iload hx hb dL_law_365 (lv_at hl 5 rfl) ?_
    refine lv_iconst (v := 2) hx hb dL_law_367 (by decide) ?_
    refine lv_iadd hx hb dL_law_368 ?_
    obtain ⟨b88, h⟩ := h
    refine va_sld hx hb hX hbl hbA hS b88 dL_law_369 ?_
    refine lv_aload_n hx hb dL_law_370 rfl (lv_at hl 1 rfl) ?_
    refine lv_iload hx hb dL_law_371 (lv_at hl 5 rfl) ?_
    refine lv_iconst (v := 3) hx hb dL_law_373 (by decide) ?_
    refine lv_iadd hx hb dL_law_374 ?_
    obtain ⟨b89, h⟩ := h
    refine va_sld hx hb hX hbl hbA hS b89 dL_law_375 ?_
    refine lv_if_eq (tgt := 383) hx hb dL_law_376 (by decide) (fun c90 => ?_) (fun c90 => ?_)
    · have h := h.1 c90
      refine lv_iconst (v := 0) hx hb dL_law_383 (by decide) ?_
      refine gc_i (va_runV (As := [.int (xs (v4 + 1).toNatClampNeg), .int (xs (v4 + 2).toNatClampNeg), .int 0]) (rest := []) ⟨hx, hb, hml, hown, hts⟩ (ktX5_stitch l dC dI (fun z => q (22 + z)) cI cJ cZ H.size mkc mkd mkn mkp mka mkt mku mkr mcn mxs mys mx2 my2 mmy mtl mpo mso mst mnr mco mrg mre ((xs (v4 + 1).toNatClampNeg)) ((xs (v4 + 2).toNatClampNeg)) 0 h) (cwV 3 hts gL_law_X5_stitch rfl rfl rfl (by decide +kernel) ⟨Nat.le_of_ble_eq_true rfl, Nat.le_of_ble_eq_true rfl⟩) ⟨wd.blind, va_recv hK hM (ci := 5) (q0 := 0) rfl rfl, fun U hU hW => ⟨rfl, wd.at hM hK (fun i j hi hj e9 => Nat.add_left_cancel (ha (22 + i) (22 + j) (by omega) (by omega) e9)) hN hU hW⟩⟩ rfl rfl hl.1 rfl (lv_room (Nat.le_of_ble_eq_true rfl)) dL_law_384 ⟨show _ ≤ 1075 by omega, show _ ≤ 9480 by omega⟩) hS ha hq rfl hP (fun r91 u92 H locs h hP hM hS => ?_)
      have hP : va_P (dC, dI) vwCl (WL q cI cJ cZ cpg cps u86.1 cnp cnq cns u86.2.1 u86.2.2.1 u86.2.2.2.1 crl cbx cxl cxr cyl cyh u86.2.2.2.2.1 cwt cpf cnr csl ccl chu cuu cpd cro crc u86.2.2.2.2.2) H := hP
      have hM : va_P (dC, dI) vwCl (WM (fun z => q (22 + z)) cI cJ cZ u92.1 mkd mkn mkp u92.2.1 u92.2.2.1 mku mkr mcn mxs mys mx2 my2 u92.2.2.2 mtl mpo mso mst mnr mco mrg mre) H := hM
      refine lv_istore (lv' := [(6, .int r91), (5, .int r85), (0, .ref b), (1, .ref (q 0)), (2, .ref (q 22)), (3, .ref (q 21)), (4, .int v4)]) hx hb dL_law_387 hl (by decide) rfl (fun ls hl => ?_)
      refine lv_aload_n hx hb dL_law_389 rfl (lv_at hl 4 rfl) ?_
      refine gc_i (va_runV (As := []) (rest := []) ⟨hx, hb, hml, hown, hts⟩ (ktX5_thrown l dC dI (fun z => q (22 + z)) cI cJ cZ H.size u92.1 mkd mkn mkp u92.2.1 u92.2.2.1 mku mkr mcn mxs mys mx2 my2 u92.2.2.2 mtl mpo mso mst mnr mco mrg mre  h) (cwV 0 hts gL_law_X5_thrown rfl rfl rfl (by decide +kernel) ⟨Nat.le_of_ble_eq_true rfl, Nat.le_of_ble_eq_true rfl⟩) ⟨wd.blind, va_recv hK hM (ci := 5) (q0 := 0) rfl rfl, fun U hU hW => ⟨rfl, wd.at hM hK (fun i j hi hj e9 => Nat.add_left_cancel (ha (22 + i) (22 + j) (by omega) (by omega) e9)) hN hU hW⟩⟩ rfl rfl hl.1 rfl (lv_room (Nat.le_of_ble_eq_true rfl)) dL_law_390 ⟨show _ ≤ 1075 by omega, show _ ≤ 9480 by omega⟩) hS ha hq rfl hP (fun r93 _ H locs h hP hM hS => ?_)
      have hP : va_P (dC, dI) vwCl (WL q cI cJ cZ cpg cps u86.1 cnp cnq cns u86.2.1 u86.2.2.1 u86.2.2.2.1 crl cbx cxl cxr cyl cyh u86.2.2.2.2.1 cwt cpf cnr csl ccl chu cuu cpd cro crc u86.2.2.2.2.2) H := hP
      have hM : va_P (dC, dI) vwCl (WM (fun z => q (22 + z)) cI cJ cZ u92.1 mkd mkn mkp u92.2.1 u92.2.2.1 mku mkr mcn mxs mys mx2 my2 u92.2.2.2 mtl mpo mso mst mnr mco mrg mre) H := hM
      refine lv_iload hx hb dL_law_393 (lv_at hl 1 rfl) ?_
      refine lv_icmp_eq (tgt := 400) hx hb dL_law_395 (by decide) (fun c95 => ?_) (fun c95 => ?_)
      · have h := h.1 c95
        refine lv_iload hx hb dL_law_400 (lv_at hl 1 rfl) ?_
        refine lv_if_ne (tgt := 424) hx hb dL_law_402 (by decide) (fun c96 => ?_) (fun c96 => ?_)
        · have h := h.1 c96
          refine lv_goto (tgt := 998) hx hb dL_law_424 (by decide) ?_
          obtain ⟨i97, ei97⟩ : ∃ y : Int32, y = v4 + 6 := ⟨_, rfl⟩
          refine lv_iinc (v := i97) (lv' := [(4, .int i97), (6, .int r91), (5, .int r85), (0, .ref b), (1, .ref (q 0)), (2, .ref (q 22)), (3, .ref (q 21))]) hx hb dL_law_998 hl (k := 6) rfl (by rw [ei97]; rfl) (by decide) rfl (fun ls hl => ?_)
          have h := h i97 ei97
          refine lv_goto (tgt := 23) hx hb dL_law_1001 (by decide) ?_
          refine W.widen (k := cells + 2) (n := slots + 12) (by omega) (by omega) ?_
          exact hk cpg cps u86.1 cnp cnq cns u86.2.1 u86.2.2.1 u86.2.2.2.1 crl cbx cxl cxr cyl cyh u86.2.2.2.2.1 cwt cpf cnr csl ccl chu cuu cpd cro crc u86.2.2.2.2.2 u92.1 mkd mkn mkp u92.2.1 u92.2.2.1 mku mkr mcn mxs mys mx2 my2 u92.2.2.2 mtl mpo mso mst mnr mco mrg mre i97 ls H locs h (lv_sub hl [3, 4, 5, 6, 0] rfl) hP hM hS
        · have h := h.2 c96
          refine lv_aload_n hx hb dL_law_405 rfl (lv_at hl 5 rfl) ?_
          refine lv_iconst (v := 0) hx hb dL_law_406 (by decide) ?_
          obtain ⟨b98, h⟩ := h
          refine va_lald (D := (dC, dI)) hx hb hK hP 21 1 rfl rfl b98 dL_law_407 ?_
          refine lv_iload hx hb dL_law_408 (lv_at hl 0 rfl) ?_
          refine lv_if_eq (tgt := 417) hx hb dL_law_410 (by decide) (fun c99 => ?_) (fun c99 => ?_)
          · have h := h.1 c99
            refine lv_lconst (v := 0) hx hb dL_law_417 (by decide) ?_
            refine W.lcmp hx hb dL_law_418 ?_
            refine lv_if_eq (tgt := 424) hx hb dL_law_419 (by decide) (fun c100 => ?_) (fun c100 => ?_)
            · have h := h.1 c100
              refine lv_goto (tgt := 998) hx hb dL_law_424 (by decide) ?_
              obtain ⟨i101, ei101⟩ : ∃ y : Int32, y = v4 + 6 := ⟨_, rfl⟩
              refine lv_iinc (v := i101) (lv' := [(4, .int i101), (6, .int r91), (5, .int r85), (0, .ref b), (1, .ref (q 0)), (2, .ref (q 22)), (3, .ref (q 21))]) hx hb dL_law_998 hl (k := 6) rfl (by rw [ei101]; rfl) (by decide) rfl (fun ls hl => ?_)
              have h := h i101 ei101
              refine lv_goto (tgt := 23) hx hb dL_law_1001 (by decide) ?_
              refine W.widen (k := cells + 2) (n := slots + 12) (by omega) (by omega) ?_
              exact hk cpg cps u86.1 cnp cnq cns u86.2.1 u86.2.2.1 u86.2.2.2.1 crl cbx cxl cxr cyl cyh u86.2.2.2.2.1 cwt cpf cnr csl ccl chu cuu cpd cro crc u86.2.2.2.2.2 u92.1 mkd mkn mkp u92.2.1 u92.2.2.1 mku mkr mcn mxs mys mx2 my2 u92.2.2.2 mtl mpo mso mst mnr mco mrg mre i101 ls H locs h (lv_sub hl [3, 4, 5, 6, 0] rfl) hP hM hS
            · have h := h.2 c100
              exact (h : False).elim
          · have h := h.2 c99
            refine lv_lconst (v := 1) hx hb dL_law_413 (by decide) ?_
            refine lv_goto (tgt := 418) hx hb dL_law_414 (by decide) ?_
            refine W.lcmp hx hb dL_law_418 ?_
            refine lv_if_eq (tgt := 424) hx hb dL_law_419 (by decide) (fun c102 => ?_) (fun c102 => ?_)
            · have h := h.1 c102
              refine lv_goto (tgt := 998) hx hb dL_law_424 (by decide) ?_
              obtain ⟨i103, ei103⟩ : ∃ y : Int32, y = v4 + 6 := ⟨_, rfl⟩
              refine lv_iinc (v := i103) (lv' := [(4, .int i103), (6, .int r91), (5, .int r85), (0, .ref b), (1, .ref (q 0)), (2, .ref (q 22)), (3, .ref (q 21))]) hx hb dL_law_998 hl (k := 6) rfl (by rw [ei103]; rfl) (by decide) rfl (fun ls hl => ?_)
              have h := h i103 ei103
              refine lv_goto (tgt := 23) hx hb dL_law_1001 (by decide) ?_
              refine W.widen (k := cells + 2) (n := slots + 12) (by omega) (by omega) ?_
              exact hk cpg cps u86.1 cnp cnq cns u86.2.1 u86.2.2.1 u86.2.2.2.1 crl cbx cxl cxr cyl cyh u86.2.2.2.2.1 cwt cpf cnr csl ccl chu cuu cpd cro crc u86.2.2.2.2.2 u92.1 mkd mkn mkp u92.2.1 u92.2.2.1 mku mkr mcn mxs mys mx2 my2 u92.2.2.2 mtl mpo mso mst mnr mco mrg mre i103 ls H locs h (lv_sub hl [3, 4, 5, 6, 0] rfl) hP hM hS
            · have h := h.2 c102
              exact (h : False).elim
      · have h := h.2 c95
        exact (h : False).elim
    · have h := h.2 c90
      refine lv_iconst (v := 1) hx hb dL_law_379 (by decide) ?_
      refine lv_goto (tgt := 384) hx hb dL_law_380 (by decide) ?_
      refine gc_i (va_runV (As := [.int (xs (v4 + 1).toNatClampNeg), .int (xs (v4 + 2).toNatClampNeg), .int 1]) (rest := []) ⟨hx, hb, hml, hown, hts⟩ (ktX5_stitch l dC dI (fun z => q (22 + z)) cI cJ cZ H.size mkc mkd mkn mkp mka mkt mku mkr mcn mxs mys mx2 my2 mmy mtl mpo mso mst mnr mco mrg mre ((xs (v4 + 1).toNatClampNeg)) ((xs (v4 + 2).toNatClampNeg)) 1 h) (cwV 3 hts gL_law_X5_stitch rfl rfl rfl (by decide +kernel) ⟨Nat.le_of_ble_eq_true rfl, Nat.le_of_ble_eq_true rfl⟩) ⟨wd.blind, va_recv hK hM (ci := 5) (q0 := 0) rfl rfl, fun U hU hW => ⟨rfl, wd.at hM hK (fun i j hi hj e9 => Nat.add_left_cancel (ha (22 + i) (22 + j) (by omega) (by omega) e9)) hN hU hW⟩⟩ rfl rfl hl.1 rfl (lv_room (Nat.le_of_ble_eq_true rfl)) dL_law_384 ⟨show _ ≤ 1075 by omega, show _ ≤ 9480 by omega⟩) hS ha hq rfl hP (fun r104 u105 H locs h hP hM hS => ?_)
      have hP : va_P (dC, dI) vwCl (WL q cI cJ cZ cpg cps u86.1 cnp cnq cns u86.2.1 u86.2.2.1 u86.2.2.2.1 crl cbx cxl cxr cyl cyh u86.2.2.2.2.1 cwt cpf cnr csl ccl chu cuu cpd cro crc u86.2.2.2.2.2) H := hP
      have hM : va_P (dC, dI) vwCl (WM (fun z => q (22 + z)) cI cJ cZ u105.1 mkd mkn mkp u105.2.1 u105.2.2.1 mku mkr mcn mxs mys mx2 my2 u105.2.2.2 mtl mpo mso mst mnr mco mrg mre) H := hM
      refine lv_istore (lv' := [(6, .int r104), (5, .int r85), (0, .ref b), (1, .ref (q 0)), (2, .ref (q 22)), (3, .ref (q 21)), (4, .int v4)]) hx hb dL_law_387 hl (by decide) rfl (fun ls hl => ?_)
      refine lv_aload_n hx hb dL_law_389 rfl (lv_at hl 4 rfl) ?_
      refine gc_i (va_runV (As := []) (rest := []) ⟨hx, hb, hml, hown, hts⟩ (ktX5_thrown l dC dI (fun z => q (22 + z)) cI cJ cZ H.size u105.1 mkd mkn mkp u105.2.1 u105.2.2.1 mku mkr mcn mxs mys mx2 my2 u105.2.2.2 mtl mpo mso mst mnr mco mrg mre  h) (cwV 0 hts gL_law_X5_thrown rfl rfl rfl (by decide +kernel) ⟨Nat.le_of_ble_eq_true rfl, Nat.le_of_ble_eq_true rfl⟩) ⟨wd.blind, va_recv hK hM (ci := 5) (q0 := 0) rfl rfl, fun U hU hW => ⟨rfl, wd.at hM hK (fun i j hi hj e9 => Nat.add_left_cancel (ha (22 + i) (22 + j) (by omega) (by omega) e9)) hN hU hW⟩⟩ rfl rfl hl.1 rfl (lv_room (Nat.le_of_ble_eq_true rfl)) dL_law_390 ⟨show _ ≤ 1075 by omega, show _ ≤ 9480 by omega⟩) hS ha hq rfl hP (fun r106 _ H locs h hP hM hS => ?_)
      have hP : va_P (dC, dI) vwCl (WL q cI cJ cZ cpg cps u86.1 cnp cnq cns u86.2.1 u86.2.2.1 u86.2.2.2.1 crl cbx cxl cxr cyl cyh u86.2.2.2.2.1 cwt cpf cnr csl ccl chu cuu cpd cro crc u86.2.2.2.2.2) H := hP
      have hM : va_P (dC, dI) vwCl (WM (fun z => q (22 + z)) cI cJ cZ u105.1 mkd mkn mkp u105.2.1 u105.2.2.1 mku mkr mcn mxs mys mx2 my2 u105.2.2.2 mtl mpo mso mst mnr mco mrg mre) H := hM
      refine lv_iload hx hb dL_law_393 (lv_at hl 1 rfl) ?_
      refine lv_icmp_eq (tgt := 400) hx hb dL_law_395 (by decide) (fun c108 => ?_) (fun c108 => ?_)
      · have h := h.1 c108
        refine lv_iload hx hb dL_law_400 (lv_at hl 1 rfl) ?_
        refine lv_if_ne (tgt := 424) hx hb dL_law_402 (by decide) (fun c109 => ?_) (fun c109 => ?_)
        · have h := h.1 c109
          refine lv_goto (tgt := 998) hx hb dL_law_424 (by decide) ?_
          obtain ⟨i110, ei110⟩ : ∃ y : Int32, y = v4 + 6 := ⟨_, rfl⟩
          refine lv_iinc (v := i110) (lv' := [(4, .int i110), (6, .int r104), (5, .int r85), (0, .ref b), (1, .ref (q 0)), (2, .ref (q 22)), (3, .ref (q 21))]) hx hb dL_law_998 hl (k := 6) rfl (by rw [ei110]; rfl) (by decide) rfl (fun ls hl => ?_)
          have h := h i110 ei110
          refine lv_goto (tgt := 23) hx hb dL_law_1001 (by decide) ?_
          refine W.widen (k := cells + 2) (n := slots + 12) (by omega) (by omega) ?_
          exact hk cpg cps u86.1 cnp cnq cns u86.2.1 u86.2.2.1 u86.2.2.2.1 crl cbx cxl cxr cyl cyh u86.2.2.2.2.1 cwt cpf cnr csl ccl chu cuu cpd cro crc u86.2.2.2.2.2 u105.1 mkd mkn mkp u105.2.1 u105.2.2.1 mku mkr mcn mxs mys mx2 my2 u105.2.2.2 mtl mpo mso mst mnr mco mrg mre i110 ls H locs h (lv_sub hl [3, 4, 5, 6, 0] rfl) hP hM hS
        · have h := h.2 c109
          refine lv_aload_n hx hb dL_law_405 rfl (lv_at hl 5 rfl) ?_
          refine lv_iconst (v := 0) hx hb dL_law_406 (by decide) ?_
          obtain ⟨b111, h⟩ := h
          refine va_lald (D := (dC, dI)) hx hb hK hP 21 1 rfl rfl b111 dL_law_407 ?_
          refine lv_iload hx hb dL_law_408 (lv_at hl 0 rfl) ?_
          refine lv_if_eq (tgt := 417) hx hb dL_law_410 (by decide) (fun c112 => ?_) (fun c112 => ?_)
          · have h := h.1 c112
            refine lv_lconst (v := 0) hx hb dL_law_417 (by decide) ?_
            refine W.lcmp hx hb dL_law_418 ?_
            refine lv_if_eq (tgt := 424) hx hb dL_law_419 (by decide) (fun c113 => ?_) (fun c113 => ?_)
            · have h := h.1 c113
              refine lv_goto (tgt := 998) hx hb dL_law_424 (by decide) ?_
              obtain ⟨i114, ei114⟩ : ∃ y : Int32, y = v4 + 6 := ⟨_, rfl⟩
              refine lv_iinc (v := i114) (lv' := [(4, .int i114), (6, .int r104), (5, .int r85), (0, .ref b), (1, .ref (q 0)), (2, .ref (q 22)), (3, .ref (q 21))]) hx hb dL_law_998 hl (k := 6) rfl (by rw [ei114]; rfl) (by decide) rfl (fun ls hl => ?_)
              have h := h i114 ei114
              refine lv_goto (tgt := 23) hx hb dL_law_1001 (by decide) ?_
              refine W.widen (k := cells + 2) (n := slots + 12) (by omega) (by omega) ?_
              exact hk cpg cps u86.1 cnp cnq cns u86.2.1 u86.2.2.1 u86.2.2.2.1 crl cbx cxl cxr cyl cyh u86.2.2.2.2.1 cwt cpf cnr csl ccl chu cuu cpd cro crc u86.2.2.2.2.2 u105.1 mkd mkn mkp u105.2.1 u105.2.2.1 mku mkr mcn mxs mys mx2 my2 u105.2.2.2 mtl mpo mso mst mnr mco mrg mre i114 ls H locs h (lv_sub hl [3, 4, 5, 6, 0] rfl) hP hM hS
            · have h := h.2 c113
              exact (h : False).elim
          · have h := h.2 c112
            refine lv_lconst (v := 1) hx hb dL_law_413 (by decide) ?_
            refine lv_goto (tgt := 418) hx hb dL_law_414 (by decide) ?_
            refine W.lcmp hx hb dL_law_418 ?_
            refine lv_if_eq (tgt := 424) hx hb dL_law_419 (by decide) (fun c115 => ?_) (fun c115 => ?_)
            · have h := h.1 c115
              refine lv_goto (tgt := 998) hx hb dL_law_424 (by decide) ?_
              obtain ⟨i116, ei116⟩ : ∃ y : Int32, y = v4 + 6 := ⟨_, rfl⟩
              refine lv_iinc (v := i116) (lv' := [(4, .int i116), (6, .int r104), (5, .int r85), (0, .ref b), (1, .ref (q 0)), (2, .ref (q 22)), (3, .ref (q 21))]) hx hb dL_law_998 hl (k := 6) rfl (by rw [ei116]; rfl) (by decide) rfl (fun ls hl => ?_)
              have h := h i116 ei116
              refine lv_goto (tgt := 23) hx hb dL_law_1001 (by decide) ?_
              refine W.widen (k := cells + 2) (n := slots + 12) (by omega) (by omega) ?_
              exact hk cpg cps u86.1 cnp cnq cns u86.2.1 u86.2.2.1 u86.2.2.2.1 crl cbx cxl cxr cyl cyh u86.2.2.2.2.1 cwt cpf cnr csl ccl chu cuu cpd cro crc u86.2.2.2.2.2 u105.1 mkd mkn mkp u105.2.1 u105.2.2.1 mku mkr mcn mxs mys mx2 my2 u105.2.2.2 mtl mpo mso mst mnr mco mrg mre i116 ls H locs h (lv_sub hl [3, 4, 5, 6, 0] rfl) hP hM hS
            · have h := h.2 c115
              exact (h : False).elim
      · have h := h.2 c108
        exact (h : False).elim

def cs_427 (L : Nat) (xs : Nat → Int32) (cpg : Int32) (cps : Int32) (cnf : Int32) (cnp : Int32) (cnq : Int32) (cns : Int32) (cpo : Int32) (cpt : Int32) (crf : Int32) (crl : Int32) (cbx : (Nat → Int32)) (cxl : (Nat → Int32)) (cxr : (Nat → Int32)) (cyl : (Nat → Int32)) (cyh : (Nat → Int32)) (cms : (Nat → Int32)) (cwt : (Nat → Int32)) (cpf : (Nat → Int32)) (cnr : (Nat → Int64)) (csl : (Nat → Int32)) (ccl : (Nat → Int32)) (chu : (Nat → Int32)) (cuu : (Nat → Int32)) (cpd : (Nat → Int64)) (cro : (Nat → Int32)) (crc : (Nat → Int64)) (ou : (Nat → Int64)) (mkc : Int32) (mkd : Int32) (mkn : Int32) (mkp : Int32) (mka : Int32) (mkt : Int32) (mku : Int32) (mkr : Int32) (mcn : (Nat → Int32)) (mxs : (Nat → Int32)) (mys : (Nat → Int32)) (mx2 : (Nat → Int32)) (my2 : (Nat → Int32)) (mmy : (Nat → Int32)) (mtl : (Nat → Int32)) (mpo : (Nat → Int32)) (mso : (Nat → Int32)) (mst : (Nat → Int32)) (mnr : (Nat → Int64)) (mco : (Nat → Int32)) (mrg : (Nat → Int32)) (mre : (Nat → Int64)) (v4 : Int32) (k : Int32 → Int32 → Int32 → Int32 → Int32 → Int32 → Int32 → Int32 → Int32 → Int32 → (Nat → Int32) → (Nat → Int32) → (Nat → Int32) → (Nat → Int32) → (Nat → Int32) → (Nat → Int32) → (Nat → Int32) → (Nat → Int32) → (Nat → Int64) → (Nat → Int32) → (Nat → Int32) → (Nat → Int32) → (Nat → Int32) → (Nat → Int64) → (Nat → Int32) → (Nat → Int64) → (Nat → Int64) → Int32 → Int32 → Int32 → Int32 → Int32 → Int32 → Int32 → Int32 → (Nat → Int32) → (Nat → Int32) → (Nat → Int32) → (Nat → Int32) → (Nat → Int32) → (Nat → Int32) → (Nat → Int32) → (Nat → Int32) → (Nat → Int32) → (Nat → Int32) → (Nat → Int64) → (Nat → Int32) → (Nat → Int32) → (Nat → Int64) → Int32 → Prop) : Prop := (vp_in ((v4 + 1)) L ∧ (vp_in ((v4 + 2)) L ∧ (vp_in ((v4 + 3)) L ∧ (wL_pre cps cbx cnf cpo cpt crf cwt ou ((xs (v4 + 1).toNatClampNeg)) ((xs (v4 + 2).toNatClampNeg)) ((xs (v4 + 3).toNatClampNeg)) (fun (r120 : Int32) (u121 : Int32 × Int32 × Int32 × Int32 × (Nat → Int32) × (Nat → Int64)) => (vp_in ((v4 + 1)) L ∧ (vp_in ((v4 + 2)) L ∧ (vp_in ((v4 + 3)) L ∧ (wX5_pre mkn mcn mkc mka mkt mtl ((xs (v4 + 1).toNatClampNeg)) ((xs (v4 + 2).toNatClampNeg)) ((xs (v4 + 3).toNatClampNeg)) (fun (r125 : Int32) (u126 : Int32 × Int32 × Int32 × (Nat → Int32)) => (wX5_thrown u126.1  (fun (r127 : Int32) => ((r127 = r120 → ((¬ r120 = 0 → (∀ i131 : Int32, i131 = v4 + 6 → k cpg cps u121.1 cnp cnq cns u121.2.1 u121.2.2.1 u121.2.2.2.1 crl cbx cxl cxr cyl cyh cms u121.2.2.2.2.1 cpf cnr csl ccl chu cuu cpd cro crc u121.2.2.2.2.2 u126.1 mkd mkn mkp u126.2.1 u126.2.2.1 mku mkr mcn mxs mys mx2 my2 mmy u126.2.2.2 mpo mso mst mnr mco mrg mre i131)) ∧ (r120 = 0 → (vp_in 0 1 ∧ (((lg_cmp ((u121.2.2.2.2.2 (0 : Int32).toNatClampNeg)) r125.toInt64) = 0 → (∀ i134 : Int32, i134 = v4 + 6 → k cpg cps u121.1 cnp cnq cns u121.2.1 u121.2.2.1 u121.2.2.2.1 crl cbx cxl cxr cyl cyh cms u121.2.2.2.2.1 cpf cnr csl ccl chu cuu cpd cro crc u121.2.2.2.2.2 u126.1 mkd mkn mkp u126.2.1 u126.2.2.1 mku mkr mcn mxs mys mx2 my2 mmy u126.2.2.2 mpo mso mst mnr mco mrg mre i134)) ∧ (¬ ((lg_cmp ((u121.2.2.2.2.2 (0 : Int32).toNatClampNeg)) r125.toInt64) = 0) → False)))))) ∧ (¬ (r127 = r120) → False))))))))))))))
set_option maxHeartbeats 4000000 in
set_option maxRecDepth 100000 in
theorem mcs_427 {p : Program} {l : Launch} {e : Env} {s : State} {m : MethodId} {below : List Frame} {meth : Method} {c : Code} {b L : Nat} {xs : Nat → Int32} {dC : Nat → ClassId} {dI : Nat → Nat → Nat} {cI cJ cZ : ClassId} {q : Nat → Nat} (hlt : l.stackTraces = false) (C : LX p s m meth c b L xs dC dI cI cJ cZ q) (cells slots : Nat) (hc : cells + 2 ≤ 1075) (hs : slots + 12 ≤ 9480) {k : Int32 → Int32 → Int32 → Int32 → Int32 → Int32 → Int32 → Int32 → Int32 → Int32 → (Nat → Int32) → (Nat → Int32) → (Nat → Int32) → (Nat → Int32) → (Nat → Int32) → (Nat → Int32) → (Nat → Int32) → (Nat → Int32) → (Nat → Int64) → (Nat → Int32) → (Nat → Int32) → (Nat → Int32) → (Nat → Int32) → (Nat → Int64) → (Nat → Int32) → (Nat → Int64) → (Nat → Int64) → Int32 → Int32 → Int32 → Int32 → Int32 → Int32 → Int32 → Int32 → (Nat → Int32) → (Nat → Int32) → (Nat → Int32) → (Nat → Int32) → (Nat → Int32) → (Nat → Int32) → (Nat → Int32) → (Nat → Int32) → (Nat → Int32) → (Nat → Int32) → (Nat → Int64) → (Nat → Int32) → (Nat → Int32) → (Nat → Int64) → Int32 → Prop} (hk : ∀ (cpg : Int32) (cps : Int32) (cnf : Int32) (cnp : Int32) (cnq : Int32) (cns : Int32) (cpo : Int32) (cpt : Int32) (crf : Int32) (crl : Int32) (cbx : (Nat → Int32)) (cxl : (Nat → Int32)) (cxr : (Nat → Int32)) (cyl : (Nat → Int32)) (cyh : (Nat → Int32)) (cms : (Nat → Int32)) (cwt : (Nat → Int32)) (cpf : (Nat → Int32)) (cnr : (Nat → Int64)) (csl : (Nat → Int32)) (ccl : (Nat → Int32)) (chu : (Nat → Int32)) (cuu : (Nat → Int32)) (cpd : (Nat → Int64)) (cro : (Nat → Int32)) (crc : (Nat → Int64)) (ou : (Nat → Int64)) (mkc : Int32) (mkd : Int32) (mkn : Int32) (mkp : Int32) (mka : Int32) (mkt : Int32) (mku : Int32) (mkr : Int32) (mcn : (Nat → Int32)) (mxs : (Nat → Int32)) (mys : (Nat → Int32)) (mx2 : (Nat → Int32)) (my2 : (Nat → Int32)) (mmy : (Nat → Int32)) (mtl : (Nat → Int32)) (mpo : (Nat → Int32)) (mso : (Nat → Int32)) (mst : (Nat → Int32)) (mnr : (Nat → Int64)) (mco : (Nat → Int32)) (mrg : (Nat → Int32)) (mre : (Nat → Int64)) (v4 : Int32) (ls : Array Slot) (H : Heap) (locs : List Loc), k cpg cps cnf cnp cnq cns cpo cpt crf crl cbx cxl cxr cyl cyh cms cwt cpf cnr csl ccl chu cuu cpd cro crc ou mkc mkd mkn mkp mka mkt mku mkr mcn mxs mys mx2 my2 mmy mtl mpo mso mst mnr mco mrg mre v4 → lv_has ls 8 [(0, .ref b), (1, .ref (q 0)), (2, .ref (q 22)), (3, .ref (q 21)), (4, .int v4)] → va_P (dC, dI) vwCl (WL q cI cJ cZ cpg cps cnf cnp cnq cns cpo cpt crf crl cbx cxl cxr cyl cyh cms cwt cpf cnr csl ccl chu cuu cpd cro crc ou) H → va_P (dC, dI) vwCl (WM (fun z => q (22 + z)) cI cJ cZ mkc mkd mkn mkp mka mkt mku mkr mcn mxs mys mx2 my2 mmy mtl mpo mso mst mnr mco mrg mre) H → va_S (fun x => s.heap.size ≤ x) s.heap H locs → W p l e room_1 s m #[Value.ref b] below meth c H locs (cells + 2) (slots + 12) (lw_Z below #[Value.ref b] s) (F0 m 23 ls [])) : ∀ (cpg : Int32) (cps : Int32) (cnf : Int32) (cnp : Int32) (cnq : Int32) (cns : Int32) (cpo : Int32) (cpt : Int32) (crf : Int32) (crl : Int32) (cbx : (Nat → Int32)) (cxl : (Nat → Int32)) (cxr : (Nat → Int32)) (cyl : (Nat → Int32)) (cyh : (Nat → Int32)) (cms : (Nat → Int32)) (cwt : (Nat → Int32)) (cpf : (Nat → Int32)) (cnr : (Nat → Int64)) (csl : (Nat → Int32)) (ccl : (Nat → Int32)) (chu : (Nat → Int32)) (cuu : (Nat → Int32)) (cpd : (Nat → Int64)) (cro : (Nat → Int32)) (crc : (Nat → Int64)) (ou : (Nat → Int64)) (mkc : Int32) (mkd : Int32) (mkn : Int32) (mkp : Int32) (mka : Int32) (mkt : Int32) (mku : Int32) (mkr : Int32) (mcn : (Nat → Int32)) (mxs : (Nat → Int32)) (mys : (Nat → Int32)) (mx2 : (Nat → Int32)) (my2 : (Nat → Int32)) (mmy : (Nat → Int32)) (mtl : (Nat → Int32)) (mpo : (Nat → Int32)) (mso : (Nat → Int32)) (mst : (Nat → Int32)) (mnr : (Nat → Int64)) (mco : (Nat → Int32)) (mrg : (Nat → Int32)) (mre : (Nat → Int64)) (v4 : Int32) (ls : Array Slot) (H : Heap) (locs : List Loc), cs_427 L xs cpg cps cnf cnp cnq cns cpo cpt crf crl cbx cxl cxr cyl cyh cms cwt cpf cnr csl ccl chu cuu cpd cro crc ou mkc mkd mkn mkp mka mkt mku mkr mcn mxs mys mx2 my2 mmy mtl mpo mso mst mnr mco mrg mre v4 k → lv_has ls 8 [(0, .ref b), (1, .ref (q 0)), (2, .ref (q 22)), (3, .ref (q 21)), (4, .int v4)] → va_P (dC, dI) vwCl (WL q cI cJ cZ cpg cps cnf cnp cnq cns cpo cpt crf crl cbx cxl cxr cyl cyh cms cwt cpf cnr csl ccl chu cuu cpd cro crc ou) H → va_P (dC, dI) vwCl (WM (fun z => q (22 + z)) cI cJ cZ mkc mkd mkn mkp mka mkt mku mkr mcn mxs mys mx2 my2 mmy mtl mpo mso mst mnr mco mrg mre) H → va_S (fun x => s.heap.size ≤ x) s.heap H locs → W p l e room_1 s m #[Value.ref b] below meth c H locs cells slots (lw_Z below #[Value.ref b] s) (F0 m 427 ls []) := by
  obtain ⟨hx, hb, hml, hown, hts, hX, hbl, hK, ha, hq, hN, hE, hC⟩ := id C
  have hbA : ¬ (fun q : Nat => s.heap.size ≤ q) b := Nat.not_le.mpr hbl
  intro cpg cps cnf cnp cnq cns cpo cpt crf crl cbx cxl cxr cyl cyh cms cwt cpf cnr csl ccl chu cuu cpd cro crc ou mkc mkd mkn mkp mka mkt mku mkr mcn mxs mys mx2 my2 mmy mtl mpo mso mst mnr mco mrg mre v4 ls H locs h hl hP hM hS
  unfold cs_427 at h
  refine lv_aload_n hx hb dL_law_427 rfl (lv_at hl 1 rfl) ?_
  refine lv_aload_n hx hb dL_law_428 rfl (lv_at hl 0 rfl) ?_
  refine lv_iload hx hb dL_law_429 (lv_at hl 4 rfl) ?_
  refine lv_iconst (v := 1) hx hb dL_law_431 (by decide) ?_
  refine lv_iadd hx hb dL_law_432 ?_
  obtain ⟨b117, h⟩ := h
  refine va_sld hx hb hX hbl hbA hS b117 dL_law_433 ?_
  refine lv_aload_n hx hb dL_law_434 rfl (lv_at hl 0 rfl) ?_
  refine lv_iload hx hb dL_law_435 (lv_at hl 4 rfl) ?_
  refine lv_iconst (v := 2) hx hb dL_law_437 (by decide) ?_
  refine lv_iadd hx hb dL_law_438 ?_
  obtain ⟨b118, h⟩ := h
  refine va_sld hx hb hX hbl hbA hS b118 dL_law_439 ?_
  refine lv_aload_n hx hb dL_law_440 rfl (lv_at hl 0 rfl) ?_
  refine lv_iload hx hb dL_law_441 (lv_at hl 4 rfl) ?_
  refine lv_iconst (v := 3) hx hb dL_law_443 (by decide) ?_
  refine lv_iadd hx hb dL_law_444 ?_
  obtain ⟨b119, h⟩ := h
  refine va_sld hx hb hX hbl hbA hS b119 dL_law_445 ?_
  refine lv_aload_n hx hb dL_law_446 rfl (lv_at hl 3 rfl) ?_
  refine ga_i (vx_runSX (As := [.ref (q 0), .int (xs (v4 + 1).toNatClampNeg), .int (xs (v4 + 2).toNatClampNeg), .int (xs (v4 + 3).toNatClampNeg), .ref (q 21)]) (rest := []) ⟨hx, hb, hml, hown, hts⟩ (ktL_pre l hlt dC dI q cI cJ cZ H.size cpg cps cnf cnp cnq cns cpo cpt crf crl cbx cxl cxr cyl cyh cms cwt cpf cnr csl ccl chu cuu cpd cro crc ou ((xs (v4 + 1).toNatClampNeg)) ((xs (v4 + 2).toNatClampNeg)) ((xs (v4 + 3).toNatClampNeg)) h) (vx_cwSW 5 hts gL_law_L_pre rfl rfl rfl (by decide +kernel) ⟨Nat.le_of_ble_eq_true rfl, Nat.le_of_ble_eq_true rfl⟩) ⟨wl.blind, fun U hU hW => ⟨rfl, ⟨wd.at hP hK (fun i j hi hj => ha i j (by omega) (by omega)) hN hU hW, hE.at hS hU hW (fun x hx9 => AF_AL (i0 := 0) (n := 22) hq (by omega) hS.1 x (by simpa using hx9))⟩, hC.moved hW.alike⟩⟩ rfl rfl hl.1 rfl (lv_room (Nat.le_of_ble_eq_true rfl)) dL_law_447 ⟨show _ ≤ 1075 by omega, show _ ≤ 9480 by omega⟩) hS ha hq rfl hM (fun r120 u121 H locs h hP hM hS => ?_)
  have hP : va_P (dC, dI) vwCl (WL q cI cJ cZ cpg cps u121.1 cnp cnq cns u121.2.1 u121.2.2.1 u121.2.2.2.1 crl cbx cxl cxr cyl cyh cms u121.2.2.2.2.1 cpf cnr csl ccl chu cuu cpd cro crc u121.2.2.2.2.2) H := hP
  have hM : va_P (dC, dI) vwCl (WM (fun z => q (22 + z)) cI cJ cZ mkc mkd mkn mkp mka mkt mku mkr mcn mxs mys mx2 my2 mmy mtl mpo mso mst mnr mco mrg mre) H := hM
  refine lv_istore (lv' := [(5, .int r120), (0, .ref b), (1, .ref (q 0)), (2, .ref (q 22)), (3, .ref (q 21)), (4, .int v4)]) hx hb dL_law_450 hl (by decide) rfl (fun ls hl => ?_)
  refine lv_aload_n hx hb dL_law_452 rfl (lv_at hl 3 rfl) ?_
  refine lv_aload_n hx hb dL_law_453 rfl (lv_at hl 1 rfl) ?_
  refine lv_iload hx hb dL_law_454 (lv_at hl 5 rfl) ?_
  refine lv_iconst (v := 1) hx hb dL_law_456 (by decide) ?_
  refine lv_iadd hx hb dL_law_457 ?_
  obtain ⟨b122, h⟩ := h
  refine va_sld hx hb hX hbl hbA hS b122 dL_law_458 ?_
  refine lv_aload_n hx hb dL_law_459 rfl (lv_at hl 1 rfl) ?_
  refine lv_iload hx hb dL_law_460 (lv_at hl 5 rfl) ?_
  refine lv_iconst (v := 2) hx hb dL_law_462 (by decide) ?_
  refine lv_iadd hx hb dL_law_463 ?_
  obtain ⟨b123, h⟩ := h
  refine va_sld hx hb hX hbl hbA hS b123 dL_law_464 ?_
  refine lv_aload_n hx hb dL_law_465 rfl (lv_at hl 1 rfl) ?_
  refine lv_iload hx hb dL_law_466 (lv_at hl 5 rfl) ?_
  refine lv_iconst (v := 3) hx hb dL_law_468 (by decide) ?_
  refine lv_iadd hx hb dL_law_469 ?_
  obtain ⟨b124, h⟩ := h
  refine va_sld hx hb hX hbl hbA hS b124 dL_law_470 ?_
  refine gc_i (va_runV (As := [.int (xs (v4 + 1).toNatClampNeg), .int (xs (v4 + 2).toNatClampNeg), .int (xs (v4 + 3).toNatClampNeg)]) (rest := []) ⟨hx, hb, hml, hown, hts⟩ (ktX5_pre l dC dI (fun z => q (22 + z)) cI cJ cZ H.size mkc mkd mkn mkp mka mkt mku mkr mcn mxs mys mx2 my2 mmy mtl mpo mso mst mnr mco mrg mre ((xs (v4 + 1).toNatClampNeg)) ((xs (v4 + 2).toNatClampNeg)) ((xs (v4 + 3).toNatClampNeg)) h) (cwV 3 hts gL_law_X5_pre rfl rfl rfl (by decide +kernel) ⟨Nat.le_of_ble_eq_true rfl, Nat.le_of_ble_eq_true rfl⟩) ⟨wd.blind, va_recv hK hM (ci := 5) (q0 := 0) rfl rfl, fun U hU hW => ⟨rfl, wd.at hM hK (fun i j hi hj e9 => Nat.add_left_cancel (ha (22 + i) (22 + j) (by omega) (by omega) e9)) hN hU hW⟩⟩ rfl rfl hl.1 rfl (lv_room (Nat.le_of_ble_eq_true rfl)) dL_law_471 ⟨show _ ≤ 1075 by omega, show _ ≤ 9480 by omega⟩) hS ha hq rfl hP (fun r125 u126 H locs h hP hM hS => ?_)
  have hP : va_P (dC, dI) vwCl (WL q cI cJ cZ cpg cps u121.1 cnp cnq cns u121.2.1 u121.2.2.1 u121.2.2.2.1 crl cbx cxl cxr cyl cyh cms u121.2.2.2.2.1 cpf cnr csl ccl chu cuu cpd cro crc u121.2.2.2.2.2) H := hP
  have hM : va_P (dC, dI) vwCl (WM (fun z => q (22 + z)) cI cJ cZ u126.1 mkd mkn mkp u126.2.1 u126.2.2.1 mku mkr mcn mxs mys mx2 my2 mmy u126.2.2.2 mpo mso mst mnr mco mrg mre) H := hM
  refine lv_istore (lv' := [(6, .int r125), (5, .int r120), (0, .ref b), (1, .ref (q 0)), (2, .ref (q 22)), (3, .ref (q 21)), (4, .int v4)]) hx hb dL_law_474 hl (by decide) rfl (fun ls hl => ?_)
  refine lv_aload_n hx hb dL_law_476 rfl (lv_at hl 4 rfl) ?_
  refine gc_i (va_runV (As := []) (rest := []) ⟨hx, hb, hml, hown, hts⟩ (ktX5_thrown l dC dI (fun z => q (22 + z)) cI cJ cZ H.size u126.1 mkd mkn mkp u126.2.1 u126.2.2.1 mku mkr mcn mxs mys mx2 my2 mmy u126.2.2.2 mpo mso mst mnr mco mrg mre  h) (cwV 0 hts gL_law_X5_thrown rfl rfl rfl (by decide +kernel) ⟨Nat.le_of_ble_eq_true rfl, Nat.le_of_ble_eq_true rfl⟩) ⟨wd.blind, va_recv hK hM (ci := 5) (q0 := 0) rfl rfl, fun U hU hW => ⟨rfl, wd.at hM hK (fun i j hi hj e9 => Nat.add_left_cancel (ha (22 + i) (22 + j) (by omega) (by omega) e9)) hN hU hW⟩⟩ rfl rfl hl.1 rfl (lv_room (Nat.le_of_ble_eq_true rfl)) dL_law_477 ⟨show _ ≤ 1075 by omega, show _ ≤ 9480 by omega⟩) hS ha hq rfl hP (fun r127 _ H locs h hP hM hS => ?_)
  have hP : va_P (dC, dI) vwCl (WL q cI cJ cZ cpg cps u121.1 cnp cnq cns u121.2.1 u121.2.2.1 u121.2.2.2.1 crl cbx cxl cxr cyl cyh cms u121.2.2.2.2.1 cpf cnr csl ccl chu cuu cpd cro crc u121.2.2.2.2.2) H := hP
  have hM : va_P (dC, dI) vwCl (WM (fun z => q (22 + z)) cI cJ cZ u126.1 mkd mkn mkp u126.2.1 u126.2.2.1 mku mkr mcn mxs mys mx2 my2 mmy u126.2.2.2 mpo mso mst mnr mco mrg mre) H := hM
  refine lv_iload hx hb dL_law_480 (lv_at hl 1 rfl) ?_
  refine lv_icmp_eq (tgt := 487) hx hb dL_law_482 (by decide) (fun c129 => ?_) (fun c129 => ?_)
  · have h := h.1 c129
    refine lv_iload hx hb dL_law_487 (lv_at hl 1 rfl) ?_
    refine lv_if_ne (tgt := 504) hx hb dL_law_489 (by decide) (fun c130 => ?_) (fun c130 => ?_)
    · have h := h.1 c130
      refine lv_goto (tgt := 998) hx hb dL_law_504 (by decide) ?_
      obtain ⟨i131, ei131⟩ : ∃ y : Int32, y = v4 + 6 := ⟨_, rfl⟩
      refine lv_iinc (v := i131) (lv' := [(4, .int i131), (6, .int r125), (5, .int r120), (0, .ref b), (1, .ref (q 0)), (2, .ref (q 22)), (3, .ref (q 21))]) hx hb dL_law_998 hl (k := 6) rfl (by rw [ei131]; rfl) (by decide) rfl (fun ls hl => ?_)
      have h := h i131 ei131
      refine lv_goto (tgt := 23) hx hb dL_law_1001 (by decide) ?_
      refine W.widen (k := cells + 2) (n := slots + 12) (by omega) (by omega) ?_
      exact hk cpg cps u121.1 cnp cnq cns u121.2.1 u121.2.2.1 u121.2.2.2.1 crl cbx cxl cxr cyl cyh cms u121.2.2.2.2.1 cpf cnr csl ccl chu cuu cpd cro crc u121.2.2.2.2.2 u126.1 mkd mkn mkp u126.2.1 u126.2.2.1 mku mkr mcn mxs mys mx2 my2 mmy u126.2.2.2 mpo mso mst mnr mco mrg mre i131 ls H locs h (lv_sub hl [3, 4, 5, 6, 0] rfl) hP hM hS
    · have h := h.2 c130
      refine lv_aload_n hx hb dL_law_492 rfl (lv_at hl 5 rfl) ?_
      refine lv_iconst (v := 0) hx hb dL_law_493 (by decide) ?_
      obtain ⟨b132, h⟩ := h
      refine va_lald (D := (dC, dI)) hx hb hK hP 21 1 rfl rfl b132 dL_law_494 ?_
      refine lv_iload hx hb dL_law_495 (lv_at hl 0 rfl) ?_
      refine lv_i2l hx hb dL_law_497 rfl ?_
      refine W.lcmp hx hb dL_law_498 ?_
      refine lv_if_eq (tgt := 504) hx hb dL_law_499 (by decide) (fun c133 => ?_) (fun c133 => ?_)
      · have h := h.1 c133
        refine lv_goto (tgt := 998) hx hb dL_law_504 (by decide) ?_
        obtain ⟨i134, ei134⟩ : ∃ y : Int32, y = v4 + 6 := ⟨_, rfl⟩
        refine lv_iinc (v := i134) (lv' := [(4, .int i134), (6, .int r125), (5, .int r120), (0, .ref b), (1, .ref (q 0)), (2, .ref (q 22)), (3, .ref (q 21))]) hx hb dL_law_998 hl (k := 6) rfl (by rw [ei134]; rfl) (by decide) rfl (fun ls hl => ?_)
        have h := h i134 ei134
        refine lv_goto (tgt := 23) hx hb dL_law_1001 (by decide) ?_
        refine W.widen (k := cells + 2) (n := slots + 12) (by omega) (by omega) ?_
        exact hk cpg cps u121.1 cnp cnq cns u121.2.1 u121.2.2.1 u121.2.2.2.1 crl cbx cxl cxr cyl cyh cms u121.2.2.2.2.1 cpf cnr csl ccl chu cuu cpd cro crc u121.2.2.2.2.2 u126.1 mkd mkn mkp u126.2.1 u126.2.2.1 mku mkr mcn mxs mys mx2 my2 mmy u126.2.2.2 mpo mso mst mnr mco mrg mre i134 ls H locs h (lv_sub hl [3, 4, 5, 6, 0] rfl) hP hM hS
      · have h := h.2 c133
        exact (h : False).elim
  · have h := h.2 c129
    exact (h : False).elim

def cs_507 (L : Nat) (xs : Nat → Int32) (cpg : Int32) (cps : Int32) (cnf : Int32) (cnp : Int32) (cnq : Int32) (cns : Int32) (cpo : Int32) (cpt : Int32) (crf : Int32) (crl : Int32) (cbx : (Nat → Int32)) (cxl : (Nat → Int32)) (cxr : (Nat → Int32)) (cyl : (Nat → Int32)) (cyh : (Nat → Int32)) (cms : (Nat → Int32)) (cwt : (Nat → Int32)) (cpf : (Nat → Int32)) (cnr : (Nat → Int64)) (csl : (Nat → Int32)) (ccl : (Nat → Int32)) (chu : (Nat → Int32)) (cuu : (Nat → Int32)) (cpd : (Nat → Int64)) (cro : (Nat → Int32)) (crc : (Nat → Int64)) (ou : (Nat → Int64)) (mkc : Int32) (mkd : Int32) (mkn : Int32) (mkp : Int32) (mka : Int32) (mkt : Int32) (mku : Int32) (mkr : Int32) (mcn : (Nat → Int32)) (mxs : (Nat → Int32)) (mys : (Nat → Int32)) (mx2 : (Nat → Int32)) (my2 : (Nat → Int32)) (mmy : (Nat → Int32)) (mtl : (Nat → Int32)) (mpo : (Nat → Int32)) (mso : (Nat → Int32)) (mst : (Nat → Int32)) (mnr : (Nat → Int64)) (mco : (Nat → Int32)) (mrg : (Nat → Int32)) (mre : (Nat → Int64)) (v4 : Int32) (k : Int32 → Int32 → Int32 → Int32 → Int32 → Int32 → Int32 → Int32 → Int32 → Int32 → (Nat → Int32) → (Nat → Int32) → (Nat → Int32) → (Nat → Int32) → (Nat → Int32) → (Nat → Int32) → (Nat → Int32) → (Nat → Int32) → (Nat → Int64) → (Nat → Int32) → (Nat → Int32) → (Nat → Int32) → (Nat → Int32) → (Nat → Int64) → (Nat → Int32) → (Nat → Int64) → (Nat → Int64) → Int32 → Int32 → Int32 → Int32 → Int32 → Int32 → Int32 → Int32 → (Nat → Int32) → (Nat → Int32) → (Nat → Int32) → (Nat → Int32) → (Nat → Int32) → (Nat → Int32) → (Nat → Int32) → (Nat → Int32) → (Nat → Int32) → (Nat → Int32) → (Nat → Int64) → (Nat → Int32) → (Nat → Int32) → (Nat → Int64) → Int32 → Prop) : Prop := (vp_in ((v4 + 1)) L ∧ (vp_in ((v4 + 2)) L ∧ (wL_part cpg cps cbx cxl cxr cyl cyh cms cwt cnf cnp cnq cns cpf cnr csl ccl ou ((xs (v4 + 1).toNatClampNeg)) ((xs (v4 + 2).toNatClampNeg)) (fun (r137 : Int32) (u138 : Int32 × Int32 × Int32 × Int32 × (Nat → Int32) × (Nat → Int64) × (Nat → Int32) × (Nat → Int32) × (Nat → Int64)) => (vp_in ((v4 + 1)) L ∧ (vp_in ((v4 + 2)) L ∧ (wX5_part mkd mkn mcn mxs mys mx2 my2 mmy mkc mkp mpo mso mst mnr ((xs (v4 + 1).toNatClampNeg)) ((xs (v4 + 2).toNatClampNeg)) (fun (r141 : Int32) (u142 : Int32 × Int32 × (Nat → Int32) × (Nat → Int32) × (Nat → Int32) × (Nat → Int64)) => (wX5_thrown u142.1  (fun (r143 : Int32) => ((r143 = r137 → ((¬ r137 = 0 → (∀ i147 : Int32, i147 = v4 + 6 → k cpg cps u138.1 u138.2.1 u138.2.2.1 u138.2.2.2.1 cpo cpt crf crl cbx cxl cxr cyl cyh cms cwt u138.2.2.2.2.1 u138.2.2.2.2.2.1 u138.2.2.2.2.2.2.1 u138.2.2.2.2.2.2.2.1 chu cuu cpd cro crc u138.2.2.2.2.2.2.2.2 u142.1 mkd mkn u142.2.1 mka mkt mku mkr mcn mxs mys mx2 my2 mmy mtl u142.2.2.1 u142.2.2.2.1 u142.2.2.2.2.1 u142.2.2.2.2.2 mco mrg mre i147)) ∧ (r137 = 0 → (vp_in 0 1 ∧ (((lg_cmp ((u138.2.2.2.2.2.2.2.2 (0 : Int32).toNatClampNeg)) r141.toInt64) = 0 → (∀ i150 : Int32, i150 = v4 + 6 → k cpg cps u138.1 u138.2.1 u138.2.2.1 u138.2.2.2.1 cpo cpt crf crl cbx cxl cxr cyl cyh cms cwt u138.2.2.2.2.1 u138.2.2.2.2.2.1 u138.2.2.2.2.2.2.1 u138.2.2.2.2.2.2.2.1 chu cuu cpd cro crc u138.2.2.2.2.2.2.2.2 u142.1 mkd mkn u142.2.1 mka mkt mku mkr mcn mxs mys mx2 my2 mmy mtl u142.2.2.1 u142.2.2.2.1 u142.2.2.2.2.1 u142.2.2.2.2.2 mco mrg mre i150)) ∧ (¬ ((lg_cmp ((u138.2.2.2.2.2.2.2.2 (0 : Int32).toNatClampNeg)) r141.toInt64) = 0) → False)))))) ∧ (¬ (r143 = r137) → False))))))))))))
set_option maxHeartbeats 4000000 in
set_option maxRecDepth 100000 in
theorem mcs_507 {p : Program} {l : Launch} {e : Env} {s : State} {m : MethodId} {below : List Frame} {meth : Method} {c : Code} {b L : Nat} {xs : Nat → Int32} {dC : Nat → ClassId} {dI : Nat → Nat → Nat} {cI cJ cZ : ClassId} {q : Nat → Nat} (hlt : l.stackTraces = false) (C : LX p s m meth c b L xs dC dI cI cJ cZ q) (cells slots : Nat) (hc : cells + 2 ≤ 1075) (hs : slots + 12 ≤ 9480) {k : Int32 → Int32 → Int32 → Int32 → Int32 → Int32 → Int32 → Int32 → Int32 → Int32 → (Nat → Int32) → (Nat → Int32) → (Nat → Int32) → (Nat → Int32) → (Nat → Int32) → (Nat → Int32) → (Nat → Int32) → (Nat → Int32) → (Nat → Int64) → (Nat → Int32) → (Nat → Int32) → (Nat → Int32) → (Nat → Int32) → (Nat → Int64) → (Nat → Int32) → (Nat → Int64) → (Nat → Int64) → Int32 → Int32 → Int32 → Int32 → Int32 → Int32 → Int32 → Int32 → (Nat → Int32) → (Nat → Int32) → (Nat → Int32) → (Nat → Int32) → (Nat → Int32) → (Nat → Int32) → (Nat → Int32) → (Nat → Int32) → (Nat → Int32) → (Nat → Int32) → (Nat → Int64) → (Nat → Int32) → (Nat → Int32) → (Nat → Int64) → Int32 → Prop} (hk : ∀ (cpg : Int32) (cps : Int32) (cnf : Int32) (cnp : Int32) (cnq : Int32) (cns : Int32) (cpo : Int32) (cpt : Int32) (crf : Int32) (crl : Int32) (cbx : (Nat → Int32)) (cxl : (Nat → Int32)) (cxr : (Nat → Int32)) (cyl : (Nat → Int32)) (cyh : (Nat → Int32)) (cms : (Nat → Int32)) (cwt : (Nat → Int32)) (cpf : (Nat → Int32)) (cnr : (Nat → Int64)) (csl : (Nat → Int32)) (ccl : (Nat → Int32)) (chu : (Nat → Int32)) (cuu : (Nat → Int32)) (cpd : (Nat → Int64)) (cro : (Nat → Int32)) (crc : (Nat → Int64)) (ou : (Nat → Int64)) (mkc : Int32) (mkd : Int32) (mkn : Int32) (mkp : Int32) (mka : Int32) (mkt : Int32) (mku : Int32) (mkr : Int32) (mcn : (Nat → Int32)) (mxs : (Nat → Int32)) (mys : (Nat → Int32)) (mx2 : (Nat → Int32)) (my2 : (Nat → Int32)) (mmy : (Nat → Int32)) (mtl : (Nat → Int32)) (mpo : (Nat → Int32)) (mso : (Nat → Int32)) (mst : (Nat → Int32)) (mnr : (Nat → Int64)) (mco : (Nat → Int32)) (mrg : (Nat → Int32)) (mre : (Nat → Int64)) (v4 : Int32) (ls : Array Slot) (H : Heap) (locs : List Loc), k cpg cps cnf cnp cnq cns cpo cpt crf crl cbx cxl cxr cyl cyh cms cwt cpf cnr csl ccl chu cuu cpd cro crc ou mkc mkd mkn mkp mka mkt mku mkr mcn mxs mys mx2 my2 mmy mtl mpo mso mst mnr mco mrg mre v4 → lv_has ls 8 [(0, .ref b), (1, .ref (q 0)), (2, .ref (q 22)), (3, .ref (q 21)), (4, .int v4)] → va_P (dC, dI) vwCl (WL q cI cJ cZ cpg cps cnf cnp cnq cns cpo cpt crf crl cbx cxl cxr cyl cyh cms cwt cpf cnr csl ccl chu cuu cpd cro crc ou) H → va_P (dC, dI) vwCl (WM (fun z => q (22 + z)) cI cJ cZ mkc mkd mkn mkp mka mkt mku mkr mcn mxs mys mx2 my2 mmy mtl mpo mso mst mnr mco mrg mre) H → va_S (fun x => s.heap.size ≤ x) s.heap H locs → W p l e room_1 s m #[Value.ref b] below meth c H locs (cells + 2) (slots + 12) (lw_Z below #[Value.ref b] s) (F0 m 23 ls [])) : ∀ (cpg : Int32) (cps : Int32) (cnf : Int32) (cnp : Int32) (cnq : Int32) (cns : Int32) (cpo : Int32) (cpt : Int32) (crf : Int32) (crl : Int32) (cbx : (Nat → Int32)) (cxl : (Nat → Int32)) (cxr : (Nat → Int32)) (cyl : (Nat → Int32)) (cyh : (Nat → Int32)) (cms : (Nat → Int32)) (cwt : (Nat → Int32)) (cpf : (Nat → Int32)) (cnr : (Nat → Int64)) (csl : (Nat → Int32)) (ccl : (Nat → Int32)) (chu : (Nat → Int32)) (cuu : (Nat → Int32)) (cpd : (Nat → Int64)) (cro : (Nat → Int32)) (crc : (Nat → Int64)) (ou : (Nat → Int64)) (mkc : Int32) (mkd : Int32) (mkn : Int32) (mkp : Int32) (mka : Int32) (mkt : Int32) (mku : Int32) (mkr : Int32) (mcn : (Nat → Int32)) (mxs : (Nat → Int32)) (mys : (Nat → Int32)) (mx2 : (Nat → Int32)) (my2 : (Nat → Int32)) (mmy : (Nat → Int32)) (mtl : (Nat → Int32)) (mpo : (Nat → Int32)) (mso : (Nat → Int32)) (mst : (Nat → Int32)) (mnr : (Nat → Int64)) (mco : (Nat → Int32)) (mrg : (Nat → Int32)) (mre : (Nat → Int64)) (v4 : Int32) (ls : Array Slot) (H : Heap) (locs : List Loc), cs_507 L xs cpg cps cnf cnp cnq cns cpo cpt crf crl cbx cxl cxr cyl cyh cms cwt cpf cnr csl ccl chu cuu cpd cro crc ou mkc mkd mkn mkp mka mkt mku mkr mcn mxs mys mx2 my2 mmy mtl mpo mso mst mnr mco mrg mre v4 k → lv_has ls 8 [(0, .ref b), (1, .ref (q 0)), (2, .ref (q 22)), (3, .ref (q 21)), (4, .int v4)] → va_P (dC, dI) vwCl (WL q cI cJ cZ cpg cps cnf cnp cnq cns cpo cpt crf crl cbx cxl cxr cyl cyh cms cwt cpf cnr csl ccl chu cuu cpd cro crc ou) H → va_P (dC, dI) vwCl (WM (fun z => q (22 + z)) cI cJ cZ mkc mkd mkn mkp mka mkt mku mkr mcn mxs mys mx2 my2 mmy mtl mpo mso mst mnr mco mrg mre) H → va_S (fun x => s.heap.size ≤ x) s.heap H locs → W p l e room_1 s m #[Value.ref b] below meth c H locs cells slots (lw_Z below #[Value.ref b] s) (F0 m 507 ls []) := by
  obtain ⟨hx, hb, hml, hown, hts, hX, hbl, hK, ha, hq, hN, hE, hC⟩ := id C
  have hbA : ¬ (fun q : Nat => s.heap.size ≤ q) b := Nat.not_le.mpr hbl
  intro cpg cps cnf cnp cnq cns cpo cpt crf crl cbx cxl cxr cyl cyh cms cwt cpf cnr csl ccl chu cuu cpd cro crc ou mkc mkd mkn mkp mka mkt mku mkr mcn mxs mys mx2 my2 mmy mtl mpo mso mst mnr mco mrg mre v4 ls H locs h hl hP hM hS
  unfold cs_507 at h
  refine lv_aload_n hx hb dL_law_507 rfl (lv_at hl 1 rfl) ?_
  refine lv_aload_n hx hb dL_law_508 rfl (lv_at hl 0 rfl) ?_
  refine lv_iload hx hb dL_law_509 (lv_at hl 4 rfl) ?_
  refine lv_iconst (v := 1) hx hb dL_law_511 (by decide) ?_
  refine lv_iadd hx hb dL_law_512 ?_
  obtain ⟨b135, h⟩ := h
  refine va_sld hx hb hX hbl hbA hS b135 dL_law_513 ?_
  refine lv_aload_n hx hb dL_law_514 rfl (lv_at hl 0 rfl) ?_
  refine lv_iload hx hb dL_law_515 (lv_at hl 4 rfl) ?_
  refine lv_iconst (v := 2) hx hb dL_law_517 (by decide) ?_
  refine lv_iadd hx hb dL_law_518 ?_
  obtain ⟨b136, h⟩ := h
  refine va_sld hx hb hX hbl hbA hS b136 dL_law_519 ?_
  refine lv_aload_n hx hb dL_law_520 rfl (lv_at hl 3 rfl) ?_
  refine ga_i (vx_runSX (As := [.ref (q 0), .int (xs (v4 + 1).toNatClampNeg), .int (xs (v4 + 2).toNatClampNeg), .ref (q 21)]) (rest := []) ⟨hx, hb, hml, hown, hts⟩ (ktL_part l hlt dC dI q cI cJ cZ H.size cpg cps cnf cnp cnq cns cpo cpt crf crl cbx cxl cxr cyl cyh cms cwt cpf cnr csl ccl chu cuu cpd cro crc ou ((xs (v4 + 1).toNatClampNeg)) ((xs (v4 + 2).toNatClampNeg)) h) (vx_cwSW 4 hts gL_law_L_part rfl rfl rfl (by decide +kernel) ⟨Nat.le_of_ble_eq_true rfl, Nat.le_of_ble_eq_true rfl⟩) ⟨wl.blind, fun U hU hW => ⟨rfl, ⟨wd.at hP hK (fun i j hi hj => ha i j (by omega) (by omega)) hN hU hW, hE.at hS hU hW (fun x hx9 => AF_AL (i0 := 0) (n := 22) hq (by omega) hS.1 x (by simpa using hx9))⟩, hC.moved hW.alike⟩⟩ rfl rfl hl.1 rfl (lv_room (Nat.le_of_ble_eq_true rfl)) dL_law_521 ⟨show _ ≤ 1075 by omega, show _ ≤ 9480 by omega⟩) hS ha hq rfl hM (fun r137 u138 H locs h hP hM hS => ?_)
  have hP : va_P (dC, dI) vwCl (WL q cI cJ cZ cpg cps u138.1 u138.2.1 u138.2.2.1 u138.2.2.2.1 cpo cpt crf crl cbx cxl cxr cyl cyh cms cwt u138.2.2.2.2.1 u138.2.2.2.2.2.1 u138.2.2.2.2.2.2.1 u138.2.2.2.2.2.2.2.1 chu cuu cpd cro crc u138.2.2.2.2.2.2.2.2) H := hP
  have hM : va_P (dC, dI) vwCl (WM (fun z => q (22 + z)) cI cJ cZ mkc mkd mkn mkp mka mkt mku mkr mcn mxs mys mx2 my2 mmy mtl mpo mso mst mnr mco mrg mre) H := hM
  refine lv_istore (lv' := [(5, .int r137), (0, .ref b), (1, .ref (q 0)), (2, .ref (q 22)), (3, .ref (q 21)), (4, .int v4)]) hx hb dL_law_524 hl (by decide) rfl (fun ls hl => ?_)
  refine lv_aload_n hx hb dL_law_526 rfl (lv_at hl 3 rfl) ?_
  refine lv_aload_n hx hb dL_law_527 rfl (lv_at hl 1 rfl) ?_
  refine lv_iload hx hb dL_law_528 (lv_at hl 5 rfl) ?_
  refine lv_iconst (v := 1) hx hb dL_law_530 (by decide) ?_
  refine lv_iadd hx hb dL_law_531 ?_
  obtain ⟨b139, h⟩ := h
  refine va_sld hx hb hX hbl hbA hS b139 dL_law_532 ?_
  refine lv_aload_n hx hb dL_law_533 rfl (lv_at hl 1 rfl) ?_
  refine lv_iload hx hb dL_law_534 (lv_at hl 5 rfl) ?_
  refine lv_iconst (v := 2) hx hb dL_law_536 (by decide) ?_
  refine lv_iadd hx hb dL_law_537 ?_
  obtain ⟨b140, h⟩ := h
  refine va_sld hx hb hX hbl hbA hS b140 dL_law_538 ?_
  refine gc_i (va_runV (As := [.int (xs (v4 + 1).toNatClampNeg), .int (xs (v4 + 2).toNatClampNeg)]) (rest := []) ⟨hx, hb, hml, hown, hts⟩ (ktX5_part l dC dI (fun z => q (22 + z)) cI cJ cZ H.size mkc mkd mkn mkp mka mkt mku mkr mcn mxs mys mx2 my2 mmy mtl mpo mso mst mnr mco mrg mre ((xs (v4 + 1).toNatClampNeg)) ((xs (v4 + 2).toNatClampNeg)) h) (cwV 2 hts gL_law_X5_part rfl rfl rfl (by decide +kernel) ⟨Nat.le_of_ble_eq_true rfl, Nat.le_of_ble_eq_true rfl⟩) ⟨wd.blind, va_recv hK hM (ci := 5) (q0 := 0) rfl rfl, fun U hU hW => ⟨rfl, wd.at hM hK (fun i j hi hj e9 => Nat.add_left_cancel (ha (22 + i) (22 + j) (by omega) (by omega) e9)) hN hU hW⟩⟩ rfl rfl hl.1 rfl (lv_room (Nat.le_of_ble_eq_true rfl)) dL_law_539 ⟨show _ ≤ 1075 by omega, show _ ≤ 9480 by omega⟩) hS ha hq rfl hP (fun r141 u142 H locs h hP hM hS => ?_)
  have hP : va_P (dC, dI) vwCl (WL q cI cJ cZ cpg cps u138.1 u138.2.1 u138.2.2.1 u138.2.2.2.1 cpo cpt crf crl cbx cxl cxr cyl cyh cms cwt u138.2.2.2.2.1 u138.2.2.2.2.2.1 u138.2.2.2.2.2.2.1 u138.2.2.2.2.2.2.2.1 chu cuu cpd cro crc u138.2.2.2.2.2.2.2.2) H := hP
  have hM : va_P (dC, dI) vwCl (WM (fun z => q (22 + z)) cI cJ cZ u142.1 mkd mkn u142.2.1 mka mkt mku mkr mcn mxs mys mx2 my2 mmy mtl u142.2.2.1 u142.2.2.2.1 u142.2.2.2.2.1 u142.2.2.2.2.2 mco mrg mre) H := hM
  refine lv_istore (lv' := [(6, .int r141), (5, .int r137), (0, .ref b), (1, .ref (q 0)), (2, .ref (q 22)), (3, .ref (q 21)), (4, .int v4)]) hx hb dL_law_542 hl (by decide) rfl (fun ls hl => ?_)
  refine lv_aload_n hx hb dL_law_544 rfl (lv_at hl 4 rfl) ?_
  refine gc_i (va_runV (As := []) (rest := []) ⟨hx, hb, hml, hown, hts⟩ (ktX5_thrown l dC dI (fun z => q (22 + z)) cI cJ cZ H.size u142.1 mkd mkn u142.2.1 mka mkt mku mkr mcn mxs mys mx2 my2 mmy mtl u142.2.2.1 u142.2.2.2.1 u142.2.2.2.2.1 u142.2.2.2.2.2 mco mrg mre  h) (cwV 0 hts gL_law_X5_thrown rfl rfl rfl (by decide +kernel) ⟨Nat.le_of_ble_eq_true rfl, Nat.le_of_ble_eq_true rfl⟩) ⟨wd.blind, va_recv hK hM (ci := 5) (q0 := 0) rfl rfl, fun U hU hW => ⟨rfl, wd.at hM hK (fun i j hi hj e9 => Nat.add_left_cancel (ha (22 + i) (22 + j) (by omega) (by omega) e9)) hN hU hW⟩⟩ rfl rfl hl.1 rfl (lv_room (Nat.le_of_ble_eq_true rfl)) dL_law_545 ⟨show _ ≤ 1075 by omega, show _ ≤ 9480 by omega⟩) hS ha hq rfl hP (fun r143 _ H locs h hP hM hS => ?_)
  have hP : va_P (dC, dI) vwCl (WL q cI cJ cZ cpg cps u138.1 u138.2.1 u138.2.2.1 u138.2.2.2.1 cpo cpt crf crl cbx cxl cxr cyl cyh cms cwt u138.2.2.2.2.1 u138.2.2.2.2.2.1 u138.2.2.2.2.2.2.1 u138.2.2.2.2.2.2.2.1 chu cuu cpd cro crc u138.2.2.2.2.2.2.2.2) H := hP
  have hM : va_P (dC, dI) vwCl (WM (fun z => q (22 + z)) cI cJ cZ u142.1 mkd mkn u142.2.1 mka mkt mku mkr mcn mxs mys mx2 my2 mmy mtl u142.2.2.1 u142.2.2.2.1 u142.2.2.2.2.1 u142.2.2.2.2.2 mco mrg mre) H := hM
  refine lv_iload hx hb dL_law_548 (lv_at hl 1 rfl) ?_
  refine lv_icmp_eq (tgt := 555) hx hb dL_law_550 (by decide) (fun c145 => ?_) (fun c145 => ?_)
  · have h := h.1 c145
    refine lv_iload hx hb dL_law_555 (lv_at hl 1 rfl) ?_
    refine lv_if_ne (tgt := 572) hx hb dL_law_557 (by decide) (fun c146 => ?_) (fun c146 => ?_)
    · have h := h.1 c146
      refine lv_goto (tgt := 998) hx hb dL_law_572 (by decide) ?_
      obtain ⟨i147, ei147⟩ : ∃ y : Int32, y = v4 + 6 := ⟨_, rfl⟩
      refine lv_iinc (v := i147) (lv' := [(4, .int i147), (6, .int r141), (5, .int r137), (0, .ref b), (1, .ref (q 0)), (2, .ref (q 22)), (3, .ref (q 21))]) hx hb dL_law_998 hl (k := 6) rfl (by rw [ei147]; rfl) (by decide) rfl (fun ls hl => ?_)
      have h := h i147 ei147
      refine lv_goto (tgt := 23) hx hb dL_law_1001 (by decide) ?_
      refine W.widen (k := cells + 2) (n := slots + 12) (by omega) (by omega) ?_
      exact hk cpg cps u138.1 u138.2.1 u138.2.2.1 u138.2.2.2.1 cpo cpt crf crl cbx cxl cxr cyl cyh cms cwt u138.2.2.2.2.1 u138.2.2.2.2.2.1 u138.2.2.2.2.2.2.1 u138.2.2.2.2.2.2.2.1 chu cuu cpd cro crc u138.2.2.2.2.2.2.2.2 u142.1 mkd mkn u142.2.1 mka mkt mku mkr mcn mxs mys mx2 my2 mmy mtl u142.2.2.1 u142.2.2.2.1 u142.2.2.2.2.1 u142.2.2.2.2.2 mco mrg mre i147 ls H locs h (lv_sub hl [3, 4, 5, 6, 0] rfl) hP hM hS
    · have h := h.2 c146
      refine lv_aload_n hx hb dL_law_560 rfl (lv_at hl 5 rfl) ?_
      refine lv_iconst (v := 0) hx hb dL_law_561 (by decide) ?_
      obtain ⟨b148, h⟩ := h
      refine va_lald (D := (dC, dI)) hx hb hK hP 21 1 rfl rfl b148 dL_law_562 ?_
      refine lv_iload hx hb dL_law_563 (lv_at hl 0 rfl) ?_
      refine lv_i2l hx hb dL_law_565 rfl ?_
      refine W.lcmp hx hb dL_law_566 ?_
      refine lv_if_eq (tgt := 572) hx hb dL_law_567 (by decide) (fun c149 => ?_) (fun c149 => ?_)
      · have h := h.1 c149
        refine lv_goto (tgt := 998) hx hb dL_law_572 (by decide) ?_
        obtain ⟨i150, ei150⟩ : ∃ y : Int32, y = v4 + 6 := ⟨_, rfl⟩
        refine lv_iinc (v := i150) (lv' := [(4, .int i150), (6, .int r141), (5, .int r137), (0, .ref b), (1, .ref (q 0)), (2, .ref (q 22)), (3, .ref (q 21))]) hx hb dL_law_998 hl (k := 6) rfl (by rw [ei150]; rfl) (by decide) rfl (fun ls hl => ?_)
        have h := h i150 ei150
        refine lv_goto (tgt := 23) hx hb dL_law_1001 (by decide) ?_
        refine W.widen (k := cells + 2) (n := slots + 12) (by omega) (by omega) ?_
        exact hk cpg cps u138.1 u138.2.1 u138.2.2.1 u138.2.2.2.1 cpo cpt crf crl cbx cxl cxr cyl cyh cms cwt u138.2.2.2.2.1 u138.2.2.2.2.2.1 u138.2.2.2.2.2.2.1 u138.2.2.2.2.2.2.2.1 chu cuu cpd cro crc u138.2.2.2.2.2.2.2.2 u142.1 mkd mkn u142.2.1 mka mkt mku mkr mcn mxs mys mx2 my2 mmy mtl u142.2.2.1 u142.2.2.2.1 u142.2.2.2.2.1 u142.2.2.2.2.2 mco mrg mre i150 ls H locs h (lv_sub hl [3, 4, 5, 6, 0] rfl) hP hM hS
      · have h := h.2 c149
        exact (h : False).elim
  · have h := h.2 c145
    exact (h : False).elim

def cs_575 (L : Nat) (xs : Nat → Int32) (cpg : Int32) (cps : Int32) (cnf : Int32) (cnp : Int32) (cnq : Int32) (cns : Int32) (cpo : Int32) (cpt : Int32) (crf : Int32) (crl : Int32) (cbx : (Nat → Int32)) (cxl : (Nat → Int32)) (cxr : (Nat → Int32)) (cyl : (Nat → Int32)) (cyh : (Nat → Int32)) (cms : (Nat → Int32)) (cwt : (Nat → Int32)) (cpf : (Nat → Int32)) (cnr : (Nat → Int64)) (csl : (Nat → Int32)) (ccl : (Nat → Int32)) (chu : (Nat → Int32)) (cuu : (Nat → Int32)) (cpd : (Nat → Int64)) (cro : (Nat → Int32)) (crc : (Nat → Int64)) (ou : (Nat → Int64)) (mkc : Int32) (mkd : Int32) (mkn : Int32) (mkp : Int32) (mka : Int32) (mkt : Int32) (mku : Int32) (mkr : Int32) (mcn : (Nat → Int32)) (mxs : (Nat → Int32)) (mys : (Nat → Int32)) (mx2 : (Nat → Int32)) (my2 : (Nat → Int32)) (mmy : (Nat → Int32)) (mtl : (Nat → Int32)) (mpo : (Nat → Int32)) (mso : (Nat → Int32)) (mst : (Nat → Int32)) (mnr : (Nat → Int64)) (mco : (Nat → Int32)) (mrg : (Nat → Int32)) (mre : (Nat → Int64)) (v4 : Int32) (k : Int32 → Int32 → Int32 → Int32 → Int32 → Int32 → Int32 → Int32 → Int32 → Int32 → (Nat → Int32) → (Nat → Int32) → (Nat → Int32) → (Nat → Int32) → (Nat → Int32) → (Nat → Int32) → (Nat → Int32) → (Nat → Int32) → (Nat → Int64) → (Nat → Int32) → (Nat → Int32) → (Nat → Int32) → (Nat → Int32) → (Nat → Int64) → (Nat → Int32) → (Nat → Int64) → (Nat → Int64) → Int32 → Int32 → Int32 → Int32 → Int32 → Int32 → Int32 → Int32 → (Nat → Int32) → (Nat → Int32) → (Nat → Int32) → (Nat → Int32) → (Nat → Int32) → (Nat → Int32) → (Nat → Int32) → (Nat → Int32) → (Nat → Int32) → (Nat → Int32) → (Nat → Int64) → (Nat → Int32) → (Nat → Int32) → (Nat → Int64) → Int32 → Prop) : Prop := (vp_in ((v4 + 1)) L ∧ (vp_in ((v4 + 2)) L ∧ (wL_pair cpg cps cbx cxl cxr cyl cyh cms cwt cnf cnp cnq cns cpf cnr csl ccl ou ((xs (v4 + 1).toNatClampNeg)) ((xs (v4 + 2).toNatClampNeg)) (fun (r153 : Int32) (u154 : Int32 × Int32 × Int32 × Int32 × (Nat → Int32) × (Nat → Int64) × (Nat → Int32) × (Nat → Int32) × (Nat → Int64)) => (vp_in ((v4 + 1)) L ∧ (vp_in ((v4 + 2)) L ∧ (wX5_pair mkd mkn mcn mxs mys mx2 my2 mmy mkc mkp mpo mso mst mnr ((xs (v4 + 1).toNatClampNeg)) ((xs (v4 + 2).toNatClampNeg)) (fun (r157 : Int32) (u158 : Int32 × Int32 × (Nat → Int32) × (Nat → Int32) × (Nat → Int32) × (Nat → Int64)) => (wX5_thrown u158.1  (fun (r159 : Int32) => ((r159 = r153 → ((¬ r153 = 0 → (∀ i163 : Int32, i163 = v4 + 6 → k cpg cps u154.1 u154.2.1 u154.2.2.1 u154.2.2.2.1 cpo cpt crf crl cbx cxl cxr cyl cyh cms cwt u154.2.2.2.2.1 u154.2.2.2.2.2.1 u154.2.2.2.2.2.2.1 u154.2.2.2.2.2.2.2.1 chu cuu cpd cro crc u154.2.2.2.2.2.2.2.2 u158.1 mkd mkn u158.2.1 mka mkt mku mkr mcn mxs mys mx2 my2 mmy mtl u158.2.2.1 u158.2.2.2.1 u158.2.2.2.2.1 u158.2.2.2.2.2 mco mrg mre i163)) ∧ (r153 = 0 → (vp_in 0 1 ∧ (((lg_cmp ((u154.2.2.2.2.2.2.2.2 (0 : Int32).toNatClampNeg)) r157.toInt64) = 0 → (∀ i166 : Int32, i166 = v4 + 6 → k cpg cps u154.1 u154.2.1 u154.2.2.1 u154.2.2.2.1 cpo cpt crf crl cbx cxl cxr cyl cyh cms cwt u154.2.2.2.2.1 u154.2.2.2.2.2.1 u154.2.2.2.2.2.2.1 u154.2.2.2.2.2.2.2.1 chu cuu cpd cro crc u154.2.2.2.2.2.2.2.2 u158.1 mkd mkn u158.2.1 mka mkt mku mkr mcn mxs mys mx2 my2 mmy mtl u158.2.2.1 u158.2.2.2.1 u158.2.2.2.2.1 u158.2.2.2.2.2 mco mrg mre i166)) ∧ (¬ ((lg_cmp ((u154.2.2.2.2.2.2.2.2 (0 : Int32).toNatClampNeg)) r157.toInt64) = 0) → False)))))) ∧ (¬ (r159 = r153) → False))))))))))))
set_option maxHeartbeats 4000000 in
set_option maxRecDepth 100000 in
theorem mcs_575 {p : Program} {l : Launch} {e : Env} {s : State} {m : MethodId} {below : List Frame} {meth : Method} {c : Code} {b L : Nat} {xs : Nat → Int32} {dC : Nat → ClassId} {dI : Nat → Nat → Nat} {cI cJ cZ : ClassId} {q : Nat → Nat} (hlt : l.stackTraces = false) (C : LX p s m meth c b L xs dC dI cI cJ cZ q) (cells slots : Nat) (hc : cells + 2 ≤ 1075) (hs : slots + 12 ≤ 9480) {k : Int32 → Int32 → Int32 → Int32 → Int32 → Int32 → Int32 → Int32 → Int32 → Int32 → (Nat → Int32) → (Nat → Int32) → (Nat → Int32) → (Nat → Int32) → (Nat → Int32) → (Nat → Int32) → (Nat → Int32) → (Nat → Int32) → (Nat → Int64) → (Nat → Int32) → (Nat → Int32) → (Nat → Int32) → (Nat → Int32) → (Nat → Int64) → (Nat → Int32) → (Nat → Int64) → (Nat → Int64) → Int32 → Int32 → Int32 → Int32 → Int32 → Int32 → Int32 → Int32 → (Nat → Int32) → (Nat → Int32) → (Nat → Int32) → (Nat → Int32) → (Nat → Int32) → (Nat → Int32) → (Nat → Int32) → (Nat → Int32) → (Nat → Int32) → (Nat → Int32) → (Nat → Int64) → (Nat → Int32) → (Nat → Int32) → (Nat → Int64) → Int32 → Prop} (hk : ∀ (cpg : Int32) (cps : Int32) (cnf : Int32) (cnp : Int32) (cnq : Int32) (cns : Int32) (cpo : Int32) (cpt : Int32) (crf : Int32) (crl : Int32) (cbx : (Nat → Int32)) (cxl : (Nat → Int32)) (cxr : (Nat → Int32)) (cyl : (Nat → Int32)) (cyh : (Nat → Int32)) (cms : (Nat → Int32)) (cwt : (Nat → Int32)) (cpf : (Nat → Int32)) (cnr : (Nat → Int64)) (csl : (Nat → Int32)) (ccl : (Nat → Int32)) (chu : (Nat → Int32)) (cuu : (Nat → Int32)) (cpd : (Nat → Int64)) (cro : (Nat → Int32)) (crc : (Nat → Int64)) (ou : (Nat → Int64)) (mkc : Int32) (mkd : Int32) (mkn : Int32) (mkp : Int32) (mka : Int32) (mkt : Int32) (mku : Int32) (mkr : Int32) (mcn : (Nat → Int32)) (mxs : (Nat → Int32)) (mys : (Nat → Int32)) (mx2 : (Nat → Int32)) (my2 : (Nat → Int32)) (mmy : (Nat → Int32)) (mtl : (Nat → Int32)) (mpo : (Nat → Int32)) (mso : (Nat → Int32)) (mst : (Nat → Int32)) (mnr : (Nat → Int64)) (mco : (Nat → Int32)) (mrg : (Nat → Int32)) (mre : (Nat → Int64)) (v4 : Int32) (ls : Array Slot) (H : Heap) (locs : List Loc), k cpg cps cnf cnp cnq cns cpo cpt crf crl cbx cxl cxr cyl cyh cms cwt cpf cnr csl ccl chu cuu cpd cro crc ou mkc mkd mkn mkp mka mkt mku mkr mcn mxs mys mx2 my2 mmy mtl mpo mso mst mnr mco mrg mre v4 → lv_has ls 8 [(0, .ref b), (1, .ref (q 0)), (2, .ref (q 22)), (3, .ref (q 21)), (4, .int v4)] → va_P (dC, dI) vwCl (WL q cI cJ cZ cpg cps cnf cnp cnq cns cpo cpt crf crl cbx cxl cxr cyl cyh cms cwt cpf cnr csl ccl chu cuu cpd cro crc ou) H → va_P (dC, dI) vwCl (WM (fun z => q (22 + z)) cI cJ cZ mkc mkd mkn mkp mka mkt mku mkr mcn mxs mys mx2 my2 mmy mtl mpo mso mst mnr mco mrg mre) H → va_S (fun x => s.heap.size ≤ x) s.heap H locs → W p l e room_1 s m #[Value.ref b] below meth c H locs (cells + 2) (slots + 12) (lw_Z below #[Value.ref b] s) (F0 m 23 ls [])) : ∀ (cpg : Int32) (cps : Int32) (cnf : Int32) (cnp : Int32) (cnq : Int32) (cns : Int32) (cpo : Int32) (cpt : Int32) (crf : Int32) (crl : Int32) (cbx : (Nat → Int32)) (cxl : (Nat → Int32)) (cxr : (Nat → Int32)) (cyl : (Nat → Int32)) (cyh : (Nat → Int32)) (cms : (Nat → Int32)) (cwt : (Nat → Int32)) (cpf : (Nat → Int32)) (cnr : (Nat → Int64)) (csl : (Nat → Int32)) (ccl : (Nat → Int32)) (chu : (Nat → Int32)) (cuu : (Nat → Int32)) (cpd : (Nat → Int64)) (cro : (Nat → Int32)) (crc : (Nat → Int64)) (ou : (Nat → Int64)) (mkc : Int32) (mkd : Int32) (mkn : Int32) (mkp : Int32) (mka : Int32) (mkt : Int32) (mku : Int32) (mkr : Int32) (mcn : (Nat → Int32)) (mxs : (Nat → Int32)) (mys : (Nat → Int32)) (mx2 : (Nat → Int32)) (my2 : (Nat → Int32)) (mmy : (Nat → Int32)) (mtl : (Nat → Int32)) (mpo : (Nat → Int32)) (mso : (Nat → Int32)) (mst : (Nat → Int32)) (mnr : (Nat → Int64)) (mco : (Nat → Int32)) (mrg : (Nat → Int32)) (mre : (Nat → Int64)) (v4 : Int32) (ls : Array Slot) (H : Heap) (locs : List Loc), cs_575 L xs cpg cps cnf cnp cnq cns cpo cpt crf crl cbx cxl cxr cyl cyh cms cwt cpf cnr csl ccl chu cuu cpd cro crc ou mkc mkd mkn mkp mka mkt mku mkr mcn mxs mys mx2 my2 mmy mtl mpo mso mst mnr mco mrg mre v4 k → lv_has ls 8 [(0, .ref b), (1, .ref (q 0)), (2, .ref (q 22)), (3, .ref (q 21)), (4, .int v4)] → va_P (dC, dI) vwCl (WL q cI cJ cZ cpg cps cnf cnp cnq cns cpo cpt crf crl cbx cxl cxr cyl cyh cms cwt cpf cnr csl ccl chu cuu cpd cro crc ou) H → va_P (dC, dI) vwCl (WM (fun z => q (22 + z)) cI cJ cZ mkc mkd mkn mkp mka mkt mku mkr mcn mxs mys mx2 my2 mmy mtl mpo mso mst mnr mco mrg mre) H → va_S (fun x => s.heap.size ≤ x) s.heap H locs → W p l e room_1 s m #[Value.ref b] below meth c H locs cells slots (lw_Z below #[Value.ref b] s) (F0 m 575 ls []) := by
  obtain ⟨hx, hb, hml, hown, hts, hX, hbl, hK, ha, hq, hN, hE, hC⟩ := id C
  have hbA : ¬ (fun q : Nat => s.heap.size ≤ q) b := Nat.not_le.mpr hbl
  intro cpg cps cnf cnp cnq cns cpo cpt crf crl cbx cxl cxr cyl cyh cms cwt cpf cnr csl ccl chu cuu cpd cro crc ou mkc mkd mkn mkp mka mkt mku mkr mcn mxs mys mx2 my2 mmy mtl mpo mso mst mnr mco mrg mre v4 ls H locs h hl hP hM hS
  unfold cs_575 at h
  refine lv_aload_n hx hb dL_law_575 rfl (lv_at hl 1 rfl) ?_
  refine lv_aload_n hx hb dL_law_576 rfl (lv_at hl 0 rfl) ?_
  refine lv_iload hx hb dL_law_577 (lv_at hl 4 rfl) ?_
  refine lv_iconst (v := 1) hx hb dL_law_579 (by decide) ?_
  refine lv_iadd hx hb dL_law_580 ?_
  obtain ⟨b151, h⟩ := h
  refine va_sld hx hb hX hbl hbA hS b151 dL_law_581 ?_
  refine lv_aload_n hx hb dL_law_582 rfl (lv_at hl 0 rfl) ?_
  refine lv_iload hx hb dL_law_583 (lv_at hl 4 rfl) ?_
  refine lv_iconst (v := 2) hx hb dL_law_585 (by decide) ?_
  refine lv_iadd hx hb dL_law_586 ?_
  obtain ⟨b152, h⟩ := h
  refine va_sld hx hb hX hbl hbA hS b152 dL_law_587 ?_
  refine lv_aload_n hx hb dL_law_588 rfl (lv_at hl 3 rfl) ?_
  refine ga_i (vx_runSX (As := [.ref (q 0), .int (xs (v4 + 1).toNatClampNeg), .int (xs (v4 + 2).toNatClampNeg), .ref (q 21)]) (rest := []) ⟨hx, hb, hml, hown, hts⟩ (ktL_pair l hlt dC dI q cI cJ cZ H.size cpg cps cnf cnp cnq cns cpo cpt crf crl cbx cxl cxr cyl cyh cms cwt cpf cnr csl ccl chu cuu cpd cro crc ou ((xs (v4 + 1).toNatClampNeg)) ((xs (v4 + 2).toNatClampNeg)) h) (vx_cwSW 4 hts gL_law_L_pair rfl rfl rfl (by decide +kernel) ⟨Nat.le_of_ble_eq_true rfl, Nat.le_of_ble_eq_true rfl⟩) ⟨wl.blind, fun U hU hW => ⟨rfl, ⟨wd.at hP hK (fun i j hi hj => ha i j (by omega) (by omega)) hN hU hW, hE.at hS hU hW (fun x hx9 => AF_AL (i0 := 0) (n := 22) hq (by omega) hS.1 x (by simpa using hx9))⟩, hC.moved hW.alike⟩⟩ rfl rfl hl.1 rfl (lv_room (Nat.le_of_ble_eq_true rfl)) dL_law_589 ⟨show _ ≤ 1075 by omega, show _ ≤ 9480 by omega⟩) hS ha hq rfl hM (fun r153 u154 H locs h hP hM hS => ?_)
  have hP : va_P (dC, dI) vwCl (WL q cI cJ cZ cpg cps u154.1 u154.2.1 u154.2.2.1 u154.2.2.2.1 cpo cpt crf crl cbx cxl cxr cyl cyh cms cwt u154.2.2.2.2.1 u154.2.2.2.2.2.1 u154.2.2.2.2.2.2.1 u154.2.2.2.2.2.2.2.1 chu cuu cpd cro crc u154.2.2.2.2.2.2.2.2) H := hP
  have hM : va_P (dC, dI) vwCl (WM (fun z => q (22 + z)) cI cJ cZ mkc mkd mkn mkp mka mkt mku mkr mcn mxs mys mx2 my2 mmy mtl mpo mso mst mnr mco mrg mre) H := hM
  refine lv_istore (lv' := [(5, .int r153), (0, .ref b), (1, .ref (q 0)), (2, .ref (q 22)), (3, .ref (q 21)), (4, .int v4)]) hx hb dL_law_592 hl (by decide) rfl (fun ls hl => ?_)
  refine lv_aload_n hx hb dL_law_594 rfl (lv_at hl 3 rfl) ?_
  refine lv_aload_n hx hb dL_law_595 rfl (lv_at hl 1 rfl) ?_
  refine lv_iload hx hb dL_law_596 (lv_at hl 5 rfl) ?_
  refine lv_iconst (v := 1) hx hb dL_law_598 (by decide) ?_
  refine lv_iadd hx hb dL_law_599 ?_
  obtain ⟨b155, h⟩ := h
  refine va_sld hx hb hX hbl hbA hS b155 dL_law_600 ?_
  refine lv_aload_n hx hb dL_law_601 rfl (lv_at hl 1 rfl) ?_
  refine lv_iload hx hb dL_law_602 (lv_at hl 5 rfl) ?_
  refine lv_iconst (v := 2) hx hb dL_law_604 (by decide) ?_
  refine lv_iadd hx hb dL_law_605 ?_
  obtain ⟨b156, h⟩ := h
  refine va_sld hx hb hX hbl hbA hS b156 dL_law_606 ?_
  refine gc_i (va_runV (As := [.int (xs (v4 + 1).toNatClampNeg), .int (xs (v4 + 2).toNatClampNeg)]) (rest := []) ⟨hx, hb, hml, hown, hts⟩ (ktX5_pair l dC dI (fun z => q (22 + z)) cI cJ cZ H.size mkc mkd mkn mkp mka mkt mku mkr mcn mxs mys mx2 my2 mmy mtl mpo mso mst mnr mco mrg mre ((xs (v4 + 1).toNatClampNeg)) ((xs (v4 + 2).toNatClampNeg)) h) (cwV 2 hts gL_law_X5_pair rfl rfl rfl (by decide +kernel) ⟨Nat.le_of_ble_eq_true rfl, Nat.le_of_ble_eq_true rfl⟩) ⟨wd.blind, va_recv hK hM (ci := 5) (q0 := 0) rfl rfl, fun U hU hW => ⟨rfl, wd.at hM hK (fun i j hi hj e9 => Nat.add_left_cancel (ha (22 + i) (22 + j) (by omega) (by omega) e9)) hN hU hW⟩⟩ rfl rfl hl.1 rfl (lv_room (Nat.le_of_ble_eq_true rfl)) dL_law_607 ⟨show _ ≤ 1075 by omega, show _ ≤ 9480 by omega⟩) hS ha hq rfl hP (fun r157 u158 H locs h hP hM hS => ?_)
  have hP : va_P (dC, dI) vwCl (WL q cI cJ cZ cpg cps u154.1 u154.2.1 u154.2.2.1 u154.2.2.2.1 cpo cpt crf crl cbx cxl cxr cyl cyh cms cwt u154.2.2.2.2.1 u154.2.2.2.2.2.1 u154.2.2.2.2.2.2.1 u154.2.2.2.2.2.2.2.1 chu cuu cpd cro crc u154.2.2.2.2.2.2.2.2) H := hP
  have hM : va_P (dC, dI) vwCl (WM (fun z => q (22 + z)) cI cJ cZ u158.1 mkd mkn u158.2.1 mka mkt mku mkr mcn mxs mys mx2 my2 mmy mtl u158.2.2.1 u158.2.2.2.1 u158.2.2.2.2.1 u158.2.2.2.2.2 mco mrg mre) H := hM
  refine lv_istore (lv' := [(6, .int r157), (5, .int r153), (0, .ref b), (1, .ref (q 0)), (2, .ref (q 22)), (3, .ref (q 21)), (4, .int v4)]) hx hb dL_law_610 hl (by decide) rfl (fun ls hl => ?_)
  refine lv_aload_n hx hb dL_law_612 rfl (lv_at hl 4 rfl) ?_
  refine gc_i (va_runV (As := []) (rest := []) ⟨hx, hb, hml, hown, hts⟩ (ktX5_thrown l dC dI (fun z => q (22 + z)) cI cJ cZ H.size u158.1 mkd mkn u158.2.1 mka mkt mku mkr mcn mxs mys mx2 my2 mmy mtl u158.2.2.1 u158.2.2.2.1 u158.2.2.2.2.1 u158.2.2.2.2.2 mco mrg mre  h) (cwV 0 hts gL_law_X5_thrown rfl rfl rfl (by decide +kernel) ⟨Nat.le_of_ble_eq_true rfl, Nat.le_of_ble_eq_true rfl⟩) ⟨wd.blind, va_recv hK hM (ci := 5) (q0 := 0) rfl rfl, fun U hU hW => ⟨rfl, wd.at hM hK (fun i j hi hj e9 => Nat.add_left_cancel (ha (22 + i) (22 + j) (by omega) (by omega) e9)) hN hU hW⟩⟩ rfl rfl hl.1 rfl (lv_room (Nat.le_of_ble_eq_true rfl)) dL_law_613 ⟨show _ ≤ 1075 by omega, show _ ≤ 9480 by omega⟩) hS ha hq rfl hP (fun r159 _ H locs h hP hM hS => ?_)
  have hP : va_P (dC, dI) vwCl (WL q cI cJ cZ cpg cps u154.1 u154.2.1 u154.2.2.1 u154.2.2.2.1 cpo cpt crf crl cbx cxl cxr cyl cyh cms cwt u154.2.2.2.2.1 u154.2.2.2.2.2.1 u154.2.2.2.2.2.2.1 u154.2.2.2.2.2.2.2.1 chu cuu cpd cro crc u154.2.2.2.2.2.2.2.2) H := hP
  have hM : va_P (dC, dI) vwCl (WM (fun z => q (22 + z)) cI cJ cZ u158.1 mkd mkn u158.2.1 mka mkt mku mkr mcn mxs mys mx2 my2 mmy mtl u158.2.2.1 u158.2.2.2.1 u158.2.2.2.2.1 u158.2.2.2.2.2 mco mrg mre) H := hM
  refine lv_iload hx hb dL_law_616 (lv_at hl 1 rfl) ?_
  refine lv_icmp_eq (tgt := 623) hx hb dL_law_618 (by decide) (fun c161 => ?_) (fun c161 => ?_)
  · have h := h.1 c161
    refine lv_iload hx hb dL_law_623 (lv_at hl 1 rfl) ?_
    refine lv_if_ne (tgt := 640) hx hb dL_law_625 (by decide) (fun c162 => ?_) (fun c162 => ?_)
    · have h := h.1 c162
      refine lv_goto (tgt := 998) hx hb dL_law_640 (by decide) ?_
      obtain ⟨i163, ei163⟩ : ∃ y : Int32, y = v4 + 6 := ⟨_, rfl⟩
      refine lv_iinc (v := i163) (lv' := [(4, .int i163), (6, .int r157), (5, .int r153), (0, .ref b), (1, .ref (q 0)), (2, .ref (q 22)), (3, .ref (q 21))]) hx hb dL_law_998 hl (k := 6) rfl (by rw [ei163]; rfl) (by decide) rfl (fun ls hl => ?_)
      have h := h i163 ei163
      refine lv_goto (tgt := 23) hx hb dL_law_1001 (by decide) ?_
      refine W.widen (k := cells + 2) (n := slots + 12) (by omega) (by omega) ?_
      exact hk cpg cps u154.1 u154.2.1 u154.2.2.1 u154.2.2.2.1 cpo cpt crf crl cbx cxl cxr cyl cyh cms cwt u154.2.2.2.2.1 u154.2.2.2.2.2.1 u154.2.2.2.2.2.2.1 u154.2.2.2.2.2.2.2.1 chu cuu cpd cro crc u154.2.2.2.2.2.2.2.2 u158.1 mkd mkn u158.2.1 mka mkt mku mkr mcn mxs mys mx2 my2 mmy mtl u158.2.2.1 u158.2.2.2.1 u158.2.2.2.2.1 u158.2.2.2.2.2 mco mrg mre i163 ls H locs h (lv_sub hl [3, 4, 5, 6, 0] rfl) hP hM hS
    · have h := h.2 c162
      refine lv_aload_n hx hb dL_law_628 rfl (lv_at hl 5 rfl) ?_
      refine lv_iconst (v := 0) hx hb dL_law_629 (by decide) ?_
      obtain ⟨b164, h⟩ := h
      refine va_lald (D := (dC, dI)) hx hb hK hP 21 1 rfl rfl b164 dL_law_630 ?_
      refine lv_iload hx hb dL_law_631 (lv_at hl 0 rfl) ?_
      refine lv_i2l hx hb dL_law_633 rfl ?_
      refine W.lcmp hx hb dL_law_634 ?_
      refine lv_if_eq (tgt := 640) hx hb dL_law_635 (by decide) (fun c165 => ?_) (fun c165 => ?_)
      · have h := h.1 c165
        refine lv_goto (tgt := 998) hx hb dL_law_640 (by decide) ?_
        obtain ⟨i166, ei166⟩ : ∃ y : Int32, y = v4 + 6 := ⟨_, rfl⟩
        refine lv_iinc (v := i166) (lv' := [(4, .int i166), (6, .int r157), (5, .int r153), (0, .ref b), (1, .ref (q 0)), (2, .ref (q 22)), (3, .ref (q 21))]) hx hb dL_law_998 hl (k := 6) rfl (by rw [ei166]; rfl) (by decide) rfl (fun ls hl => ?_)
        have h := h i166 ei166
        refine lv_goto (tgt := 23) hx hb dL_law_1001 (by decide) ?_
        refine W.widen (k := cells + 2) (n := slots + 12) (by omega) (by omega) ?_
        exact hk cpg cps u154.1 u154.2.1 u154.2.2.1 u154.2.2.2.1 cpo cpt crf crl cbx cxl cxr cyl cyh cms cwt u154.2.2.2.2.1 u154.2.2.2.2.2.1 u154.2.2.2.2.2.2.1 u154.2.2.2.2.2.2.2.1 chu cuu cpd cro crc u154.2.2.2.2.2.2.2.2 u158.1 mkd mkn u158.2.1 mka mkt mku mkr mcn mxs mys mx2 my2 mmy mtl u158.2.2.1 u158.2.2.2.1 u158.2.2.2.2.1 u158.2.2.2.2.2 mco mrg mre i166 ls H locs h (lv_sub hl [3, 4, 5, 6, 0] rfl) hP hM hS
      · have h := h.2 c165
        exact (h : False).elim
  · have h := h.2 c161
    exact (h : False).elim

def cs_643 (L : Nat) (xs : Nat → Int32) (cpg : Int32) (cps : Int32) (cnf : Int32) (cnp : Int32) (cnq : Int32) (cns : Int32) (cpo : Int32) (cpt : Int32) (crf : Int32) (crl : Int32) (cbx : (Nat → Int32)) (cxl : (Nat → Int32)) (cxr : (Nat → Int32)) (cyl : (Nat → Int32)) (cyh : (Nat → Int32)) (cms : (Nat → Int32)) (cwt : (Nat → Int32)) (cpf : (Nat → Int32)) (cnr : (Nat → Int64)) (csl : (Nat → Int32)) (ccl : (Nat → Int32)) (chu : (Nat → Int32)) (cuu : (Nat → Int32)) (cpd : (Nat → Int64)) (cro : (Nat → Int32)) (crc : (Nat → Int64)) (ou : (Nat → Int64)) (mkc : Int32) (mkd : Int32) (mkn : Int32) (mkp : Int32) (mka : Int32) (mkt : Int32) (mku : Int32) (mkr : Int32) (mcn : (Nat → Int32)) (mxs : (Nat → Int32)) (mys : (Nat → Int32)) (mx2 : (Nat → Int32)) (my2 : (Nat → Int32)) (mmy : (Nat → Int32)) (mtl : (Nat → Int32)) (mpo : (Nat → Int32)) (mso : (Nat → Int32)) (mst : (Nat → Int32)) (mnr : (Nat → Int64)) (mco : (Nat → Int32)) (mrg : (Nat → Int32)) (mre : (Nat → Int64)) (v4 : Int32) (k : Int32 → Int32 → Int32 → Int32 → Int32 → Int32 → Int32 → Int32 → Int32 → Int32 → (Nat → Int32) → (Nat → Int32) → (Nat → Int32) → (Nat → Int32) → (Nat → Int32) → (Nat → Int32) → (Nat → Int32) → (Nat → Int32) → (Nat → Int64) → (Nat → Int32) → (Nat → Int32) → (Nat → Int32) → (Nat → Int32) → (Nat → Int64) → (Nat → Int32) → (Nat → Int64) → (Nat → Int64) → Int32 → Int32 → Int32 → Int32 → Int32 → Int32 → Int32 → Int32 → (Nat → Int32) → (Nat → Int32) → (Nat → Int32) → (Nat → Int32) → (Nat → Int32) → (Nat → Int32) → (Nat → Int32) → (Nat → Int32) → (Nat → Int32) → (Nat → Int32) → (Nat → Int64) → (Nat → Int32) → (Nat → Int32) → (Nat → Int64) → Int32 → Prop) : Prop := (vp_in ((v4 + 1)) L ∧ (vp_in ((v4 + 2)) L ∧ (wL_run cpg cps cbx cxl cxr cyl cyh cms cwt cnf cnp cnq cns cpo cpt cpf cnr csl ccl chu cuu cpd ou ((xs (v4 + 1).toNatClampNeg)) ((xs (v4 + 2).toNatClampNeg)) (fun (r169 : Int32) (u170 : Int32 × Int32 × Int32 × Int32 × Int32 × Int32 × (Nat → Int32) × (Nat → Int64) × (Nat → Int32) × (Nat → Int32) × (Nat → Int32) × (Nat → Int32) × (Nat → Int64) × (Nat → Int64)) => (vp_in ((v4 + 1)) L ∧ (vp_in ((v4 + 2)) L ∧ (wX5_run mkd mkn mcn mxs mys mx2 my2 mmy mtl mkc mkp mka mkt mku mpo mso mst mnr mco ((xs (v4 + 1).toNatClampNeg)) ((xs (v4 + 2).toNatClampNeg)) (fun (r173 : Int32) (u174 : Int32 × Int32 × Int32 × Int32 × Int32 × (Nat → Int32) × (Nat → Int32) × (Nat → Int32) × (Nat → Int64) × (Nat → Int32)) => (wX5_thrown u174.1  (fun (r175 : Int32) => ((r175 = r169 → ((¬ r169 = 0 → (∀ i179 : Int32, i179 = v4 + 6 → k cpg cps u170.1 u170.2.1 u170.2.2.1 u170.2.2.2.1 u170.2.2.2.2.1 u170.2.2.2.2.2.1 crf crl cbx cxl cxr cyl cyh cms cwt u170.2.2.2.2.2.2.1 u170.2.2.2.2.2.2.2.1 u170.2.2.2.2.2.2.2.2.1 u170.2.2.2.2.2.2.2.2.2.1 u170.2.2.2.2.2.2.2.2.2.2.1 u170.2.2.2.2.2.2.2.2.2.2.2.1 u170.2.2.2.2.2.2.2.2.2.2.2.2.1 cro crc u170.2.2.2.2.2.2.2.2.2.2.2.2.2 u174.1 mkd mkn u174.2.1 u174.2.2.1 u174.2.2.2.1 u174.2.2.2.2.1 mkr mcn mxs mys mx2 my2 mmy mtl u174.2.2.2.2.2.1 u174.2.2.2.2.2.2.1 u174.2.2.2.2.2.2.2.1 u174.2.2.2.2.2.2.2.2.1 u174.2.2.2.2.2.2.2.2.2 mrg mre i179)) ∧ (r169 = 0 → (vp_in 0 1 ∧ (((lg_cmp ((u170.2.2.2.2.2.2.2.2.2.2.2.2.2 (0 : Int32).toNatClampNeg)) r173.toInt64) = 0 → (∀ i182 : Int32, i182 = v4 + 6 → k cpg cps u170.1 u170.2.1 u170.2.2.1 u170.2.2.2.1 u170.2.2.2.2.1 u170.2.2.2.2.2.1 crf crl cbx cxl cxr cyl cyh cms cwt u170.2.2.2.2.2.2.1 u170.2.2.2.2.2.2.2.1 u170.2.2.2.2.2.2.2.2.1 u170.2.2.2.2.2.2.2.2.2.1 u170.2.2.2.2.2.2.2.2.2.2.1 u170.2.2.2.2.2.2.2.2.2.2.2.1 u170.2.2.2.2.2.2.2.2.2.2.2.2.1 cro crc u170.2.2.2.2.2.2.2.2.2.2.2.2.2 u174.1 mkd mkn u174.2.1 u174.2.2.1 u174.2.2.2.1 u174.2.2.2.2.1 mkr mcn mxs mys mx2 my2 mmy mtl u174.2.2.2.2.2.1 u174.2.2.2.2.2.2.1 u174.2.2.2.2.2.2.2.1 u174.2.2.2.2.2.2.2.2.1 u174.2.2.2.2.2.2.2.2.2 mrg mre i182)) ∧ (¬ ((lg_cmp ((u170.2.2.2.2.2.2.2.2.2.2.2.2.2 (0 : Int32).toNatClampNeg)) r173.toInt64) = 0) → False)))))) ∧ (¬ (r175 = r169) → False))))))))))))
set_option maxHeartbeats 4000000 in
set_option maxRecDepth 100000 in
theorem mcs_643 {p : Program} {l : Launch} {e : Env} {s : State} {m : MethodId} {below : List Frame} {meth : Method} {c : Code} {b L : Nat} {xs : Nat → Int32} {dC : Nat → ClassId} {dI : Nat → Nat → Nat} {cI cJ cZ : ClassId} {q : Nat → Nat} (hlt : l.stackTraces = false) (C : LX p s m meth c b L xs dC dI cI cJ cZ q) (cells slots : Nat) (hc : cells + 2 ≤ 1075) (hs : slots + 12 ≤ 9480) {k : Int32 → Int32 → Int32 → Int32 → Int32 → Int32 → Int32 → Int32 → Int32 → Int32 → (Nat → Int32) → (Nat → Int32) → (Nat → Int32) → (Nat → Int32) → (Nat → Int32) → (Nat → Int32) → (Nat → Int32) → (Nat → Int32) → (Nat → Int64) → (Nat → Int32) → (Nat → Int32) → (Nat → Int32) → (Nat → Int32) → (Nat → Int64) → (Nat → Int32) → (Nat → Int64) → (Nat → Int64) → Int32 → Int32 → Int32 → Int32 → Int32 → Int32 → Int32 → Int32 → (Nat → Int32) → (Nat → Int32) → (Nat → Int32) → (Nat → Int32) → (Nat → Int32) → (Nat → Int32) → (Nat → Int32) → (Nat → Int32) → (Nat → Int32) → (Nat → Int32) → (Nat → Int64) → (Nat → Int32) → (Nat → Int32) → (Nat → Int64) → Int32 → Prop} (hk : ∀ (cpg : Int32) (cps : Int32) (cnf : Int32) (cnp : Int32) (cnq : Int32) (cns : Int32) (cpo : Int32) (cpt : Int32) (crf : Int32) (crl : Int32) (cbx : (Nat → Int32)) (cxl : (Nat → Int32)) (cxr : (Nat → Int32)) (cyl : (Nat → Int32)) (cyh : (Nat → Int32)) (cms : (Nat → Int32)) (cwt : (Nat → Int32)) (cpf : (Nat → Int32)) (cnr : (Nat → Int64)) (csl : (Nat → Int32)) (ccl : (Nat → Int32)) (chu : (Nat → Int32)) (cuu : (Nat → Int32)) (cpd : (Nat → Int64)) (cro : (Nat → Int32)) (crc : (Nat → Int64)) (ou : (Nat → Int64)) (mkc : Int32) (mkd : Int32) (mkn : Int32) (mkp : Int32) (mka : Int32) (mkt : Int32) (mku : Int32) (mkr : Int32) (mcn : (Nat → Int32)) (mxs : (Nat → Int32)) (mys : (Nat → Int32)) (mx2 : (Nat → Int32)) (my2 : (Nat → Int32)) (mmy : (Nat → Int32)) (mtl : (Nat → Int32)) (mpo : (Nat → Int32)) (mso : (Nat → Int32)) (mst : (Nat → Int32)) (mnr : (Nat → Int64)) (mco : (Nat → Int32)) (mrg : (Nat → Int32)) (mre : (Nat → Int64)) (v4 : Int32) (ls : Array Slot) (H : Heap) (locs : List Loc), k cpg cps cnf cnp cnq cns cpo cpt crf crl cbx cxl cxr cyl cyh cms cwt cpf cnr csl ccl chu cuu cpd cro crc ou mkc mkd mkn mkp mka mkt mku mkr mcn mxs mys mx2 my2 mmy mtl mpo mso mst mnr mco mrg mre v4 → lv_has ls 8 [(0, .ref b), (1, .ref (q 0)), (2, .ref (q 22)), (3, .ref (q 21)), (4, .int v4)] → va_P (dC, dI) vwCl (WL q cI cJ cZ cpg cps cnf cnp cnq cns cpo cpt crf crl cbx cxl cxr cyl cyh cms cwt cpf cnr csl ccl chu cuu cpd cro crc ou) H → va_P (dC, dI) vwCl (WM (fun z => q (22 + z)) cI cJ cZ mkc mkd mkn mkp mka mkt mku mkr mcn mxs mys mx2 my2 mmy mtl mpo mso mst mnr mco mrg mre) H → va_S (fun x => s.heap.size ≤ x) s.heap H locs → W p l e room_1 s m #[Value.ref b] below meth c H locs (cells + 2) (slots + 12) (lw_Z below #[Value.ref b] s) (F0 m 23 ls [])) : ∀ (cpg : Int32) (cps : Int32) (cnf : Int32) (cnp : Int32) (cnq : Int32) (cns : Int32) (cpo : Int32) (cpt : Int32) (crf : Int32) (crl : Int32) (cbx : (Nat → Int32)) (cxl : (Nat → Int32)) (cxr : (Nat → Int32)) (cyl : (Nat → Int32)) (cyh : (Nat → Int32)) (cms : (Nat → Int32)) (cwt : (Nat → Int32)) (cpf : (Nat → Int32)) (cnr : (Nat → Int64)) (csl : (Nat → Int32)) (ccl : (Nat → Int32)) (chu : (Nat → Int32)) (cuu : (Nat → Int32)) (cpd : (Nat → Int64)) (cro : (Nat → Int32)) (crc : (Nat → Int64)) (ou : (Nat → Int64)) (mkc : Int32) (mkd : Int32) (mkn : Int32) (mkp : Int32) (mka : Int32) (mkt : Int32) (mku : Int32) (mkr : Int32) (mcn : (Nat → Int32)) (mxs : (Nat → Int32)) (mys : (Nat → Int32)) (mx2 : (Nat → Int32)) (my2 : (Nat → Int32)) (mmy : (Nat → Int32)) (mtl : (Nat → Int32)) (mpo : (Nat → Int32)) (mso : (Nat → Int32)) (mst : (Nat → Int32)) (mnr : (Nat → Int64)) (mco : (Nat → Int32)) (mrg : (Nat → Int32)) (mre : (Nat → Int64)) (v4 : Int32) (ls : Array Slot) (H : Heap) (locs : List Loc), cs_643 L xs cpg cps cnf cnp cnq cns cpo cpt crf crl cbx cxl cxr cyl cyh cms cwt cpf cnr csl ccl chu cuu cpd cro crc ou mkc mkd mkn mkp mka mkt mku mkr mcn mxs mys mx2 my2 mmy mtl mpo mso mst mnr mco mrg mre v4 k → lv_has ls 8 [(0, .ref b), (1, .ref (q 0)), (2, .ref (q 22)), (3, .ref (q 21)), (4, .int v4)] → va_P (dC, dI) vwCl (WL q cI cJ cZ cpg cps cnf cnp cnq cns cpo cpt crf crl cbx cxl cxr cyl cyh cms cwt cpf cnr csl ccl chu cuu cpd cro crc ou) H → va_P (dC, dI) vwCl (WM (fun z => q (22 + z)) cI cJ cZ mkc mkd mkn mkp mka mkt mku mkr mcn mxs mys mx2 my2 mmy mtl mpo mso mst mnr mco mrg mre) H → va_S (fun x => s.heap.size ≤ x) s.heap H locs → W p l e room_1 s m #[Value.ref b] below meth c H locs cells slots (lw_Z below #[Value.ref b] s) (F0 m 643 ls []) := by
  obtain ⟨hx, hb, hml, hown, hts, hX, hbl, hK, ha, hq, hN, hE, hC⟩ := id C
  have hbA : ¬ (fun q : Nat => s.heap.size ≤ q) b := Nat.not_le.mpr hbl
  intro cpg cps cnf cnp cnq cns cpo cpt crf crl cbx cxl cxr cyl cyh cms cwt cpf cnr csl ccl chu cuu cpd cro crc ou mkc mkd mkn mkp mka mkt mku mkr mcn mxs mys mx2 my2 mmy mtl mpo mso mst mnr mco mrg mre v4 ls H locs h hl hP hM hS
  unfold cs_643 at h
  refine lv_aload_n hx hb dL_law_643 rfl (lv_at hl 1 rfl) ?_
  refine lv_aload_n hx hb dL_law_644 rfl (lv_at hl 0 rfl) ?_
  refine lv_iload hx hb dL_law_645 (lv_at hl 4 rfl) ?_
  refine lv_iconst (v := 1) hx hb dL_law_647 (by decide) ?_
  refine lv_iadd hx hb dL_law_648 ?_
  obtain ⟨b167, h⟩ := h
  refine va_sld hx hb hX hbl hbA hS b167 dL_law_649 ?_
  refine lv_aload_n hx hb dL_law_650 rfl (lv_at hl 0 rfl) ?_
  refine lv_iload hx hb dL_law_651 (lv_at hl 4 rfl) ?_
  refine lv_iconst (v := 2) hx hb dL_law_653 (by decide) ?_
  refine lv_iadd hx hb dL_law_654 ?_
  obtain ⟨b168, h⟩ := h
  refine va_sld hx hb hX hbl hbA hS b168 dL_law_655 ?_
  refine lv_aload_n hx hb dL_law_656 rfl (lv_at hl 3 rfl) ?_
  refine ga_i (vx_runSX (As := [.ref (q 0), .int (xs (v4 + 1).toNatClampNeg), .int (xs (v4 + 2).toNatClampNeg), .ref (q 21)]) (rest := []) ⟨hx, hb, hml, hown, hts⟩ (ktL_run l hlt dC dI q cI cJ cZ H.size cpg cps cnf cnp cnq cns cpo cpt crf crl cbx cxl cxr cyl cyh cms cwt cpf cnr csl ccl chu cuu cpd cro crc ou ((xs (v4 + 1).toNatClampNeg)) ((xs (v4 + 2).toNatClampNeg)) h) (vx_cwSW 4 hts gL_law_L_run rfl rfl rfl (by decide +kernel) ⟨Nat.le_of_ble_eq_true rfl, Nat.le_of_ble_eq_true rfl⟩) ⟨wl.blind, fun U hU hW => ⟨rfl, ⟨wd.at hP hK (fun i j hi hj => ha i j (by omega) (by omega)) hN hU hW, hE.at hS hU hW (fun x hx9 => AF_AL (i0 := 0) (n := 22) hq (by omega) hS.1 x (by simpa using hx9))⟩, hC.moved hW.alike⟩⟩ rfl rfl hl.1 rfl (lv_room (Nat.le_of_ble_eq_true rfl)) dL_law_657 ⟨show _ ≤ 1075 by omega, show _ ≤ 9480 by omega⟩) hS ha hq rfl hM (fun r169 u170 H locs h hP hM hS => ?_)
  have hP : va_P (dC, dI) vwCl (WL q cI cJ cZ cpg cps u170.1 u170.2.1 u170.2.2.1 u170.2.2.2.1 u170.2.2.2.2.1 u170.2.2.2.2.2.1 crf crl cbx cxl cxr cyl cyh cms cwt u170.2.2.2.2.2.2.1 u170.2.2.2.2.2.2.2.1 u170.2.2.2.2.2.2.2.2.1 u170.2.2.2.2.2.2.2.2.2.1 u170.2.2.2.2.2.2.2.2.2.2.1 u170.2.2.2.2.2.2.2.2.2.2.2.1 u170.2.2.2.2.2.2.2.2.2.2.2.2.1 cro crc u170.2.2.2.2.2.2.2.2.2.2.2.2.2) H := hP
  have hM : va_P (dC, dI) vwCl (WM (fun z => q (22 + z)) cI cJ cZ mkc mkd mkn mkp mka mkt mku mkr mcn mxs mys mx2 my2 mmy mtl mpo mso mst mnr mco mrg mre) H := hM
  refine lv_istore (lv' := [(5, .int r169), (0, .ref b), (1, .ref (q 0)), (2, .ref (q 22)), (3, .ref (q 21)), (4, .int v4)]) hx hb dL_law_660 hl (by decide) rfl (fun ls hl => ?_)
  refine lv_aload_n hx hb dL_law_662 rfl (lv_at hl 3 rfl) ?_
  refine lv_aload_n hx hb dL_law_663 rfl (lv_at hl 1 rfl) ?_
  refine lv_iload hx hb dL_law_664 (lv_at hl 5 rfl) ?_
  refine lv_iconst (v := 1) hx hb dL_law_666 (by decide) ?_
  refine lv_iadd hx hb dL_law_667 ?_
  obtain ⟨b171, h⟩ := h
  refine va_sld hx hb hX hbl hbA hS b171 dL_law_668 ?_
  refine lv_aload_n hx hb dL_law_669 rfl (lv_at hl 1 rfl) ?_
  refine lv_iload hx hb dL_law_670 (lv_at hl 5 rfl) ?_
  refine lv_iconst (v := 2) hx hb dL_law_672 (by decide) ?_
  refine lv_iadd hx hb dL_law_673 ?_
  obtain ⟨b172, h⟩ := h
  refine va_sld hx hb hX hbl hbA hS b172 dL_law_674 ?_
  refine gc_i (va_runV (As := [.int (xs (v4 + 1).toNatClampNeg), .int (xs (v4 + 2).toNatClampNeg)]) (rest := []) ⟨hx, hb, hml, hown, hts⟩ (ktX5_run l dC dI (fun z => q (22 + z)) cI cJ cZ H.size mkc mkd mkn mkp mka mkt mku mkr mcn mxs mys mx2 my2 mmy mtl mpo mso mst mnr mco mrg mre ((xs (v4 + 1).toNatClampNeg)) ((xs (v4 + 2).toNatClampNeg)) h) (cwV 2 hts gL_law_X5_run rfl rfl rfl (by decide +kernel) ⟨Nat.le_of_ble_eq_true rfl, Nat.le_of_ble_eq_true rfl⟩) ⟨wd.blind, va_recv hK hM (ci := 5) (q0 := 0) rfl rfl, fun U hU hW => ⟨rfl, wd.at hM hK (fun i j hi hj e9 => Nat.add_left_cancel (ha (22 + i) (22 + j) (by omega) (by omega) e9)) hN hU hW⟩⟩ rfl rfl hl.1 rfl (lv_room (Nat.le_of_ble_eq_true rfl)) dL_law_675 ⟨show _ ≤ 1075 by omega, show _ ≤ 9480 by omega⟩) hS ha hq rfl hP (fun r173 u174 H locs h hP hM hS => ?_)
  have hP : va_P (dC, dI) vwCl (WL q cI cJ cZ cpg cps u170.1 u170.2.1 u170.2.2.1 u170.2.2.2.1 u170.2.2.2.2.1 u170.2.2.2.2.2.1 crf crl cbx cxl cxr cyl cyh cms cwt u170.2.2.2.2.2.2.1 u170.2.2.2.2.2.2.2.1 u170.2.2.2.2.2.2.2.2.1 u170.2.2.2.2.2.2.2.2.2.1 u170.2.2.2.2.2.2.2.2.2.2.1 u170.2.2.2.2.2.2.2.2.2.2.2.1 u170.2.2.2.2.2.2.2.2.2.2.2.2.1 cro crc u170.2.2.2.2.2.2.2.2.2.2.2.2.2) H := hP
  have hM : va_P (dC, dI) vwCl (WM (fun z => q (22 + z)) cI cJ cZ u174.1 mkd mkn u174.2.1 u174.2.2.1 u174.2.2.2.1 u174.2.2.2.2.1 mkr mcn mxs mys mx2 my2 mmy mtl u174.2.2.2.2.2.1 u174.2.2.2.2.2.2.1 u174.2.2.2.2.2.2.2.1 u174.2.2.2.2.2.2.2.2.1 u174.2.2.2.2.2.2.2.2.2 mrg mre) H := hM
  refine lv_istore (lv' := [(6, .int r173), (5, .int r169), (0, .ref b), (1, .ref (q 0)), (2, .ref (q 22)), (3, .ref (q 21)), (4, .int v4)]) hx hb dL_law_678 hl (by decide) rfl (fun ls hl => ?_)
  refine lv_aload_n hx hb dL_law_680 rfl (lv_at hl 4 rfl) ?_
  refine gc_i (va_runV (As := []) (rest := []) ⟨hx, hb, hml, hown, hts⟩ (ktX5_thrown l dC dI (fun z => q (22 + z)) cI cJ cZ H.size u174.1 mkd mkn u174.2.1 u174.2.2.1 u174.2.2.2.1 u174.2.2.2.2.1 mkr mcn mxs mys mx2 my2 mmy mtl u174.2.2.2.2.2.1 u174.2.2.2.2.2.2.1 u174.2.2.2.2.2.2.2.1 u174.2.2.2.2.2.2.2.2.1 u174.2.2.2.2.2.2.2.2.2 mrg mre  h) (cwV 0 hts gL_law_X5_thrown rfl rfl rfl (by decide +kernel) ⟨Nat.le_of_ble_eq_true rfl, Nat.le_of_ble_eq_true rfl⟩) ⟨wd.blind, va_recv hK hM (ci := 5) (q0 := 0) rfl rfl, fun U hU hW => ⟨rfl, wd.at hM hK (fun i j hi hj e9 => Nat.add_left_cancel (ha (22 + i) (22 + j) (by omega) (by omega) e9)) hN hU hW⟩⟩ rfl rfl hl.1 rfl (lv_room (Nat.le_of_ble_eq_true rfl)) dL_law_681 ⟨show _ ≤ 1075 by omega, show _ ≤ 9480 by omega⟩) hS ha hq rfl hP (fun r175 _ H locs h hP hM hS => ?_)
  have hP : va_P (dC, dI) vwCl (WL q cI cJ cZ cpg cps u170.1 u170.2.1 u170.2.2.1 u170.2.2.2.1 u170.2.2.2.2.1 u170.2.2.2.2.2.1 crf crl cbx cxl cxr cyl cyh cms cwt u170.2.2.2.2.2.2.1 u170.2.2.2.2.2.2.2.1 u170.2.2.2.2.2.2.2.2.1 u170.2.2.2.2.2.2.2.2.2.1 u170.2.2.2.2.2.2.2.2.2.2.1 u170.2.2.2.2.2.2.2.2.2.2.2.1 u170.2.2.2.2.2.2.2.2.2.2.2.2.1 cro crc u170.2.2.2.2.2.2.2.2.2.2.2.2.2) H := hP
  have hM : va_P (dC, dI) vwCl (WM (fun z => q (22 + z)) cI cJ cZ u174.1 mkd mkn u174.2.1 u174.2.2.1 u174.2.2.2.1 u174.2.2.2.2.1 mkr mcn mxs mys mx2 my2 mmy mtl u174.2.2.2.2.2.1 u174.2.2.2.2.2.2.1 u174.2.2.2.2.2.2.2.1 u174.2.2.2.2.2.2.2.2.1 u174.2.2.2.2.2.2.2.2.2 mrg mre) H := hM
  refine lv_iload hx hb dL_law_684 (lv_at hl 1 rfl) ?_
  refine lv_icmp_eq (tgt := 691) hx hb dL_law_686 (by decide) (fun c177 => ?_) (fun c177 => ?_)
  · have h := h.1 c177
    refine lv_iload hx hb dL_law_691 (lv_at hl 1 rfl) ?_
    refine lv_if_ne (tgt := 708) hx hb dL_law_693 (by decide) (fun c178 => ?_) (fun c178 => ?_)
    · have h := h.1 c178
      refine lv_goto (tgt := 998) hx hb dL_law_708 (by decide) ?_
      obtain ⟨i179, ei179⟩ : ∃ y : Int32, y = v4 + 6 := ⟨_, rfl⟩
      refine lv_iinc (v := i179) (lv' := [(4, .int i179), (6, .int r173), (5, .int r169), (0, .ref b), (1, .ref (q 0)), (2, .ref (q 22)), (3, .ref (q 21))]) hx hb dL_law_998 hl (k := 6) rfl (by rw [ei179]; rfl) (by decide) rfl (fun ls hl => ?_)
      have h := h i179 ei179
      refine lv_goto (tgt := 23) hx hb dL_law_1001 (by decide) ?_
      refine W.widen (k := cells + 2) (n := slots + 12) (by omega) (by omega) ?_
      exact hk cpg cps u170.1 u170.2.1 u170.2.2.1 u170.2.2.2.1 u170.2.2.2.2.1 u170.2.2.2.2.2.1 crf crl cbx cxl cxr cyl cyh cms cwt u170.2.2.2.2.2.2.1 u170.2.2.2.2.2.2.2.1 u170.2.2.2.2.2.2.2.2.1 u170.2.2.2.2.2.2.2.2.2.1 u170.2.2.2.2.2.2.2.2.2.2.1 u170.2.2.2.2.2.2.2.2.2.2.2.1 u170.2.2.2.2.2.2.2.2.2.2.2.2.1 cro crc u170.2.2.2.2.2.2.2.2.2.2.2.2.2 u174.1 mkd mkn u174.2.1 u174.2.2.1 u174.2.2.2.1 u174.2.2.2.2.1 mkr mcn mxs mys mx2 my2 mmy mtl u174.2.2.2.2.2.1 u174.2.2.2.2.2.2.1 u174.2.2.2.2.2.2.2.1 u174.2.2.2.2.2.2.2.2.1 u174.2.2.2.2.2.2.2.2.2 mrg mre i179 ls H locs h (lv_sub hl [3, 4, 5, 6, 0] rfl) hP hM hS
    · have h := h.2 c178
      refine lv_aload_n hx hb dL_law_696 rfl (lv_at hl 5 rfl) ?_
      refine lv_iconst (v := 0) hx hb dL_law_697 (by decide) ?_
      obtain ⟨b180, h⟩ := h
      refine va_lald (D := (dC, dI)) hx hb hK hP 21 1 rfl rfl b180 dL_law_698 ?_
      refine lv_iload hx hb dL_law_699 (lv_at hl 0 rfl) ?_
      refine lv_i2l hx hb dL_law_701 rfl ?_
      refine W.lcmp hx hb dL_law_702 ?_
      refine lv_if_eq (tgt := 708) hx hb dL_law_703 (by decide) (fun c181 => ?_) (fun c181 => ?_)
      · have h := h.1 c181
        refine lv_goto (tgt := 998) hx hb dL_law_708 (by decide) ?_
        obtain ⟨i182, ei182⟩ : ∃ y : Int32, y = v4 + 6 := ⟨_, rfl⟩
        refine lv_iinc (v := i182) (lv' := [(4, .int i182), (6, .int r173), (5, .int r169), (0, .ref b), (1, .ref (q 0)), (2, .ref (q 22)), (3, .ref (q 21))]) hx hb dL_law_998 hl (k := 6) rfl (by rw [ei182]; rfl) (by decide) rfl (fun ls hl => ?_)
        have h := h i182 ei182
        refine lv_goto (tgt := 23) hx hb dL_law_1001 (by decide) ?_
        refine W.widen (k := cells + 2) (n := slots + 12) (by omega) (by omega) ?_
        exact hk cpg cps u170.1 u170.2.1 u170.2.2.1 u170.2.2.2.1 u170.2.2.2.2.1 u170.2.2.2.2.2.1 crf crl cbx cxl cxr cyl cyh cms cwt u170.2.2.2.2.2.2.1 u170.2.2.2.2.2.2.2.1 u170.2.2.2.2.2.2.2.2.1 u170.2.2.2.2.2.2.2.2.2.1 u170.2.2.2.2.2.2.2.2.2.2.1 u170.2.2.2.2.2.2.2.2.2.2.2.1 u170.2.2.2.2.2.2.2.2.2.2.2.2.1 cro crc u170.2.2.2.2.2.2.2.2.2.2.2.2.2 u174.1 mkd mkn u174.2.1 u174.2.2.1 u174.2.2.2.1 u174.2.2.2.2.1 mkr mcn mxs mys mx2 my2 mmy mtl u174.2.2.2.2.2.1 u174.2.2.2.2.2.2.1 u174.2.2.2.2.2.2.2.1 u174.2.2.2.2.2.2.2.2.1 u174.2.2.2.2.2.2.2.2.2 mrg mre i182 ls H locs h (lv_sub hl [3, 4, 5, 6, 0] rfl) hP hM hS
      · have h := h.2 c181
        exact (h : False).elim
  · have h := h.2 c177
    exact (h : False).elim
