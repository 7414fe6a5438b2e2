theorem fwX0_areNear_29 : Cond.fieldLink RX0 29 "MaskParts$Net" "near" "[J" ∈ wsX0_areNear := by decide +kernel
set_option maxRecDepth 20000 in
theorem iwX0_areNear_X0 : ∀ w ∈ wsX00, w ∈ wsX0_areNear := by decide +kernel
theorem nwX0_areNear_i : Cond.initialized RX4 ∈ wsX0_areNear := by decide +kernel
theorem nwX0_areNear_s : Cond.static yX4_bit ∈ wsX0_areNear := by decide +kernel
abbrev QX0_areNear (dC : Nat → ClassId) (dI : Nat → Nat → Nat) (cI cJ cZ : ClassId) (q : Nat → Nat) (sz : Nat) (pg : Int32) (ps : Int32) (nf : Int32) (np : Int32) (nq : Int32) (ns : Int32) (po : Int32) (pt : Int32) (rf : Int32) (rl : Int32) (bx : (Nat → Int32)) (xl : (Nat → Int32)) (xr : (Nat → Int32)) (yl : (Nat → Int32)) (yh : (Nat → Int32)) (ms : (Nat → Int32)) (wt : (Nat → Int32)) (pf : (Nat → Int32)) (nr : (Nat → Int64)) (sl : (Nat → Int32)) (cl : (Nat → Int32)) (hu : (Nat → Int32)) (uu : (Nat → Int32)) (pd : (Nat → Int64)) (ro : (Nat → Int32)) (rc : (Nat → Int64)) (K : Int32 → Prop) : Array Value → State → Outcome → State → Prop := va_Qi (fun (r : Int32) (u : Unit) => K r) (fun (u : Unit) t => va_P (dC, dI) vwCl (WC q cI cJ cZ pg ps nf np nq ns po pt rf rl bx xl xr yl yh ms wt pf nr sl cl hu uu pd ro rc) t.heap) (AF q 21 sz)
def wX0_areNear (nr : (Nat → Int64)) (v1 : Int32) (v2 : Int32) (K : Int32 → Prop) : Prop := (vp_in v1 40 ∧ (wX4_bit v2 (fun r2 : Int64 => (((lg_cmp (((nr v1.toNatClampNeg) &&& r2)) 0) = 0 → K 0 ) ∧ (¬ ((lg_cmp (((nr v1.toNatClampNeg) &&& r2)) 0) = 0) → K 1 )))))
set_option maxHeartbeats 4000000 in
set_option maxRecDepth 100000 in
theorem ktX0_areNear (l : Launch) (dC : Nat → ClassId) (dI : Nat → Nat → Nat) (q : Nat → Nat) (cI cJ cZ : ClassId) (sz : Nat) (pg : Int32) (ps : Int32) (nf : Int32) (np : Int32) (nq : Int32) (ns : Int32) (po : Int32) (pt : Int32) (rf : Int32) (rl : Int32) (bx : (Nat → Int32)) (xl : (Nat → Int32)) (xr : (Nat → Int32)) (yl : (Nat → Int32)) (yh : (Nat → Int32)) (ms : (Nat → Int32)) (wt : (Nat → Int32)) (pf : (Nat → Int32)) (nr : (Nat → Int64)) (sl : (Nat → Int32)) (cl : (Nat → Int32)) (hu : (Nat → Int32)) (uu : (Nat → Int32)) (pd : (Nat → Int64)) (ro : (Nat → Int32)) (rc : (Nat → Int64)) (v1 : Int32) (v2 : Int32) {K : Int32 → Prop} (h : wX0_areNear nr v1 v2 K) : Met l yX0_areNear wsX0_areNear { frames := 1, cells := 0, slots := 0, locals := 20 } (va_Pc [.ref (q 2), .int v1, .int v2] (wd dC dI cI cJ cZ q 21 sz (WC q cI cJ cZ pg ps nf np nq ns po pt rf rl bx xl xr yl yh ms wt pf nr sl cl hu uu pd ro rc))) (QX0_areNear dC dI cI cJ cZ q sz pg ps nf np nq ns po pt rf rl bx xl xr yl yh ms wt pf nr sl cl hu uu pd ro rc K) 0 0 (AF q 21 sz) := by
  refine met_of [.ref (q 2), .int v1, .int v2] (by decide +kernel) rfl (Nat.le_of_ble_eq_true rfl) ?_
  intro p e s m below meth c ls hsz C hK ha hN hl hP
  subst hsz
  obtain ⟨hx, hb, hr, hml, hown, hts, hlk⟩ := id C
  have hl : lv_has ls 3 [(0, .ref (q 2)), (1, .int v1), (2, .int v2)] := hl
  refine w_go (Pw := fun H => va_P (dC, dI) vwCl (WC q cI cJ cZ pg ps nf np nq ns po pt rf rl bx xl xr yl yh ms wt pf nr sl cl hu uu pd ro rc) H) (A := AF q 21 s.heap.size) (fun H locs hP hS => ?_) hP
  unfold wX0_areNear at h
  refine lv_aload_n hx hb dX0_areNear_0 rfl (lv_at hl 0 rfl) ?_
  refine va_get (D := (dC, dI)) (ci := 0) (v := .ref (q 13)) (C := RX0) (T := TX0) (N := 9) hx hb hts iwX0_areNear_X0 hown hK hP 2 rfl rfl 6 (by decide) (hts _ fwX0_areNear_29) (fun _ h9 => h9) rfl dX0_areNear_1 ?_
  refine lv_iload_n hx hb dX0_areNear_4 rfl (lv_at hl 1 rfl) ?_
  obtain ⟨b1, h⟩ := h
  refine va_lald (D := (dC, dI)) hx hb hK hP 13 1 rfl rfl b1 dX0_areNear_5 ?_
  refine lv_iload_n hx hb dX0_areNear_6 rfl (lv_at hl 2 rfl) ?_
  refine cl_pl (va_runSN (host := "MaskParts") (As := [.int v2]) (rest := [.long (nr v1.toNatClampNeg)]) ⟨hx, hb, hml, hown, hts⟩ (ktX4_bit l H.size v2 h) ⟨va_cnB 1 hts gX0_areNear_X4_bit_n89 rfl rfl rfl hN.1 (hts _ nwX0_areNear_i) (by decide +kernel) ⟨Nat.le_of_ble_eq_true rfl, Nat.le_of_ble_eq_true rfl⟩, hts _ nwX0_areNear_s, trivial⟩ ⟨pz.blind, fun U hU _ => ⟨rfl, pz.at hU⟩⟩ rfl rfl hl.1 rfl (lv_room (Nat.le_of_ble_eq_true rfl)) dX0_areNear_7 ⟨Nat.le_of_ble_eq_true rfl, Nat.le_of_ble_eq_true rfl⟩) hP hS (fun r2 _ H locs h hP hS => ?_)
  refine lv_land hx hb dX0_areNear_10 ?_
  refine lv_lconst (v := 0) hx hb dX0_areNear_11 (by decide) ?_
  refine W.lcmp hx hb dX0_areNear_12 ?_
  refine lv_if_eq (tgt := 20) hx hb dX0_areNear_13 (by decide) (fun c4 => ?_) (fun c4 => ?_)
  · have h := h.1 c4
    refine lv_iconst (v := 0) hx hb dX0_areNear_20 (by decide) ?_
    exact rt_z () hx hb hr hlk (by decide) h (fun t ht => by rw [ht]; exact hP) hS dX0_areNear_21
  · have h := h.2 c4
    refine lv_iconst (v := 1) hx hb dX0_areNear_16 (by decide) ?_
    refine lv_goto (tgt := 21) hx hb dX0_areNear_17 (by decide) ?_
    exact rt_z () hx hb hr hlk (by decide) h (fun t ht => by rw [ht]; exact hP) hS dX0_areNear_21

theorem fwX0_link_29 : Cond.fieldLink RX0 29 "MaskParts$Net" "near" "[J" ∈ wsX0_link := by decide +kernel
set_option maxRecDepth 20000 in
theorem iwX0_link_X0 : ∀ w ∈ wsX00, w ∈ wsX0_link := by decide +kernel
theorem nwX0_link_i : Cond.initialized RX4 ∈ wsX0_link := by decide +kernel
theorem nwX0_link_s : Cond.static yX4_bit ∈ wsX0_link := by decide +kernel
theorem fwX0_link_19 : Cond.fieldLink RX0 19 "MaskParts$Net" "pairs" "I" ∈ wsX0_link := by decide +kernel
abbrev QX0_link (dC : Nat → ClassId) (dI : Nat → Nat → Nat) (cI cJ cZ : ClassId) (q : Nat → Nat) (sz : Nat) (pg : Int32) (ps : Int32) (nf : Int32) (np : Int32) (ns : Int32) (po : Int32) (pt : Int32) (rf : Int32) (rl : Int32) (bx : (Nat → Int32)) (xl : (Nat → Int32)) (xr : (Nat → Int32)) (yl : (Nat → Int32)) (yh : (Nat → Int32)) (ms : (Nat → Int32)) (wt : (Nat → Int32)) (pf : (Nat → Int32)) (sl : (Nat → Int32)) (cl : (Nat → Int32)) (hu : (Nat → Int32)) (uu : (Nat → Int32)) (pd : (Nat → Int64)) (ro : (Nat → Int32)) (rc : (Nat → Int64)) (K : (Int32 × (Nat → Int64)) → Prop) : Array Value → State → Outcome → State → Prop := va_Qv (fun (u : Int32 × (Nat → Int64)) => K u) (fun (u : Int32 × (Nat → Int64)) t => va_P (dC, dI) vwCl (WC q cI cJ cZ pg ps nf np u.1 ns po pt rf rl bx xl xr yl yh ms wt pf u.2 sl cl hu uu pd ro rc) t.heap) (AF q 21 sz)
def wX0_link (nq : Int32) (nr : (Nat → Int64)) (v1 : Int32) (v2 : Int32) (K : (Int32 × (Nat → Int64)) → Prop) : Prop := (wX0_areNear nr v1 v2 (fun (r1 : Int32) => ((¬ r1 = 0 → K (nq, nr)) ∧ (r1 = 0 → (vp_in v1 40 ∧ (wX4_bit v2 (fun r5 : Int64 => (vp_in v1 40 ∧ (∀ f8 : (Nat → Int64), f8 = vp_updL nr v1.toNatClampNeg (((nr v1.toNatClampNeg) ||| r5)) → (vp_in v2 40 ∧ (wX4_bit v1 (fun r10 : Int64 => (vp_in v2 40 ∧ (∀ f13 : (Nat → Int64), f13 = vp_updL f8 v2.toNatClampNeg (((f8 v2.toNatClampNeg) ||| r10)) → (∀ i14 : Int32, i14 = (nq + 1) → K (i14, f13))))))))))))))))
set_option maxHeartbeats 4000000 in
set_option maxRecDepth 100000 in
theorem ktX0_link (l : Launch) (dC : Nat → ClassId) (dI : Nat → Nat → Nat) (q : Nat → Nat) (cI cJ cZ : ClassId) (sz : Nat) (pg : Int32) (ps : Int32) (nf : Int32) (np : Int32) (nq : Int32) (ns : Int32) (po : Int32) (pt : Int32) (rf : Int32) (rl : Int32) (bx : (Nat → Int32)) (xl : (Nat → Int32)) (xr : (Nat → Int32)) (yl : (Nat → Int32)) (yh : (Nat → Int32)) (ms : (Nat → Int32)) (wt : (Nat → Int32)) (pf : (Nat → Int32)) (nr : (Nat → Int64)) (sl : (Nat → Int32)) (cl : (Nat → Int32)) (hu : (Nat → Int32)) (uu : (Nat → Int32)) (pd : (Nat → Int64)) (ro : (Nat → Int32)) (rc : (Nat → Int64)) (v1 : Int32) (v2 : Int32) {K : (Int32 × (Nat → Int64)) → Prop} (h : wX0_link nq nr v1 v2 K) : Met l yX0_link wsX0_link { frames := 2, cells := 0, slots := 0, locals := 42 } (va_Pc [.ref (q 2), .int v1, .int v2] (wd dC dI cI cJ cZ q 21 sz (WC q cI cJ cZ pg ps nf np nq ns po pt rf rl bx xl xr yl yh ms wt pf nr sl cl hu uu pd ro rc))) (QX0_link dC dI cI cJ cZ q sz pg ps nf np ns po pt rf rl bx xl xr yl yh ms wt pf sl cl hu uu pd ro rc K) 0 0 (AF q 21 sz) := by
  refine met_of [.ref (q 2), .int v1, .int v2] (by decide +kernel) rfl (Nat.le_of_ble_eq_true rfl) ?_
  intro p e s m below meth c ls hsz C hK ha hN hl hP
  subst hsz
  obtain ⟨hx, hb, hr, hml, hown, hts, hlk⟩ := id C
  have hl : lv_has ls 3 [(0, .ref (q 2)), (1, .int v1), (2, .int v2)] := hl
  refine w_go (Pw := fun H => va_P (dC, dI) vwCl (WC q cI cJ cZ pg ps nf np nq ns po pt rf rl bx xl xr yl yh ms wt pf nr sl cl hu uu pd ro rc) H) (A := AF q 21 s.heap.size) (fun H locs hP hS => ?_) hP
  unfold wX0_link at h
  refine lv_aload_n hx hb dX0_link_0 rfl (lv_at hl 0 rfl) ?_
  refine lv_iload_n hx hb dX0_link_1 rfl (lv_at hl 1 rfl) ?_
  refine lv_iload_n hx hb dX0_link_2 rfl (lv_at hl 2 rfl) ?_
  refine cl_i (va_runV (As := [.int v1, .int v2]) (rest := []) ⟨hx, hb, hml, hown, hts⟩ (ktX0_areNear l dC dI q cI cJ cZ H.size pg ps nf np nq ns po pt rf rl bx xl xr yl yh ms wt pf nr sl cl hu uu pd ro rc v1 v2 h) (cwV 2 hts gX0_link_X0_areNear rfl rfl rfl (by decide +kernel) ⟨Nat.le_of_ble_eq_true rfl, Nat.le_of_ble_eq_true rfl⟩) ⟨wd.blind, va_recv hK hP (ci := 0) (q0 := 2) rfl rfl, fun U hU hW => ⟨rfl, wd.at hP hK ha hN hU hW⟩⟩ rfl rfl hl.1 rfl (lv_room (Nat.le_of_ble_eq_true rfl)) dX0_link_3 ⟨Nat.le_of_ble_eq_true rfl, Nat.le_of_ble_eq_true rfl⟩) hS (fun r1 _ H locs h hP hS => ?_)
  have hP : va_P (dC, dI) vwCl (WC q cI cJ cZ pg ps nf np nq ns po pt rf rl bx xl xr yl yh ms wt pf nr sl cl hu uu pd ro rc) H := hP
  refine lv_if_ne (tgt := 45) hx hb dX0_link_6 (by decide) (fun c3 => ?_) (fun c3 => ?_)
  · have h := h.1 c3
    exact rt_v (nq, nr) hx hb hr hlk h (fun t ht => by rw [ht]; exact hP) hS dX0_link_45
  · have h := h.2 c3
    refine lv_aload_n hx hb dX0_link_9 rfl (lv_at hl 0 rfl) ?_
    refine va_get (D := (dC, dI)) (ci := 0) (v := .ref (q 13)) (C := RX0) (T := TX0) (N := 9) hx hb hts iwX0_link_X0 hown hK hP 2 rfl rfl 6 (by decide) (hts _ fwX0_link_29) (fun _ h9 => h9) rfl dX0_link_10 ?_
    refine lv_iload_n hx hb dX0_link_13 rfl (lv_at hl 1 rfl) ?_
    refine lv_dup2_11 hx hb dX0_link_14 rfl rfl ?_
    obtain ⟨b4, h⟩ := h
    refine va_lald (D := (dC, dI)) hx hb hK hP 13 1 rfl rfl b4 dX0_link_15 ?_
    refine lv_iload_n hx hb dX0_link_16 rfl (lv_at hl 2 rfl) ?_
    refine cl_pl (va_runSN (host := "MaskParts") (As := [.int v2]) (rest := [.long (nr v1.toNatClampNeg), .int v1, .ref (q 13)]) ⟨hx, hb, hml, hown, hts⟩ (ktX4_bit l H.size v2 h) ⟨va_cnB 1 hts gX0_link_X4_bit_n89 rfl rfl rfl hN.1 (hts _ nwX0_link_i) (by decide +kernel) ⟨Nat.le_of_ble_eq_true rfl, Nat.le_of_ble_eq_true rfl⟩, hts _ nwX0_link_s, trivial⟩ ⟨pz.blind, fun U hU _ => ⟨rfl, pz.at hU⟩⟩ rfl rfl hl.1 rfl (lv_room (Nat.le_of_ble_eq_true rfl)) dX0_link_17 ⟨Nat.le_of_ble_eq_true rfl, Nat.le_of_ble_eq_true rfl⟩) hP hS (fun r5 _ H locs h hP hS => ?_)
    refine lv_lor hx hb dX0_link_20 ?_
    obtain ⟨b7, h⟩ := h
    refine va_last (D := (dC, dI)) hx hb hK hP (d_WC ha) hS 13 1 rfl rfl b7 dX0_link_21 (fun H locs hP _ hS => ?_)
    obtain ⟨f8, ef8⟩ : ∃ z : (Nat → Int64), z = vp_updL nr v1.toNatClampNeg (((nr v1.toNatClampNeg) ||| r5)) := ⟨_, rfl⟩
    have h := h f8 ef8
    have hP : va_P (dC, dI) vwCl (WC q cI cJ cZ pg ps nf np nq ns po pt rf rl bx xl xr yl yh ms wt pf f8 sl cl hu uu pd ro rc) H := by rw [ef8]; exact hP
    refine lv_aload_n hx hb dX0_link_22 rfl (lv_at hl 0 rfl) ?_
    refine va_get (D := (dC, dI)) (ci := 0) (v := .ref (q 13)) (C := RX0) (T := TX0) (N := 9) hx hb hts iwX0_link_X0 hown hK hP 2 rfl rfl 6 (by decide) (hts _ fwX0_link_29) (fun _ h9 => h9) rfl dX0_link_23 ?_
    refine lv_iload_n hx hb dX0_link_26 rfl (lv_at hl 2 rfl) ?_
    refine lv_dup2_11 hx hb dX0_link_27 rfl rfl ?_
    obtain ⟨b9, h⟩ := h
    refine va_lald (D := (dC, dI)) hx hb hK hP 13 1 rfl rfl b9 dX0_link_28 ?_
    refine lv_iload_n hx hb dX0_link_29 rfl (lv_at hl 1 rfl) ?_
    refine cl_pl (va_runSN (host := "MaskParts") (As := [.int v1]) (rest := [.long (f8 v2.toNatClampNeg), .int v2, .ref (q 13)]) ⟨hx, hb, hml, hown, hts⟩ (ktX4_bit l H.size v1 h) ⟨va_cnB 1 hts gX0_link_X4_bit_n89 rfl rfl rfl hN.1 (hts _ nwX0_link_i) (by decide +kernel) ⟨Nat.le_of_ble_eq_true rfl, Nat.le_of_ble_eq_true rfl⟩, hts _ nwX0_link_s, trivial⟩ ⟨pz.blind, fun U hU _ => ⟨rfl, pz.at hU⟩⟩ rfl rfl hl.1 rfl (lv_room (Nat.le_of_ble_eq_true rfl)) dX0_link_30 ⟨Nat.le_of_ble_eq_true rfl, Nat.le_of_ble_eq_true rfl⟩) hP hS (fun r10 _ H locs h hP hS => ?_)
    refine lv_lor hx hb dX0_link_33 ?_
    obtain ⟨b12, h⟩ := h
    refine va_last (D := (dC, dI)) hx hb hK hP (d_WC ha) hS 13 1 rfl rfl b12 dX0_link_34 (fun H locs hP _ hS => ?_)
    obtain ⟨f13, ef13⟩ : ∃ z : (Nat → Int64), z = vp_updL f8 v2.toNatClampNeg (((f8 v2.toNatClampNeg) ||| r10)) := ⟨_, rfl⟩
    have h := h f13 ef13
    have hP : va_P (dC, dI) vwCl (WC q cI cJ cZ pg ps nf np nq ns po pt rf rl bx xl xr yl yh ms wt pf f13 sl cl hu uu pd ro rc) H := by rw [ef13]; exact hP
    refine lv_aload_n hx hb dX0_link_35 rfl (lv_at hl 0 rfl) ?_
    refine lv_dup hx hb dX0_link_36 rfl ?_
    refine va_get (D := (dC, dI)) (ci := 0) (v := .int nq) (C := RX0) (T := TX0) (N := 9) hx hb hts iwX0_link_X0 hown hK hP 2 rfl rfl 3 (by decide) (hts _ fwX0_link_19) (fun _ h9 => h9) rfl dX0_link_37 ?_
    refine lv_iconst (v := 1) hx hb dX0_link_40 (by decide) ?_
    refine lv_iadd hx hb dX0_link_41 ?_
    refine lv_topi (fun i14 ei14 => ?_)
    have h := h i14 ei14
    refine va_put (D := (dC, dI)) (ci := 0) (v := .int i14) (ty := .int) (C := RX0) (T := TX0) (N := 9) hx hb hts iwX0_link_X0 tyX0 tyX0_ok nmX0 hown hK hP (d_WC ha) hS 2 rfl rfl 3 (by decide) (hts _ fwX0_link_19) (fun _ h9 => h9) rfl (by decide +kernel) rfl rfl (Nat.le_of_ble_eq_true rfl) dX0_link_42 (fun H locs hP _ hS => ?_)
    have hP : va_P (dC, dI) vwCl (WC q cI cJ cZ pg ps nf np i14 ns po pt rf rl bx xl xr yl yh ms wt pf f13 sl cl hu uu pd ro rc) H := hP
    exact rt_v (i14, f13) hx hb hr hlk h (fun t ht => by rw [ht]; exact hP) hS dX0_link_45

theorem fwX0_linkNearBoxes_40 : Cond.fieldLink RX0 40 "MaskParts$Net" "plan" "LMaskParts$Plan;" ∈ wsX0_linkNearBoxes := by decide +kernel
set_option maxRecDepth 20000 in
theorem iwX0_linkNearBoxes_X0 : ∀ w ∈ wsX00, w ∈ wsX0_linkNearBoxes := by decide +kernel
theorem fwX0_linkNearBoxes_55 : Cond.fieldLink RX0 55 "MaskParts$Plan" "boxes" "[I" ∈ wsX0_linkNearBoxes := by decide +kernel
set_option maxRecDepth 20000 in
theorem iwX0_linkNearBoxes_X2 : ∀ w ∈ wsX20, w ∈ wsX0_linkNearBoxes := by decide +kernel
theorem fwX0_linkNearBoxes_25 : Cond.fieldLink RX0 25 "MaskParts$Net" "partOf" "[I" ∈ wsX0_linkNearBoxes := by decide +kernel
abbrev QX0_linkNearBoxes (dC : Nat → ClassId) (dI : Nat → Nat → Nat) (cI cJ cZ : ClassId) (q : Nat → Nat) (sz : Nat) (pg : Int32) (ps : Int32) (nf : Int32) (np : Int32) (ns : Int32) (po : Int32) (pt : Int32) (rf : Int32) (rl : Int32) (bx : (Nat → Int32)) (xl : (Nat → Int32)) (xr : (Nat → Int32)) (yl : (Nat → Int32)) (yh : (Nat → Int32)) (ms : (Nat → Int32)) (wt : (Nat → Int32)) (pf : (Nat → Int32)) (sl : (Nat → Int32)) (cl : (Nat → Int32)) (hu : (Nat → Int32)) (uu : (Nat → Int32)) (pd : (Nat → Int64)) (ro : (Nat → Int32)) (rc : (Nat → Int64)) (K : (Int32 × (Nat → Int64)) → Prop) : Array Value → State → Outcome → State → Prop := va_Qv (fun (u : Int32 × (Nat → Int64)) => K u) (fun (u : Int32 × (Nat → Int64)) t => va_P (dC, dI) vwCl (WC q cI cJ cZ pg ps nf np u.1 ns po pt rf rl bx xl xr yl yh ms wt pf u.2 sl cl hu uu pd ro rc) t.heap) (AF q 21 sz)
def bkX0_linkNearBoxes_79 (pg : Int32) (bx : (Nat → Int32)) (xl : (Nat → Int32)) (xr : (Nat → Int32)) (yl : (Nat → Int32)) (yh : (Nat → Int32)) (pf : (Nat → Int32)) (K : (Int32 × (Nat → Int64)) → Prop) (k25 : Int32 → (Nat → Int64) → Int32 → Int32 → Int32 → Int32 → Int32 → Prop) (nq : Int32) (nr : (Nat → Int64)) (v1 : Int32) (v2 : Int32) (v3 : Int32) (v4 : Int32) (v5 : Int32) : Prop := (∀ i1 : Int32, i1 = v5 + 1 → k25 nq nr v1 v2 v3 v4 i1)
set_option maxHeartbeats 4000000 in
set_option maxRecDepth 100000 in
theorem mX0_linkNearBoxes_79 {p : Program} {l : Launch} {e : Env} {s : State} {m : MethodId} {av : Array Value} {below : List Frame} {meth : Method} {c : Code} {dC : Nat → ClassId} {dI : Nat → Nat → Nat} {cI cJ cZ : ClassId} {q : Nat → Nat} {K : (Int32 × (Nat → Int64)) → Prop} {k25 : Int32 → (Nat → Int64) → Int32 → Int32 → Int32 → Int32 → Int32 → Prop} (pg : Int32) (ps : Int32) (nf : Int32) (np : Int32) (ns : Int32) (po : Int32) (pt : Int32) (rf : Int32) (rl : Int32) (bx : (Nat → Int32)) (xl : (Nat → Int32)) (xr : (Nat → Int32)) (yl : (Nat → Int32)) (yh : (Nat → Int32)) (ms : (Nat → Int32)) (wt : (Nat → Int32)) (pf : (Nat → Int32)) (sl : (Nat → Int32)) (cl : (Nat → Int32)) (hu : (Nat → Int32)) (uu : (Nat → Int32)) (pd : (Nat → Int64)) (ro : (Nat → Int32)) (rc : (Nat → Int64)) (C : CX p s m av meth c cX0_linkNearBoxes 7 none RX0 wsX0_linkNearBoxes) (hK : va_K (dC, dI) vwCl (TY cI cJ cZ) s) (ha : apart q 21) (hN : NX s) (hk25 : ∀ (nq : Int32) (nr : (Nat → Int64)) (v1 : Int32) (v2 : Int32) (v3 : Int32) (v4 : Int32) (v5 : Int32) (ls : Array Slot) (H : Heap) (locs : List Loc), k25 nq nr v1 v2 v3 v4 v5 → lv_has ls 7 [(0, .ref (q 2)), (1, .int v1), (2, .int v2), (3, .int v3), (4, .int v4), (5, .int v5)] → va_P (dC, dI) vwCl (WC q cI cJ cZ pg ps nf np nq ns po pt rf rl bx xl xr yl yh ms wt pf nr sl cl hu uu pd ro rc) H → va_S (AF q 21 s.heap.size) s.heap H locs → W p l e { frames := 3, cells := 0, slots := 0, locals := 73 } s m av below meth c H locs 0 0 (MQ below (QX0_linkNearBoxes dC dI cI cJ cZ q s.heap.size pg ps nf np ns po pt rf rl bx xl xr yl yh ms wt pf sl cl hu uu pd ro rc K) av s 0 0 (AF q 21 s.heap.size)) (F0 m 25 ls [])) : ∀ (nq : Int32) (nr : (Nat → Int64)) (v1 : Int32) (v2 : Int32) (v3 : Int32) (v4 : Int32) (v5 : Int32) (ls : Array Slot) (H : Heap) (locs : List Loc), bkX0_linkNearBoxes_79 pg bx xl xr yl yh pf K k25 nq nr v1 v2 v3 v4 v5 → lv_has ls 7 [(0, .ref (q 2)), (1, .int v1), (2, .int v2), (3, .int v3), (4, .int v4), (5, .int v5)] → va_P (dC, dI) vwCl (WC q cI cJ cZ pg ps nf np nq ns po pt rf rl bx xl xr yl yh ms wt pf nr sl cl hu uu pd ro rc) H → va_S (AF q 21 s.heap.size) s.heap H locs → W p l e { frames := 3, cells := 0, slots := 0, locals := 73 } s m av below meth c H locs 0 0 (MQ below (QX0_linkNearBoxes dC dI cI cJ cZ q s.heap.size pg ps nf np ns po pt rf rl bx xl xr yl yh ms wt pf sl cl hu uu pd ro rc K) av s 0 0 (AF q 21 s.heap.size)) (F0 m 79 ls []) := by
  obtain ⟨hx, hb, hr, hml, hown, hts, hlk⟩ := id C
  intro nq nr v1 v2 v3 v4 v5 ls H locs h hl hP hS
  unfold bkX0_linkNearBoxes_79 at h
  obtain ⟨i1, ei1⟩ : ∃ y : Int32, y = v5 + 1 := ⟨_, rfl⟩
  refine lv_iinc (v := i1) (lv' := [(5, .int i1), (0, .ref (q 2)), (1, .int v1), (2, .int v2), (3, .int v3), (4, .int v4)]) hx hb dX0_linkNearBoxes_79 hl (k := 5) rfl (by rw [ei1]; rfl) (by decide) rfl (fun ls hl => ?_)
  have h := h i1 ei1
  refine lv_goto (tgt := 25) hx hb dX0_linkNearBoxes_82 (by decide) ?_
  exact hk25 nq nr v1 v2 v3 v4 i1 ls H locs h (lv_sub hl [1, 2, 3, 4, 5, 0] rfl) hP hS
def lpX0_linkNearBoxes_25 (pg : Int32) (bx : (Nat → Int32)) (xl : (Nat → Int32)) (xr : (Nat → Int32)) (yl : (Nat → Int32)) (yh : (Nat → Int32)) (pf : (Nat → Int32)) (K : (Int32 × (Nat → Int64)) → Prop) (k85 : Int32 → (Nat → Int64) → Int32 → Int32 → Int32 → Prop) : Nat → Int32 → (Nat → Int64) → Int32 → Int32 → Int32 → Int32 → Int32 → Prop
  | 0, _, _, _, _, _, _, _ => False
  | n + 1, nq, nr, v1, v2, v3, v4, v5 => (vp_in v2 10 ∧ (((bx v2.toNatClampNeg) ≤ v5 → k85 nq nr v1 v2 v3) ∧ (¬ ((bx v2.toNatClampNeg) ≤ v5) → (wX2_slot v2 v5 (fun r4 : Int32 => (wX2_tooNear pg xl xr yl yh v4 r4 (fun (r6 : Int32) => ((r6 = 0 → bkX0_linkNearBoxes_79 pg bx xl xr yl yh pf K (fun nq nr v1 v2 v3 v4 v5 => lpX0_linkNearBoxes_25 pg bx xl xr yl yh pf K k85 n nq nr v1 v2 v3 v4 v5) nq nr v1 v2 v3 v4 v5) ∧ (¬ (r6 = 0) → (vp_in v4 40 ∧ (vp_in r4 40 ∧ (wX0_link nq nr ((pf v4.toNatClampNeg)) ((pf r4.toNatClampNeg)) (fun (u12 : Int32 × (Nat → Int64)) => bkX0_linkNearBoxes_79 pg bx xl xr yl yh pf K (fun nq nr v1 v2 v3 v4 v5 => lpX0_linkNearBoxes_25 pg bx xl xr yl yh pf K k85 n nq nr v1 v2 v3 v4 v5) u12.1 u12.2 v1 v2 v3 v4 v5)))))))))))))
set_option maxHeartbeats 4000000 in
set_option maxRecDepth 100000 in
theorem mX0_linkNearBoxes_25 {p : Program} {l : Launch} {e : Env} {s : State} {m : MethodId} {av : Array Value} {below : List Frame} {meth : Method} {c : Code} {dC : Nat → ClassId} {dI : Nat → Nat → Nat} {cI cJ cZ : ClassId} {q : Nat → Nat} {K : (Int32 × (Nat → Int64)) → Prop} {k85 : Int32 → (Nat → Int64) → Int32 → Int32 → Int32 → Prop} (pg : Int32) (ps : Int32) (nf : Int32) (np : Int32) (ns : Int32) (po : Int32) (pt : Int32) (rf : Int32) (rl : Int32) (bx : (Nat → Int32)) (xl : (Nat → Int32)) (xr : (Nat → Int32)) (yl : (Nat → Int32)) (yh : (Nat → Int32)) (ms : (Nat → Int32)) (wt : (Nat → Int32)) (pf : (Nat → Int32)) (sl : (Nat → Int32)) (cl : (Nat → Int32)) (hu : (Nat → Int32)) (uu : (Nat → Int32)) (pd : (Nat → Int64)) (ro : (Nat → Int32)) (rc : (Nat → Int64)) (C : CX p s m av meth c cX0_linkNearBoxes 7 none RX0 wsX0_linkNearBoxes) (hK : va_K (dC, dI) vwCl (TY cI cJ cZ) s) (ha : apart q 21) (hN : NX s) (hk85 : ∀ (nq : Int32) (nr : (Nat → Int64)) (v1 : Int32) (v2 : Int32) (v3 : Int32) (ls : Array Slot) (H : Heap) (locs : List Loc), k85 nq nr v1 v2 v3 → lv_has ls 7 [(0, .ref (q 2)), (1, .int v1), (2, .int v2), (3, .int v3)] → va_P (dC, dI) vwCl (WC q cI cJ cZ pg ps nf np nq ns po pt rf rl bx xl xr yl yh ms wt pf nr sl cl hu uu pd ro rc) H → va_S (AF q 21 s.heap.size) s.heap H locs → W p l e { frames := 3, cells := 0, slots := 0, locals := 73 } s m av below meth c H locs 0 0 (MQ below (QX0_linkNearBoxes dC dI cI cJ cZ q s.heap.size pg ps nf np ns po pt rf rl bx xl xr yl yh ms wt pf sl cl hu uu pd ro rc K) av s 0 0 (AF q 21 s.heap.size)) (F0 m 85 ls [])) : ∀ (n : Nat) (nq : Int32) (nr : (Nat → Int64)) (v1 : Int32) (v2 : Int32) (v3 : Int32) (v4 : Int32) (v5 : Int32) (ls : Array Slot) (H : Heap) (locs : List Loc), lpX0_linkNearBoxes_25 pg bx xl xr yl yh pf K k85 n nq nr v1 v2 v3 v4 v5 → lv_has ls 7 [(0, .ref (q 2)), (1, .int v1), (2, .int v2), (3, .int v3), (4, .int v4), (5, .int v5)] → va_P (dC, dI) vwCl (WC q cI cJ cZ pg ps nf np nq ns po pt rf rl bx xl xr yl yh ms wt pf nr sl cl hu uu pd ro rc) H → va_S (AF q 21 s.heap.size) s.heap H locs → W p l e { frames := 3, cells := 0, slots := 0, locals := 73 } s m av below meth c H locs 0 0 (MQ below (QX0_linkNearBoxes dC dI cI cJ cZ q s.heap.size pg ps nf np ns po pt rf rl bx xl xr yl yh ms wt pf sl cl hu uu pd ro rc K) av s 0 0 (AF q 21 s.heap.size)) (F0 m 25 ls []) := by
  obtain ⟨hx, hb, hr, hml, hown, hts, hlk⟩ := id C
  intro n
  induction n with
  | zero =>
    intro nq nr v1 v2 v3 v4 v5 ls H locs h
    exact h.elim
  | succ n ih =>
    intro nq nr v1 v2 v3 v4 v5 ls H locs h hl hP hS
    rw [lpX0_linkNearBoxes_25.eq_2] at h
    refine lv_iload hx hb dX0_linkNearBoxes_25 (lv_at hl 5 rfl) ?_
    refine lv_aload_n hx hb dX0_linkNearBoxes_27 rfl (lv_at hl 0 rfl) ?_
    refine va_get (D := (dC, dI)) (ci := 0) (v := .ref (q 1)) (C := RX0) (T := TX0) (N := 9) hx hb hts iwX0_linkNearBoxes_X0 hown hK hP 2 rfl rfl 0 (by decide) (hts _ fwX0_linkNearBoxes_40) (fun _ h9 => h9) rfl dX0_linkNearBoxes_28 ?_
    refine va_get (D := (dC, dI)) (ci := 2) (v := .ref (q 5)) (C := RX2) (T := TX2) (N := 9) hx hb hts iwX0_linkNearBoxes_X2 hown hK hP 1 rfl rfl 2 (by decide) (hts _ fwX0_linkNearBoxes_55) (fun _ h9 => h9) rfl dX0_linkNearBoxes_31 ?_
    refine lv_iload_n hx hb dX0_linkNearBoxes_34 rfl (lv_at hl 2 rfl) ?_
    obtain ⟨b2, h⟩ := h
    refine va_iald (D := (dC, dI)) hx hb hK hP 5 0 rfl rfl b2 dX0_linkNearBoxes_35 ?_
    refine lv_icmp_ge (tgt := 85) hx hb dX0_linkNearBoxes_36 (by decide) (fun c3 => ?_) (fun c3 => ?_)
    · have h := h.1 c3
      exact hk85 nq nr v1 v2 v3 ls H locs h (lv_sub hl [0, 1, 2, 3] rfl) hP hS
    · have h := h.2 c3
      refine lv_iload_n hx hb dX0_linkNearBoxes_39 rfl (lv_at hl 2 rfl) ?_
      refine lv_iload hx hb dX0_linkNearBoxes_40 (lv_at hl 5 rfl) ?_
      refine cl_pi (va_runS (As := [.int v2, .int v5]) (rest := []) ⟨hx, hb, hml, hown, hts⟩ (ktX2_slot l H.size v2 v5 h) (va_cwS 2 hts gX0_linkNearBoxes_X2_slot rfl rfl rfl (by decide +kernel) ⟨Nat.le_of_ble_eq_true rfl, Nat.le_of_ble_eq_true rfl⟩) ⟨pz.blind, fun U hU _ => ⟨rfl, pz.at hU⟩⟩ rfl rfl hl.1 rfl (lv_room (Nat.le_of_ble_eq_true rfl)) dX0_linkNearBoxes_42 ⟨Nat.le_of_ble_eq_true rfl, Nat.le_of_ble_eq_true rfl⟩) hP hS (fun r4 _ H locs h hP hS => ?_)
      refine lv_istore (lv' := [(6, .int r4), (0, .ref (q 2)), (1, .int v1), (2, .int v2), (3, .int v3), (4, .int v4), (5, .int v5)]) hx hb dX0_linkNearBoxes_45 hl (by decide) rfl (fun ls hl => ?_)
      refine lv_aload_n hx hb dX0_linkNearBoxes_47 rfl (lv_at hl 1 rfl) ?_
      refine va_get (D := (dC, dI)) (ci := 0) (v := .ref (q 1)) (C := RX0) (T := TX0) (N := 9) hx hb hts iwX0_linkNearBoxes_X0 hown hK hP 2 rfl rfl 0 (by decide) (hts _ fwX0_linkNearBoxes_40) (fun _ h9 => h9) rfl dX0_linkNearBoxes_48 ?_
      refine lv_iload hx hb dX0_linkNearBoxes_51 (lv_at hl 5 rfl) ?_
      refine lv_iload hx hb dX0_linkNearBoxes_53 (lv_at hl 0 rfl) ?_
      refine cl_i (va_runV (As := [.int v4, .int r4]) (rest := []) ⟨hx, hb, hml, hown, hts⟩ (ktX2_tooNear l dC dI q cI cJ cZ H.size pg ps nf np nq ns po pt rf rl bx xl xr yl yh ms wt pf nr sl cl hu uu pd ro rc v4 r4 h) (cwV 2 hts gX0_linkNearBoxes_X2_tooNear rfl rfl rfl (by decide +kernel) ⟨Nat.le_of_ble_eq_true rfl, Nat.le_of_ble_eq_true rfl⟩) ⟨wd.blind, va_recv hK hP (ci := 2) (q0 := 1) rfl rfl, fun U hU hW => ⟨rfl, wd.at hP hK ha hN hU hW⟩⟩ rfl rfl hl.1 rfl (lv_room (Nat.le_of_ble_eq_true rfl)) dX0_linkNearBoxes_55 ⟨Nat.le_of_ble_eq_true rfl, Nat.le_of_ble_eq_true rfl⟩) hS (fun r6 _ H locs h hP hS => ?_)
      have hP : va_P (dC, dI) vwCl (WC q cI cJ cZ pg ps nf np nq ns po pt rf rl bx xl xr yl yh ms wt pf nr sl cl hu uu pd ro rc) H := hP
      refine lv_if_eq (tgt := 79) hx hb dX0_linkNearBoxes_58 (by decide) (fun c8 => ?_) (fun c8 => ?_)
      · have h := h.1 c8
        exact mX0_linkNearBoxes_79 pg ps nf np ns po pt rf rl bx xl xr yl yh ms wt pf sl cl hu uu pd ro rc C hK ha hN (fun nq nr v1 v2 v3 v4 v5 ls H locs h hl hP hS => ih nq nr v1 v2 v3 v4 v5 ls H locs h hl hP hS) nq nr v1 v2 v3 v4 v5 ls H locs h (lv_sub hl [1, 2, 3, 4, 5, 6] rfl) hP hS
      · have h := h.2 c8
        refine lv_aload_n hx hb dX0_linkNearBoxes_61 rfl (lv_at hl 1 rfl) ?_
        refine lv_aload_n hx hb dX0_linkNearBoxes_62 rfl (lv_at hl 1 rfl) ?_
        refine va_get (D := (dC, dI)) (ci := 0) (v := .ref (q 12)) (C := RX0) (T := TX0) (N := 9) hx hb hts iwX0_linkNearBoxes_X0 hown hK hP 2 rfl rfl 5 (by decide) (hts _ fwX0_linkNearBoxes_25) (fun _ h9 => h9) rfl dX0_linkNearBoxes_63 ?_
        refine lv_iload hx hb dX0_linkNearBoxes_66 (lv_at hl 5 rfl) ?_
        obtain ⟨b9, h⟩ := h
        refine va_iald (D := (dC, dI)) hx hb hK hP 12 0 rfl rfl b9 dX0_linkNearBoxes_68 ?_
        refine lv_aload_n hx hb dX0_linkNearBoxes_69 rfl (lv_at hl 1 rfl) ?_
        refine va_get (D := (dC, dI)) (ci := 0) (v := .ref (q 12)) (C := RX0) (T := TX0) (N := 9) hx hb hts iwX0_linkNearBoxes_X0 hown hK hP 2 rfl rfl 5 (by decide) (hts _ fwX0_linkNearBoxes_25) (fun _ h9 => h9) rfl dX0_linkNearBoxes_70 ?_
        refine lv_iload hx hb dX0_linkNearBoxes_73 (lv_at hl 0 rfl) ?_
        obtain ⟨b10, h⟩ := h
        refine va_iald (D := (dC, dI)) hx hb hK hP 12 0 rfl rfl b10 dX0_linkNearBoxes_75 ?_
        refine cl_v (va_runV (As := [.int ((pf v4.toNatClampNeg)), .int ((pf r4.toNatClampNeg))]) (rest := []) ⟨hx, hb, hml, hown, hts⟩ (ktX0_link l dC dI q cI cJ cZ H.size pg ps nf np nq ns po pt rf rl bx xl xr yl yh ms wt pf nr sl cl hu uu pd ro rc ((pf v4.toNatClampNeg)) ((pf r4.toNatClampNeg)) h) (cwV 2 hts gX0_linkNearBoxes_X0_link rfl rfl rfl (by decide +kernel) ⟨Nat.le_of_ble_eq_true rfl, Nat.le_of_ble_eq_true rfl⟩) ⟨wd.blind, va_recv hK hP (ci := 0) (q0 := 2) rfl rfl, fun U hU hW => ⟨rfl, wd.at hP hK ha hN hU hW⟩⟩ rfl rfl hl.1 rfl (lv_room (Nat.le_of_ble_eq_true rfl)) dX0_linkNearBoxes_76 ⟨Nat.le_of_ble_eq_true rfl, Nat.le_of_ble_eq_true rfl⟩) hS (fun u12 H locs h hP hS => ?_)
        have hP : va_P (dC, dI) vwCl (WC q cI cJ cZ pg ps nf np u12.1 ns po pt rf rl bx xl xr yl yh ms wt pf u12.2 sl cl hu uu pd ro rc) H := hP
        exact mX0_linkNearBoxes_79 pg ps nf np ns po pt rf rl bx xl xr yl yh ms wt pf sl cl hu uu pd ro rc C hK ha hN (fun nq nr v1 v2 v3 v4 v5 ls H locs h hl hP hS => ih nq nr v1 v2 v3 v4 v5 ls H locs h hl hP hS) u12.1 u12.2 v1 v2 v3 v4 v5 ls H locs h (lv_sub hl [1, 2, 3, 4, 5, 6] rfl) hP hS
def lpX0_linkNearBoxes_2 (pg : Int32) (bx : (Nat → Int32)) (xl : (Nat → Int32)) (xr : (Nat → Int32)) (yl : (Nat → Int32)) (yh : (Nat → Int32)) (pf : (Nat → Int32)) (K : (Int32 × (Nat → Int64)) → Prop) (k91 : Int32 → (Nat → Int64) → Prop) : Nat → Int32 → (Nat → Int64) → Int32 → Int32 → Int32 → Prop
  | 0, _, _, _, _, _ => False
  | n + 1, nq, nr, v1, v2, v3 => (vp_in v1 10 ∧ (((bx v1.toNatClampNeg) ≤ v3 → k91 nq nr) ∧ (¬ ((bx v1.toNatClampNeg) ≤ v3) → (wX2_slot v1 v3 (fun r15 : Int32 => (∃ z25, lpX0_linkNearBoxes_25 pg bx xl xr yl yh pf K (fun (nq : Int32) (nr : (Nat → Int64)) (v1 : Int32) (v2 : Int32) (v3 : Int32) => (∀ i17 : Int32, i17 = v3 + 1 → lpX0_linkNearBoxes_2 pg bx xl xr yl yh pf K k91 n nq nr v1 v2 i17)) z25 nq nr v1 v2 v3 r15 0))))))
set_option maxHeartbeats 4000000 in
set_option maxRecDepth 100000 in
theorem mX0_linkNearBoxes_2 {p : Program} {l : Launch} {e : Env} {s : State} {m : MethodId} {av : Array Value} {below : List Frame} {meth : Method} {c : Code} {dC : Nat → ClassId} {dI : Nat → Nat → Nat} {cI cJ cZ : ClassId} {q : Nat → Nat} {K : (Int32 × (Nat → Int64)) → Prop} {k91 : Int32 → (Nat → Int64) → Prop} (pg : Int32) (ps : Int32) (nf : Int32) (np : Int32) (ns : Int32) (po : Int32) (pt : Int32) (rf : Int32) (rl : Int32) (bx : (Nat → Int32)) (xl : (Nat → Int32)) (xr : (Nat → Int32)) (yl : (Nat → Int32)) (yh : (Nat → Int32)) (ms : (Nat → Int32)) (wt : (Nat → Int32)) (pf : (Nat → Int32)) (sl : (Nat → Int32)) (cl : (Nat → Int32)) (hu : (Nat → Int32)) (uu : (Nat → Int32)) (pd : (Nat → Int64)) (ro : (Nat → Int32)) (rc : (Nat → Int64)) (C : CX p s m av meth c cX0_linkNearBoxes 7 none RX0 wsX0_linkNearBoxes) (hK : va_K (dC, dI) vwCl (TY cI cJ cZ) s) (ha : apart q 21) (hN : NX s) (hk91 : ∀ (nq : Int32) (nr : (Nat → Int64)) (ls : Array Slot) (H : Heap) (locs : List Loc), k91 nq nr → lv_has ls 7 [] → va_P (dC, dI) vwCl (WC q cI cJ cZ pg ps nf np nq ns po pt rf rl bx xl xr yl yh ms wt pf nr sl cl hu uu pd ro rc) H → va_S (AF q 21 s.heap.size) s.heap H locs → W p l e { frames := 3, cells := 0, slots := 0, locals := 73 } s m av below meth c H locs 0 0 (MQ below (QX0_linkNearBoxes dC dI cI cJ cZ q s.heap.size pg ps nf np ns po pt rf rl bx xl xr yl yh ms wt pf sl cl hu uu pd ro rc K) av s 0 0 (AF q 21 s.heap.size)) (F0 m 91 ls [])) : ∀ (n : Nat) (nq : Int32) (nr : (Nat → Int64)) (v1 : Int32) (v2 : Int32) (v3 : Int32) (ls : Array Slot) (H : Heap) (locs : List Loc), lpX0_linkNearBoxes_2 pg bx xl xr yl yh pf K k91 n nq nr v1 v2 v3 → lv_has ls 7 [(0, .ref (q 2)), (1, .int v1), (2, .int v2), (3, .int v3)] → va_P (dC, dI) vwCl (WC q cI cJ cZ pg ps nf np nq ns po pt rf rl bx xl xr yl yh ms wt pf nr sl cl hu uu pd ro rc) H → va_S (AF q 21 s.heap.size) s.heap H locs → W p l e { frames := 3, cells := 0, slots := 0, locals := 73 } s m av below meth c H locs 0 0 (MQ below (QX0_linkNearBoxes dC dI cI cJ cZ q s.heap.size pg ps nf np ns po pt rf rl bx xl xr yl yh ms wt pf sl cl hu uu pd ro rc K) av s 0 0 (AF q 21 s.heap.size)) (F0 m 2 ls []) := by
  obtain ⟨hx, hb, hr, hml, hown, hts, hlk⟩ := id C
  intro n
  induction n with
  | zero =>
    intro nq nr v1 v2 v3 ls H locs h
    exact h.elim
  | succ n ih =>
    intro nq nr v1 v2 v3 ls H locs h hl hP hS
    rw [lpX0_linkNearBoxes_2.eq_2] at h
    refine lv_iload_n hx hb dX0_linkNearBoxes_2 rfl (lv_at hl 3 rfl) ?_
    refine lv_aload_n hx hb dX0_linkNearBoxes_3 rfl (lv_at hl 0 rfl) ?_
    refine va_get (D := (dC, dI)) (ci := 0) (v := .ref (q 1)) (C := RX0) (T := TX0) (N := 9) hx hb hts iwX0_linkNearBoxes_X0 hown hK hP 2 rfl rfl 0 (by decide) (hts _ fwX0_linkNearBoxes_40) (fun _ h9 => h9) rfl dX0_linkNearBoxes_4 ?_
    refine va_get (D := (dC, dI)) (ci := 2) (v := .ref (q 5)) (C := RX2) (T := TX2) (N := 9) hx hb hts iwX0_linkNearBoxes_X2 hown hK hP 1 rfl rfl 2 (by decide) (hts _ fwX0_linkNearBoxes_55) (fun _ h9 => h9) rfl dX0_linkNearBoxes_7 ?_
    refine lv_iload_n hx hb dX0_linkNearBoxes_10 rfl (lv_at hl 1 rfl) ?_
    obtain ⟨b13, h⟩ := h
    refine va_iald (D := (dC, dI)) hx hb hK hP 5 0 rfl rfl b13 dX0_linkNearBoxes_11 ?_
    refine lv_icmp_ge (tgt := 91) hx hb dX0_linkNearBoxes_12 (by decide) (fun c14 => ?_) (fun c14 => ?_)
    · have h := h.1 c14
      exact hk91 nq nr ls H locs h (lv_sub hl [] rfl) hP hS
    · have h := h.2 c14
      refine lv_iload_n hx hb dX0_linkNearBoxes_15 rfl (lv_at hl 1 rfl) ?_
      refine lv_iload_n hx hb dX0_linkNearBoxes_16 rfl (lv_at hl 3 rfl) ?_
      refine cl_pi (va_runS (As := [.int v1, .int v3]) (rest := []) ⟨hx, hb, hml, hown, hts⟩ (ktX2_slot l H.size v1 v3 h) (va_cwS 2 hts gX0_linkNearBoxes_X2_slot rfl rfl rfl (by decide +kernel) ⟨Nat.le_of_ble_eq_true rfl, Nat.le_of_ble_eq_true rfl⟩) ⟨pz.blind, fun U hU _ => ⟨rfl, pz.at hU⟩⟩ rfl rfl hl.1 rfl (lv_room (Nat.le_of_ble_eq_true rfl)) dX0_linkNearBoxes_17 ⟨Nat.le_of_ble_eq_true rfl, Nat.le_of_ble_eq_true rfl⟩) hP hS (fun r15 _ H locs h hP hS => ?_)
      refine lv_istore (lv' := [(4, .int r15), (0, .ref (q 2)), (1, .int v1), (2, .int v2), (3, .int v3)]) hx hb dX0_linkNearBoxes_20 hl (by decide) rfl (fun ls hl => ?_)
      refine lv_iconst (v := 0) hx hb dX0_linkNearBoxes_22 (by decide) ?_
      refine lv_istore (lv' := [(5, .int 0), (4, .int r15), (0, .ref (q 2)), (1, .int v1), (2, .int v2), (3, .int v3)]) hx hb dX0_linkNearBoxes_23 hl (by decide) rfl (fun ls hl => ?_)
      obtain ⟨n9, h⟩ := h
      exact mX0_linkNearBoxes_25 pg ps nf np ns po pt rf rl bx xl xr yl yh ms wt pf sl cl hu uu pd ro rc C hK ha hN (fun nq nr v1 v2 v3 ls H locs h hl hP hS => by
          obtain ⟨i17, ei17⟩ : ∃ y : Int32, y = v3 + 1 := ⟨_, rfl⟩
          refine lv_iinc (v := i17) (lv' := [(3, .int i17), (0, .ref (q 2)), (1, .int v1), (2, .int v2)]) hx hb dX0_linkNearBoxes_85 hl (k := 3) rfl (by rw [ei17]; rfl) (by decide) rfl (fun ls hl => ?_)
          have h := h i17 ei17
          refine lv_goto (tgt := 2) hx hb dX0_linkNearBoxes_88 (by decide) ?_
          exact ih nq nr v1 v2 i17 ls H locs h (lv_sub hl [1, 2, 3, 0] rfl) hP hS) n9 nq nr v1 v2 v3 r15 0 ls H locs h (lv_sub hl [2, 3, 4, 5, 1, 0] rfl) hP hS
def wX0_linkNearBoxes (pg : Int32) (bx : (Nat → Int32)) (xl : (Nat → Int32)) (xr : (Nat → Int32)) (yl : (Nat → Int32)) (yh : (Nat → Int32)) (pf : (Nat → Int32)) (nq : Int32) (nr : (Nat → Int64)) (v1 : Int32) (v2 : Int32) (K : (Int32 × (Nat → Int64)) → Prop) : Prop := (∃ z2, lpX0_linkNearBoxes_2 pg bx xl xr yl yh pf K (fun (nq : Int32) (nr : (Nat → Int64)) => K (nq, nr)) z2 nq nr v1 v2 0)
set_option maxHeartbeats 4000000 in
set_option maxRecDepth 100000 in
theorem ktX0_linkNearBoxes (l : Launch) (dC : Nat → ClassId) (dI : Nat → Nat → Nat) (q : Nat → Nat) (cI cJ cZ : ClassId) (sz : Nat) (pg : Int32) (ps : Int32) (nf : Int32) (np : Int32) (nq : Int32) (ns : Int32) (po : Int32) (pt : Int32) (rf : Int32) (rl : Int32) (bx : (Nat → Int32)) (xl : (Nat → Int32)) (xr : (Nat → Int32)) (yl : (Nat → Int32)) (yh : (Nat → Int32)) (ms : (Nat → Int32)) (wt : (Nat → Int32)) (pf : (Nat → Int32)) (nr : (Nat → Int64)) (sl : (Nat → Int32)) (cl : (Nat → Int32)) (hu : (Nat → Int32)) (uu : (Nat → Int32)) (pd : (Nat → Int64)) (ro : (Nat → Int32)) (rc : (Nat → Int64)) (v1 : Int32) (v2 : Int32) {K : (Int32 × (Nat → Int64)) → Prop} (h : wX0_linkNearBoxes pg bx xl xr yl yh pf nq nr v1 v2 K) : Met l yX0_linkNearBoxes wsX0_linkNearBoxes { frames := 3, cells := 0, slots := 0, locals := 73 } (va_Pc [.ref (q 2), .int v1, .int v2] (wd dC dI cI cJ cZ q 21 sz (WC q cI cJ cZ pg ps nf np nq ns po pt rf rl bx xl xr yl yh ms wt pf nr sl cl hu uu pd ro rc))) (QX0_linkNearBoxes dC dI cI cJ cZ q sz pg ps nf np ns po pt rf rl bx xl xr yl yh ms wt pf sl cl hu uu pd ro rc K) 0 0 (AF q 21 sz) := by
  refine met_of [.ref (q 2), .int v1, .int v2] (by decide +kernel) rfl (Nat.le_of_ble_eq_true rfl) ?_
  intro p e s m below meth c ls hsz C hK ha hN hl hP
  subst hsz
  obtain ⟨hx, hb, hr, hml, hown, hts, hlk⟩ := id C
  have hl : lv_has ls 7 [(0, .ref (q 2)), (1, .int v1), (2, .int v2)] := hl
  refine w_go (Pw := fun H => va_P (dC, dI) vwCl (WC q cI cJ cZ pg ps nf np nq ns po pt rf rl bx xl xr yl yh ms wt pf nr sl cl hu uu pd ro rc) H) (A := AF q 21 s.heap.size) (fun H locs hP hS => ?_) hP
  unfold wX0_linkNearBoxes at h
  refine lv_iconst (v := 0) hx hb dX0_linkNearBoxes_0 (by decide) ?_
  refine lv_istore_n (lv' := [(3, .int 0), (0, .ref (q 2)), (1, .int v1), (2, .int v2)]) hx hb dX0_linkNearBoxes_1 rfl hl (by decide) rfl (fun ls hl => ?_)
  obtain ⟨n9, h⟩ := h
  exact mX0_linkNearBoxes_2 pg ps nf np ns po pt rf rl bx xl xr yl yh ms wt pf sl cl hu uu pd ro rc C hK ha hN (fun nq nr ls H locs h hl hP hS => by
      exact rt_v (nq, nr) hx hb hr hlk h (fun t ht => by rw [ht]; exact hP) hS dX0_linkNearBoxes_91) n9 nq nr v1 v2 0 ls H locs h (lv_sub hl [1, 2, 3, 0] rfl) hP hS

theorem fwX0_findNear_40 : Cond.fieldLink RX0 40 "MaskParts$Net" "plan" "LMaskParts$Plan;" ∈ wsX0_findNear := by decide +kernel
set_option maxRecDepth 20000 in
theorem iwX0_findNear_X0 : ∀ w ∈ wsX00, w ∈ wsX0_findNear := by decide +kernel
theorem fwX0_findNear_50 : Cond.fieldLink RX0 50 "MaskParts$Plan" "shapes" "I" ∈ wsX0_findNear := by decide +kernel
set_option maxRecDepth 20000 in
theorem iwX0_findNear_X2 : ∀ w ∈ wsX20, w ∈ wsX0_findNear := by decide +kernel
theorem fwX0_findNear_19 : Cond.fieldLink RX0 19 "MaskParts$Net" "pairs" "I" ∈ wsX0_findNear := by decide +kernel
abbrev QX0_findNear (dC : Nat → ClassId) (dI : Nat → Nat → Nat) (cI cJ cZ : ClassId) (q : Nat → Nat) (sz : Nat) (pg : Int32) (ps : Int32) (nf : Int32) (np : Int32) (ns : Int32) (po : Int32) (pt : Int32) (rf : Int32) (rl : Int32) (bx : (Nat → Int32)) (xl : (Nat → Int32)) (xr : (Nat → Int32)) (yl : (Nat → Int32)) (yh : (Nat → Int32)) (ms : (Nat → Int32)) (wt : (Nat → Int32)) (pf : (Nat → Int32)) (sl : (Nat → Int32)) (cl : (Nat → Int32)) (hu : (Nat → Int32)) (uu : (Nat → Int32)) (pd : (Nat → Int64)) (ro : (Nat → Int32)) (rc : (Nat → Int64)) (K : (Int32 × (Nat → Int64)) → Prop) : Array Value → State → Outcome → State → Prop := va_Qv (fun (u : Int32 × (Nat → Int64)) => K u) (fun (u : Int32 × (Nat → Int64)) t => va_P (dC, dI) vwCl (WC q cI cJ cZ pg ps nf np u.1 ns po pt rf rl bx xl xr yl yh ms wt pf u.2 sl cl hu uu pd ro rc) t.heap) (AF q 21 sz)
def lpX0_findNear_22 (pg : Int32) (ps : Int32) (bx : (Nat → Int32)) (xl : (Nat → Int32)) (xr : (Nat → Int32)) (yl : (Nat → Int32)) (yh : (Nat → Int32)) (pf : (Nat → Int32)) (K : (Int32 × (Nat → Int64)) → Prop) (k45 : Int32 → (Nat → Int64) → Int32 → Prop) : Nat → Int32 → (Nat → Int64) → Int32 → Int32 → Prop
  | 0, _, _, _, _ => False
  | n + 1, nq, nr, v1, v2 => ((ps ≤ v2 → k45 nq nr v1) ∧ (¬ (ps ≤ v2) → (wX0_linkNearBoxes pg bx xl xr yl yh pf nq nr v1 v2 (fun (u3 : Int32 × (Nat → Int64)) => (∀ i4 : Int32, i4 = v2 + 1 → lpX0_findNear_22 pg ps bx xl xr yl yh pf K k45 n u3.1 u3.2 v1 i4)))))
set_option maxHeartbeats 4000000 in
set_option maxRecDepth 100000 in
theorem mX0_findNear_22 {p : Program} {l : Launch} {e : Env} {s : State} {m : MethodId} {av : Array Value} {below : List Frame} {meth : Method} {c : Code} {dC : Nat → ClassId} {dI : Nat → Nat → Nat} {cI cJ cZ : ClassId} {q : Nat → Nat} {K : (Int32 × (Nat → Int64)) → Prop} {k45 : Int32 → (Nat → Int64) → Int32 → Prop} (pg : Int32) (ps : Int32) (nf : Int32) (np : Int32) (ns : Int32) (po : Int32) (pt : Int32) (rf : Int32) (rl : Int32) (bx : (Nat → Int32)) (xl : (Nat → Int32)) (xr : (Nat → Int32)) (yl : (Nat → Int32)) (yh : (Nat → Int32)) (ms : (Nat → Int32)) (wt : (Nat → Int32)) (pf : (Nat → Int32)) (sl : (Nat → Int32)) (cl : (Nat → Int32)) (hu : (Nat → Int32)) (uu : (Nat → Int32)) (pd : (Nat → Int64)) (ro : (Nat → Int32)) (rc : (Nat → Int64)) (C : CX p s m av meth c cX0_findNear 3 none RX0 wsX0_findNear) (hK : va_K (dC, dI) vwCl (TY cI cJ cZ) s) (ha : apart q 21) (hN : NX s) (hk45 : ∀ (nq : Int32) (nr : (Nat → Int64)) (v1 : Int32) (ls : Array Slot) (H : Heap) (locs : List Loc), k45 nq nr v1 → lv_has ls 3 [(0, .ref (q 2)), (1, .int v1)] → va_P (dC, dI) vwCl (WC q cI cJ cZ pg ps nf np nq ns po pt rf rl bx xl xr yl yh ms wt pf nr sl cl hu uu pd ro rc) H → va_S (AF q 21 s.heap.size) s.heap H locs → W p l e { frames := 4, cells := 0, slots := 0, locals := 99 } s m av below meth c H locs 0 0 (MQ below (QX0_findNear dC dI cI cJ cZ q s.heap.size pg ps nf np ns po pt rf rl bx xl xr yl yh ms wt pf sl cl hu uu pd ro rc K) av s 0 0 (AF q 21 s.heap.size)) (F0 m 45 ls [])) : ∀ (n : Nat) (nq : Int32) (nr : (Nat → Int64)) (v1 : Int32) (v2 : Int32) (ls : Array Slot) (H : Heap) (locs : List Loc), lpX0_findNear_22 pg ps bx xl xr yl yh pf K k45 n nq nr v1 v2 → lv_has ls 3 [(0, .ref (q 2)), (1, .int v1), (2, .int v2)] → va_P (dC, dI) vwCl (WC q cI cJ cZ pg ps nf np nq ns po pt rf rl bx xl xr yl yh ms wt pf nr sl cl hu uu pd ro rc) H → va_S (AF q 21 s.heap.size) s.heap H locs → W p l e { frames := 4, cells := 0, slots := 0, locals := 99 } s m av below meth c H locs 0 0 (MQ below (QX0_findNear dC dI cI cJ cZ q s.heap.size pg ps nf np ns po pt rf rl bx xl xr yl yh ms wt pf sl cl hu uu pd ro rc K) av s 0 0 (AF q 21 s.heap.size)) (F0 m 22 ls []) := by
  obtain ⟨hx, hb, hr, hml, hown, hts, hlk⟩ := id C
  intro n
  induction n with
  | zero =>
    intro nq nr v1 v2 ls H locs h
    exact h.elim
  | succ n ih =>
    intro nq nr v1 v2 ls H locs h hl hP hS
    rw [lpX0_findNear_22.eq_2] at h
    refine lv_iload_n hx hb dX0_findNear_22 rfl (lv_at hl 2 rfl) ?_
    refine lv_aload_n hx hb dX0_findNear_23 rfl (lv_at hl 0 rfl) ?_
    refine va_get (D := (dC, dI)) (ci := 0) (v := .ref (q 1)) (C := RX0) (T := TX0) (N := 9) hx hb hts iwX0_findNear_X0 hown hK hP 2 rfl rfl 0 (by decide) (hts _ fwX0_findNear_40) (fun _ h9 => h9) rfl dX0_findNear_24 ?_
    refine va_get (D := (dC, dI)) (ci := 2) (v := .int ps) (C := RX2) (T := TX2) (N := 9) hx hb hts iwX0_findNear_X2 hown hK hP 1 rfl rfl 1 (by decide) (hts _ fwX0_findNear_50) (fun _ h9 => h9) rfl dX0_findNear_27 ?_
    refine lv_icmp_ge (tgt := 45) hx hb dX0_findNear_30 (by decide) (fun c1 => ?_) (fun c1 => ?_)
    · have h := h.1 c1
      exact hk45 nq nr v1 ls H locs h (lv_sub hl [0, 1] rfl) hP hS
    · have h := h.2 c1
      refine lv_aload_n hx hb dX0_findNear_33 rfl (lv_at hl 0 rfl) ?_
      refine lv_iload_n hx hb dX0_findNear_34 rfl (lv_at hl 1 rfl) ?_
      refine lv_iload_n hx hb dX0_findNear_35 rfl (lv_at hl 2 rfl) ?_
      refine cl_v (va_runV (As := [.int v1, .int v2]) (rest := []) ⟨hx, hb, hml, hown, hts⟩ (ktX0_linkNearBoxes l dC dI q cI cJ cZ H.size pg ps nf np nq ns po pt rf rl bx xl xr yl yh ms wt pf nr sl cl hu uu pd ro rc v1 v2 h) (cwV 2 hts gX0_findNear_X0_linkNearBoxes rfl rfl rfl (by decide +kernel) ⟨Nat.le_of_ble_eq_true rfl, Nat.le_of_ble_eq_true rfl⟩) ⟨wd.blind, va_recv hK hP (ci := 0) (q0 := 2) rfl rfl, fun U hU hW => ⟨rfl, wd.at hP hK ha hN hU hW⟩⟩ rfl rfl hl.1 rfl (lv_room (Nat.le_of_ble_eq_true rfl)) dX0_findNear_36 ⟨Nat.le_of_ble_eq_true rfl, Nat.le_of_ble_eq_true rfl⟩) hS (fun u3 H locs h hP hS => ?_)
      have hP : va_P (dC, dI) vwCl (WC q cI cJ cZ pg ps nf np u3.1 ns po pt rf rl bx xl xr yl yh ms wt pf u3.2 sl cl hu uu pd ro rc) H := hP
      obtain ⟨i4, ei4⟩ : ∃ y : Int32, y = v2 + 1 := ⟨_, rfl⟩
      refine lv_iinc (v := i4) (lv' := [(2, .int i4), (0, .ref (q 2)), (1, .int v1)]) hx hb dX0_findNear_39 hl (k := 2) rfl (by rw [ei4]; rfl) (by decide) rfl (fun ls hl => ?_)
      have h := h i4 ei4
      refine lv_goto (tgt := 22) hx hb dX0_findNear_42 (by decide) ?_
      exact ih u3.1 u3.2 v1 i4 ls H locs h (lv_sub hl [1, 2, 0] rfl) hP hS
def lpX0_findNear_7 (pg : Int32) (ps : Int32) (bx : (Nat → Int32)) (xl : (Nat → Int32)) (xr : (Nat → Int32)) (yl : (Nat → Int32)) (yh : (Nat → Int32)) (pf : (Nat → Int32)) (K : (Int32 × (Nat → Int64)) → Prop) (k51 : Int32 → (Nat → Int64) → Prop) : Nat → Int32 → (Nat → Int64) → Int32 → Prop
  | 0, _, _, _ => False
  | n + 1, nq, nr, v1 => ((ps ≤ v1 → k51 nq nr) ∧ (¬ (ps ≤ v1) → (∀ i6 : Int32, i6 = (v1 + 1) → (∃ z22, lpX0_findNear_22 pg ps bx xl xr yl yh pf K (fun (nq : Int32) (nr : (Nat → Int64)) (v1 : Int32) => (∀ i7 : Int32, i7 = v1 + 1 → lpX0_findNear_7 pg ps bx xl xr yl yh pf K k51 n nq nr i7)) z22 nq nr v1 i6))))
set_option maxHeartbeats 4000000 in
set_option maxRecDepth 100000 in
theorem mX0_findNear_7 {p : Program} {l : Launch} {e : Env} {s : State} {m : MethodId} {av : Array Value} {below : List Frame} {meth : Method} {c : Code} {dC : Nat → ClassId} {dI : Nat → Nat → Nat} {cI cJ cZ : ClassId} {q : Nat → Nat} {K : (Int32 × (Nat → Int64)) → Prop} {k51 : Int32 → (Nat → Int64) → Prop} (pg : Int32) (ps : Int32) (nf : Int32) (np : Int32) (ns : Int32) (po : Int32) (pt : Int32) (rf : Int32) (rl : Int32) (bx : (Nat → Int32)) (xl : (Nat → Int32)) (xr : (Nat → Int32)) (yl : (Nat → Int32)) (yh : (Nat → Int32)) (ms : (Nat → Int32)) (wt : (Nat → Int32)) (pf : (Nat → Int32)) (sl : (Nat → Int32)) (cl : (Nat → Int32)) (hu : (Nat → Int32)) (uu : (Nat → Int32)) (pd : (Nat → Int64)) (ro : (Nat → Int32)) (rc : (Nat → Int64)) (C : CX p s m av meth c cX0_findNear 3 none RX0 wsX0_findNear) (hK : va_K (dC, dI) vwCl (TY cI cJ cZ) s) (ha : apart q 21) (hN : NX s) (hk51 : ∀ (nq : Int32) (nr : (Nat → Int64)) (ls : Array Slot) (H : Heap) (locs : List Loc), k51 nq nr → lv_has ls 3 [] → va_P (dC, dI) vwCl (WC q cI cJ cZ pg ps nf np nq ns po pt rf rl bx xl xr yl yh ms wt pf nr sl cl hu uu pd ro rc) H → va_S (AF q 21 s.heap.size) s.heap H locs → W p l e { frames := 4, cells := 0, slots := 0, locals := 99 } s m av below meth c H locs 0 0 (MQ below (QX0_findNear dC dI cI cJ cZ q s.heap.size pg ps nf np ns po pt rf rl bx xl xr yl yh ms wt pf sl cl hu uu pd ro rc K) av s 0 0 (AF q 21 s.heap.size)) (F0 m 51 ls [])) : ∀ (n : Nat) (nq : Int32) (nr : (Nat → Int64)) (v1 : Int32) (ls : Array Slot) (H : Heap) (locs : List Loc), lpX0_findNear_7 pg ps bx xl xr yl yh pf K k51 n nq nr v1 → lv_has ls 3 [(0, .ref (q 2)), (1, .int v1)] → va_P (dC, dI) vwCl (WC q cI cJ cZ pg ps nf np nq ns po pt rf rl bx xl xr yl yh ms wt pf nr sl cl hu uu pd ro rc) H → va_S (AF q 21 s.heap.size) s.heap H locs → W p l e { frames := 4, cells := 0, slots := 0, locals := 99 } s m av below meth c H locs 0 0 (MQ below (QX0_findNear dC dI cI cJ cZ q s.heap.size pg ps nf np ns po pt rf rl bx xl xr yl yh ms wt pf sl cl hu uu pd ro rc K) av s 0 0 (AF q 21 s.heap.size)) (F0 m 7 ls []) := by
  obtain ⟨hx, hb, hr, hml, hown, hts, hlk⟩ := id C
  intro n
  induction n with
  | zero =>
    intro nq nr v1 ls H locs h
    exact h.elim
  | succ n ih =>
    intro nq nr v1 ls H locs h hl hP hS
    rw [lpX0_findNear_7.eq_2] at h
    refine lv_iload_n hx hb dX0_findNear_7 rfl (lv_at hl 1 rfl) ?_
    refine lv_aload_n hx hb dX0_findNear_8 rfl (lv_at hl 0 rfl) ?_
    refine va_get (D := (dC, dI)) (ci := 0) (v := .ref (q 1)) (C := RX0) (T := TX0) (N := 9) hx hb hts iwX0_findNear_X0 hown hK hP 2 rfl rfl 0 (by decide) (hts _ fwX0_findNear_40) (fun _ h9 => h9) rfl dX0_findNear_9 ?_
    refine va_get (D := (dC, dI)) (ci := 2) (v := .int ps) (C := RX2) (T := TX2) (N := 9) hx hb hts iwX0_findNear_X2 hown hK hP 1 rfl rfl 1 (by decide) (hts _ fwX0_findNear_50) (fun _ h9 => h9) rfl dX0_findNear_12 ?_
    refine lv_icmp_ge (tgt := 51) hx hb dX0_findNear_15 (by decide) (fun c5 => ?_) (fun c5 => ?_)
    · have h := h.1 c5
      exact hk51 nq nr ls H locs h (lv_sub hl [] rfl) hP hS
    · have h := h.2 c5
      refine lv_iload_n hx hb dX0_findNear_18 rfl (lv_at hl 1 rfl) ?_
      refine lv_iconst (v := 1) hx hb dX0_findNear_19 (by decide) ?_
      refine lv_iadd hx hb dX0_findNear_20 ?_
      refine lv_topi (fun i6 ei6 => ?_)
      have h := h i6 ei6
      refine lv_istore_n (lv' := [(2, .int i6), (0, .ref (q 2)), (1, .int v1)]) hx hb dX0_findNear_21 rfl hl (by decide) rfl (fun ls hl => ?_)
      obtain ⟨n9, h⟩ := h
      exact mX0_findNear_22 pg ps nf np ns po pt rf rl bx xl xr yl yh ms wt pf sl cl hu uu pd ro rc C hK ha hN (fun nq nr v1 ls H locs h hl hP hS => by
          obtain ⟨i7, ei7⟩ : ∃ y : Int32, y = v1 + 1 := ⟨_, rfl⟩
          refine lv_iinc (v := i7) (lv' := [(1, .int i7), (0, .ref (q 2))]) hx hb dX0_findNear_45 hl (k := 1) rfl (by rw [ei7]; rfl) (by decide) rfl (fun ls hl => ?_)
          have h := h i7 ei7
          refine lv_goto (tgt := 7) hx hb dX0_findNear_48 (by decide) ?_
          exact ih nq nr i7 ls H locs h (lv_sub hl [1, 0] rfl) hP hS) n9 nq nr v1 i6 ls H locs h (lv_sub hl [1, 2, 0] rfl) hP hS
def wX0_findNear (pg : Int32) (ps : Int32) (bx : (Nat → Int32)) (xl : (Nat → Int32)) (xr : (Nat → Int32)) (yl : (Nat → Int32)) (yh : (Nat → Int32)) (pf : (Nat → Int32)) (nq : Int32) (nr : (Nat → Int64))  (K : (Int32 × (Nat → Int64)) → Prop) : Prop := (∃ z7, lpX0_findNear_7 pg ps bx xl xr yl yh pf K (fun (nq : Int32) (nr : (Nat → Int64)) => K (nq, nr)) z7 0 nr 0)
set_option maxHeartbeats 4000000 in
set_option maxRecDepth 100000 in
theorem ktX0_findNear (l : Launch) (dC : Nat → ClassId) (dI : Nat → Nat → Nat) (q : Nat → Nat) (cI cJ cZ : ClassId) (sz : Nat) (pg : Int32) (ps : Int32) (nf : Int32) (np : Int32) (nq : Int32) (ns : Int32) (po : Int32) (pt : Int32) (rf : Int32) (rl : Int32) (bx : (Nat → Int32)) (xl : (Nat → Int32)) (xr : (Nat → Int32)) (yl : (Nat → Int32)) (yh : (Nat → Int32)) (ms : (Nat → Int32)) (wt : (Nat → Int32)) (pf : (Nat → Int32)) (nr : (Nat → Int64)) (sl : (Nat → Int32)) (cl : (Nat → Int32)) (hu : (Nat → Int32)) (uu : (Nat → Int32)) (pd : (Nat → Int64)) (ro : (Nat → Int32)) (rc : (Nat → Int64))  {K : (Int32 × (Nat → Int64)) → Prop} (h : wX0_findNear pg ps bx xl xr yl yh pf nq nr K) : Met l yX0_findNear wsX0_findNear { frames := 4, cells := 0, slots := 0, locals := 99 } (va_Pc [.ref (q 2)] (wd dC dI cI cJ cZ q 21 sz (WC q cI cJ cZ pg ps nf np nq ns po pt rf rl bx xl xr yl yh ms wt pf nr sl cl hu uu pd ro rc))) (QX0_findNear dC dI cI cJ cZ q sz pg ps nf np ns po pt rf rl bx xl xr yl yh ms wt pf sl cl hu uu pd ro rc K) 0 0 (AF q 21 sz) := by
  refine met_of [.ref (q 2)] (by decide +kernel) rfl (Nat.le_of_ble_eq_true rfl) ?_
  intro p e s m below meth c ls hsz C hK ha hN hl hP
  subst hsz
  obtain ⟨hx, hb, hr, hml, hown, hts, hlk⟩ := id C
  have hl : lv_has ls 3 [(0, .ref (q 2))] := hl
  refine w_go (Pw := fun H => va_P (dC, dI) vwCl (WC q cI cJ cZ pg ps nf np nq ns po pt rf rl bx xl xr yl yh ms wt pf nr sl cl hu uu pd ro rc) H) (A := AF q 21 s.heap.size) (fun H locs hP hS => ?_) hP
  unfold wX0_findNear at h
  refine lv_aload_n hx hb dX0_findNear_0 rfl (lv_at hl 0 rfl) ?_
  refine lv_iconst (v := 0) hx hb dX0_findNear_1 (by decide) ?_
  refine va_put (D := (dC, dI)) (ci := 0) (v := .int 0) (ty := .int) (C := RX0) (T := TX0) (N := 9) hx hb hts iwX0_findNear_X0 tyX0 tyX0_ok nmX0 hown hK hP (d_WC ha) hS 2 rfl rfl 3 (by decide) (hts _ fwX0_findNear_19) (fun _ h9 => h9) rfl (by decide +kernel) rfl rfl (Nat.le_of_ble_eq_true rfl) dX0_findNear_2 (fun H locs hP _ hS => ?_)
  have hP : va_P (dC, dI) vwCl (WC q cI cJ cZ pg ps nf np 0 ns po pt rf rl bx xl xr yl yh ms wt pf nr sl cl hu uu pd ro rc) H := hP
  refine lv_iconst (v := 0) hx hb dX0_findNear_5 (by decide) ?_
  refine lv_istore_n (lv' := [(1, .int 0), (0, .ref (q 2))]) hx hb dX0_findNear_6 rfl hl (by decide) rfl (fun ls hl => ?_)
  obtain ⟨n9, h⟩ := h
  exact mX0_findNear_7 pg ps nf np ns po pt rf rl bx xl xr yl yh ms wt pf sl cl hu uu pd ro rc C hK ha hN (fun nq nr ls H locs h hl hP hS => by
      exact rt_v (nq, nr) hx hb hr hlk h (fun t ht => by rw [ht]; exact hP) hS dX0_findNear_51) n9 0 nr 0 ls H locs h (lv_sub hl [1, 0] rfl) hP hS

theorem fwX0_openPart_29 : Cond.fieldLink RX0 29 "MaskParts$Net" "near" "[J" ∈ wsX0_openPart := by decide +kernel
set_option maxRecDepth 20000 in
theorem iwX0_openPart_X0 : ∀ w ∈ wsX00, w ∈ wsX0_openPart := by decide +kernel
theorem fwX0_openPart_15 : Cond.fieldLink RX0 15 "MaskParts$Net" "parts" "I" ∈ wsX0_openPart := by decide +kernel
theorem fwX0_openPart_33 : Cond.fieldLink RX0 33 "MaskParts$Net" "stitchedToLast" "[Z" ∈ wsX0_openPart := by decide +kernel
theorem fwX0_openPart_37 : Cond.fieldLink RX0 37 "MaskParts$Net" "coloursLeft" "[I" ∈ wsX0_openPart := by decide +kernel
abbrev QX0_openPart (dC : Nat → ClassId) (dI : Nat → Nat → Nat) (cI cJ cZ : ClassId) (q : Nat → Nat) (sz : Nat) (pg : Int32) (ps : Int32) (nf : Int32) (nq : Int32) (ns : Int32) (po : Int32) (pt : Int32) (rf : Int32) (rl : Int32) (bx : (Nat → Int32)) (xl : (Nat → Int32)) (xr : (Nat → Int32)) (yl : (Nat → Int32)) (yh : (Nat → Int32)) (ms : (Nat → Int32)) (wt : (Nat → Int32)) (pf : (Nat → Int32)) (hu : (Nat → Int32)) (uu : (Nat → Int32)) (pd : (Nat → Int64)) (ro : (Nat → Int32)) (rc : (Nat → Int64)) (K : (Int32 × (Nat → Int64) × (Nat → Int32) × (Nat → Int32)) → Prop) : Array Value → State → Outcome → State → Prop := va_Qv (fun (u : Int32 × (Nat → Int64) × (Nat → Int32) × (Nat → Int32)) => K u) (fun (u : Int32 × (Nat → Int64) × (Nat → Int32) × (Nat → Int32)) t => va_P (dC, dI) vwCl (WC q cI cJ cZ pg ps nf u.1 nq ns po pt rf rl bx xl xr yl yh ms wt pf u.2.1 u.2.2.1 u.2.2.2 hu uu pd ro rc) t.heap) (AF q 21 sz)
def wX0_openPart (np : Int32) (nr : (Nat → Int64)) (sl : (Nat → Int32)) (cl : (Nat → Int32)) (v1 : Int32) (K : (Int32 × (Nat → Int64) × (Nat → Int32) × (Nat → Int32)) → Prop) : Prop := (vp_in np 40 ∧ (∀ f2 : (Nat → Int64), f2 = vp_updL nr np.toNatClampNeg 0 → (vp_in np 40 ∧ (∀ f4 : (Nat → Int32), f4 = upd sl np.toNatClampNeg (vp_nar .boolean v1) → (vp_in np 40 ∧ (∀ f6 : (Nat → Int32), f6 = upd cl np.toNatClampNeg 15 → (∀ i7 : Int32, i7 = (np + 1) → K (i7, f2, f4, f6))))))))
set_option maxHeartbeats 4000000 in
set_option maxRecDepth 100000 in
theorem ktX0_openPart (l : Launch) (dC : Nat → ClassId) (dI : Nat → Nat → Nat) (q : Nat → Nat) (cI cJ cZ : ClassId) (sz : Nat) (pg : Int32) (ps : Int32) (nf : Int32) (np : Int32) (nq : Int32) (ns : Int32) (po : Int32) (pt : Int32) (rf : Int32) (rl : Int32) (bx : (Nat → Int32)) (xl : (Nat → Int32)) (xr : (Nat → Int32)) (yl : (Nat → Int32)) (yh : (Nat → Int32)) (ms : (Nat → Int32)) (wt : (Nat → Int32)) (pf : (Nat → Int32)) (nr : (Nat → Int64)) (sl : (Nat → Int32)) (cl : (Nat → Int32)) (hu : (Nat → Int32)) (uu : (Nat → Int32)) (pd : (Nat → Int64)) (ro : (Nat → Int32)) (rc : (Nat → Int64)) (v1 : Int32) {K : (Int32 × (Nat → Int64) × (Nat → Int32) × (Nat → Int32)) → Prop} (h : wX0_openPart np nr sl cl v1 K) : Met l yX0_openPart wsX0_openPart { frames := 0, cells := 0, slots := 0, locals := 0 } (va_Pc [.ref (q 2), .int v1] (wd dC dI cI cJ cZ q 21 sz (WC q cI cJ cZ pg ps nf np nq ns po pt rf rl bx xl xr yl yh ms wt pf nr sl cl hu uu pd ro rc))) (QX0_openPart dC dI cI cJ cZ q sz pg ps nf nq ns po pt rf rl bx xl xr yl yh ms wt pf hu uu pd ro rc K) 0 0 (AF q 21 sz) := by
  refine met_of [.ref (q 2), .int v1] (by decide +kernel) rfl (Nat.le_of_ble_eq_true rfl) ?_
  intro p e s m below meth c ls hsz C hK ha hN hl hP
  subst hsz
  obtain ⟨hx, hb, hr, hml, hown, hts, hlk⟩ := id C
  have hl : lv_has ls 2 [(0, .ref (q 2)), (1, .int v1)] := hl
  refine w_go (Pw := fun H => va_P (dC, dI) vwCl (WC q cI cJ cZ pg ps nf np nq ns po pt rf rl bx xl xr yl yh ms wt pf nr sl cl hu uu pd ro rc) H) (A := AF q 21 s.heap.size) (fun H locs hP hS => ?_) hP
  unfold wX0_openPart at h
  refine lv_aload_n hx hb dX0_openPart_0 rfl (lv_at hl 0 rfl) ?_
  refine va_get (D := (dC, dI)) (ci := 0) (v := .ref (q 13)) (C := RX0) (T := TX0) (N := 9) hx hb hts iwX0_openPart_X0 hown hK hP 2 rfl rfl 6 (by decide) (hts _ fwX0_openPart_29) (fun _ h9 => h9) rfl dX0_openPart_1 ?_
  refine lv_aload_n hx hb dX0_openPart_4 rfl (lv_at hl 0 rfl) ?_
  refine va_get (D := (dC, dI)) (ci := 0) (v := .int np) (C := RX0) (T := TX0) (N := 9) hx hb hts iwX0_openPart_X0 hown hK hP 2 rfl rfl 2 (by decide) (hts _ fwX0_openPart_15) (fun _ h9 => h9) rfl dX0_openPart_5 ?_
  refine lv_lconst (v := 0) hx hb dX0_openPart_8 (by decide) ?_
  obtain ⟨b1, h⟩ := h
  refine va_last (D := (dC, dI)) hx hb hK hP (d_WC ha) hS 13 1 rfl rfl b1 dX0_openPart_9 (fun H locs hP _ hS => ?_)
  obtain ⟨f2, ef2⟩ : ∃ z : (Nat → Int64), z = vp_updL nr np.toNatClampNeg 0 := ⟨_, rfl⟩
  have h := h f2 ef2
  have hP : va_P (dC, dI) vwCl (WC q cI cJ cZ pg ps nf np nq ns po pt rf rl bx xl xr yl yh ms wt pf f2 sl cl hu uu pd ro rc) H := by rw [ef2]; exact hP
  refine lv_aload_n hx hb dX0_openPart_10 rfl (lv_at hl 0 rfl) ?_
  refine va_get (D := (dC, dI)) (ci := 0) (v := .ref (q 14)) (C := RX0) (T := TX0) (N := 9) hx hb hts iwX0_openPart_X0 hown hK hP 2 rfl rfl 7 (by decide) (hts _ fwX0_openPart_33) (fun _ h9 => h9) rfl dX0_openPart_11 ?_
  refine lv_aload_n hx hb dX0_openPart_14 rfl (lv_at hl 0 rfl) ?_
  refine va_get (D := (dC, dI)) (ci := 0) (v := .int np) (C := RX0) (T := TX0) (N := 9) hx hb hts iwX0_openPart_X0 hown hK hP 2 rfl rfl 2 (by decide) (hts _ fwX0_openPart_15) (fun _ h9 => h9) rfl dX0_openPart_15 ?_
  refine lv_iload_n hx hb dX0_openPart_18 rfl (lv_at hl 1 rfl) ?_
  obtain ⟨b3, h⟩ := h
  refine va_zast (D := (dC, dI)) hx hb hK hP (d_WC ha) hS 14 2 rfl rfl b3 dX0_openPart_19 (fun H locs hP _ hS => ?_)
  obtain ⟨f4, ef4⟩ : ∃ z : (Nat → Int32), z = upd sl np.toNatClampNeg (vp_nar .boolean v1) := ⟨_, rfl⟩
  have h := h f4 ef4
  have hP : va_P (dC, dI) vwCl (WC q cI cJ cZ pg ps nf np nq ns po pt rf rl bx xl xr yl yh ms wt pf f2 f4 cl hu uu pd ro rc) H := by rw [ef4]; exact hP
  refine lv_aload_n hx hb dX0_openPart_20 rfl (lv_at hl 0 rfl) ?_
  refine va_get (D := (dC, dI)) (ci := 0) (v := .ref (q 15)) (C := RX0) (T := TX0) (N := 9) hx hb hts iwX0_openPart_X0 hown hK hP 2 rfl rfl 8 (by decide) (hts _ fwX0_openPart_37) (fun _ h9 => h9) rfl dX0_openPart_21 ?_
  refine lv_aload_n hx hb dX0_openPart_24 rfl (lv_at hl 0 rfl) ?_
  refine va_get (D := (dC, dI)) (ci := 0) (v := .int np) (C := RX0) (T := TX0) (N := 9) hx hb hts iwX0_openPart_X0 hown hK hP 2 rfl rfl 2 (by decide) (hts _ fwX0_openPart_15) (fun _ h9 => h9) rfl dX0_openPart_25 ?_
  refine lv_bipush (v := 15) hx hb dX0_openPart_28 (by decide) ?_
  obtain ⟨b5, h⟩ := h
  refine va_iast (D := (dC, dI)) hx hb hK hP (d_WC ha) hS 15 0 rfl rfl b5 dX0_openPart_30 (fun H locs hP _ hS => ?_)
  obtain ⟨f6, ef6⟩ : ∃ z : (Nat → Int32), z = upd cl np.toNatClampNeg 15 := ⟨_, rfl⟩
  have h := h f6 ef6
  have hP : va_P (dC, dI) vwCl (WC q cI cJ cZ pg ps nf np nq ns po pt rf rl bx xl xr yl yh ms wt pf f2 f4 f6 hu uu pd ro rc) H := by rw [ef6]; exact hP
  refine lv_aload_n hx hb dX0_openPart_31 rfl (lv_at hl 0 rfl) ?_
  refine lv_dup hx hb dX0_openPart_32 rfl ?_
  refine va_get (D := (dC, dI)) (ci := 0) (v := .int np) (C := RX0) (T := TX0) (N := 9) hx hb hts iwX0_openPart_X0 hown hK hP 2 rfl rfl 2 (by decide) (hts _ fwX0_openPart_15) (fun _ h9 => h9) rfl dX0_openPart_33 ?_
  refine lv_iconst (v := 1) hx hb dX0_openPart_36 (by decide) ?_
  refine lv_iadd hx hb dX0_openPart_37 ?_
  refine lv_topi (fun i7 ei7 => ?_)
  have h := h i7 ei7
  refine va_put (D := (dC, dI)) (ci := 0) (v := .int i7) (ty := .int) (C := RX0) (T := TX0) (N := 9) hx hb hts iwX0_openPart_X0 tyX0 tyX0_ok nmX0 hown hK hP (d_WC ha) hS 2 rfl rfl 2 (by decide) (hts _ fwX0_openPart_15) (fun _ h9 => h9) rfl (by decide +kernel) rfl rfl (Nat.le_of_ble_eq_true rfl) dX0_openPart_38 (fun H locs hP _ hS => ?_)
  have hP : va_P (dC, dI) vwCl (WC q cI cJ cZ pg ps nf i7 nq ns po pt rf rl bx xl xr yl yh ms wt pf f2 f4 f6 hu uu pd ro rc) H := hP
  exact rt_v (i7, f2, f4, f6) hx hb hr hlk h (fun t ht => by rw [ht]; exact hP) hS dX0_openPart_41

theorem fwX0_addToParts_25 : Cond.fieldLink RX0 25 "MaskParts$Net" "partOf" "[I" ∈ wsX0_addToParts := by decide +kernel
set_option maxRecDepth 20000 in
theorem iwX0_addToParts_X0 : ∀ w ∈ wsX00, w ∈ wsX0_addToParts := by decide +kernel
theorem fwX0_addToParts_15 : Cond.fieldLink RX0 15 "MaskParts$Net" "parts" "I" ∈ wsX0_addToParts := by decide +kernel
theorem fwX0_addToParts_40 : Cond.fieldLink RX0 40 "MaskParts$Net" "plan" "LMaskParts$Plan;" ∈ wsX0_addToParts := by decide +kernel
theorem fwX0_addToParts_73 : Cond.fieldLink RX0 73 "MaskParts$Plan" "wanted" "[I" ∈ wsX0_addToParts := by decide +kernel
set_option maxRecDepth 20000 in
theorem iwX0_addToParts_X2 : ∀ w ∈ wsX20, w ∈ wsX0_addToParts := by decide +kernel
theorem fwX0_addToParts_37 : Cond.fieldLink RX0 37 "MaskParts$Net" "coloursLeft" "[I" ∈ wsX0_addToParts := by decide +kernel
theorem fwX0_addToParts_70 : Cond.fieldLink RX0 70 "MaskParts$Plan" "mayStitch" "[Z" ∈ wsX0_addToParts := by decide +kernel
theorem fwX0_addToParts_22 : Cond.fieldLink RX0 22 "MaskParts$Net" "stitches" "I" ∈ wsX0_addToParts := by decide +kernel
abbrev QX0_addToParts (dC : Nat → ClassId) (dI : Nat → Nat → Nat) (cI cJ cZ : ClassId) (q : Nat → Nat) (sz : Nat) (pg : Int32) (ps : Int32) (nf : Int32) (nq : Int32) (po : Int32) (pt : Int32) (rf : Int32) (rl : Int32) (bx : (Nat → Int32)) (xl : (Nat → Int32)) (xr : (Nat → Int32)) (yl : (Nat → Int32)) (yh : (Nat → Int32)) (ms : (Nat → Int32)) (wt : (Nat → Int32)) (hu : (Nat → Int32)) (uu : (Nat → Int32)) (pd : (Nat → Int64)) (ro : (Nat → Int32)) (rc : (Nat → Int64)) (K : (Int32 × Int32 × (Nat → Int32) × (Nat → Int64) × (Nat → Int32) × (Nat → Int32)) → Prop) : Array Value → State → Outcome → State → Prop := va_Qv (fun (u : Int32 × Int32 × (Nat → Int32) × (Nat → Int64) × (Nat → Int32) × (Nat → Int32)) => K u) (fun (u : Int32 × Int32 × (Nat → Int32) × (Nat → Int64) × (Nat → Int32) × (Nat → Int32)) t => va_P (dC, dI) vwCl (WC q cI cJ cZ pg ps nf u.1 nq u.2.1 po pt rf rl bx xl xr yl yh ms wt u.2.2.1 u.2.2.2.1 u.2.2.2.2.1 u.2.2.2.2.2 hu uu pd ro rc) t.heap) (AF q 21 sz)
def bkX0_addToParts_41 (ms : (Nat → Int32)) (wt : (Nat → Int32)) (K : (Int32 × Int32 × (Nat → Int32) × (Nat → Int64) × (Nat → Int32) × (Nat → Int32)) → Prop) (np : Int32) (ns : Int32) (pf : (Nat → Int32)) (nr : (Nat → Int64)) (sl : (Nat → Int32)) (cl : (Nat → Int32)) (v2 : Int32) : Prop := (vp_in v2 40 ∧ (∀ f2 : (Nat → Int32), f2 = upd pf v2.toNatClampNeg ((np - 1)) → (vp_in v2 40 ∧ (((wt v2.toNatClampNeg) = (-1) → K (np, ns, f2, nr, sl, cl)) ∧ (¬ ((wt v2.toNatClampNeg) = (-1)) → (vp_in ((np - 1)) 40 ∧ (vp_in v2 40 ∧ (vp_in ((np - 1)) 40 ∧ (∀ f8 : (Nat → Int32), f8 = upd cl ((np - 1) : Int32).toNatClampNeg (((cl ((np - 1) : Int32).toNatClampNeg) &&& ((1 : Int32) <<< ((wt v2.toNatClampNeg) &&& 31)))) → K (np, ns, f2, nr, sl, f8))))))))))
set_option maxHeartbeats 4000000 in
set_option maxRecDepth 100000 in
theorem mX0_addToParts_41 {p : Program} {l : Launch} {e : Env} {s : State} {m : MethodId} {av : Array Value} {below : List Frame} {meth : Method} {c : Code} {dC : Nat → ClassId} {dI : Nat → Nat → Nat} {cI cJ cZ : ClassId} {q : Nat → Nat} {K : (Int32 × Int32 × (Nat → Int32) × (Nat → Int64) × (Nat → Int32) × (Nat → Int32)) → Prop} (pg : Int32) (ps : Int32) (nf : Int32) (nq : Int32) (po : Int32) (pt : Int32) (rf : Int32) (rl : Int32) (bx : (Nat → Int32)) (xl : (Nat → Int32)) (xr : (Nat → Int32)) (yl : (Nat → Int32)) (yh : (Nat → Int32)) (ms : (Nat → Int32)) (wt : (Nat → Int32)) (hu : (Nat → Int32)) (uu : (Nat → Int32)) (pd : (Nat → Int64)) (ro : (Nat → Int32)) (rc : (Nat → Int64)) (C : CX p s m av meth c cX0_addToParts 3 none RX0 wsX0_addToParts) (hK : va_K (dC, dI) vwCl (TY cI cJ cZ) s) (ha : apart q 21) (hN : NX s)  : ∀ (np : Int32) (ns : Int32) (pf : (Nat → Int32)) (nr : (Nat → Int64)) (sl : (Nat → Int32)) (cl : (Nat → Int32)) (v2 : Int32) (ls : Array Slot) (H : Heap) (locs : List Loc), bkX0_addToParts_41 ms wt K np ns pf nr sl cl v2 → lv_has ls 3 [(0, .ref (q 2)), (2, .int v2)] → va_P (dC, dI) vwCl (WC q cI cJ cZ pg ps nf np nq ns po pt rf rl bx xl xr yl yh ms wt pf nr sl cl hu uu pd ro rc) H → va_S (AF q 21 s.heap.size) s.heap H locs → W p l e { frames := 1, cells := 0, slots := 0, locals := 21 } s m av below meth c H locs 0 0 (MQ below (QX0_addToParts dC dI cI cJ cZ q s.heap.size pg ps nf nq po pt rf rl bx xl xr yl yh ms wt hu uu pd ro rc K) av s 0 0 (AF q 21 s.heap.size)) (F0 m 41 ls []) := by
  obtain ⟨hx, hb, hr, hml, hown, hts, hlk⟩ := id C
  intro np ns pf nr sl cl v2 ls H locs h hl hP hS
  unfold bkX0_addToParts_41 at h
  refine lv_aload_n hx hb dX0_addToParts_41 rfl (lv_at hl 0 rfl) ?_
  refine va_get (D := (dC, dI)) (ci := 0) (v := .ref (q 12)) (C := RX0) (T := TX0) (N := 9) hx hb hts iwX0_addToParts_X0 hown hK hP 2 rfl rfl 5 (by decide) (hts _ fwX0_addToParts_25) (fun _ h9 => h9) rfl dX0_addToParts_42 ?_
  refine lv_iload_n hx hb dX0_addToParts_45 rfl (lv_at hl 1 rfl) ?_
  refine lv_aload_n hx hb dX0_addToParts_46 rfl (lv_at hl 0 rfl) ?_
  refine va_get (D := (dC, dI)) (ci := 0) (v := .int np) (C := RX0) (T := TX0) (N := 9) hx hb hts iwX0_addToParts_X0 hown hK hP 2 rfl rfl 2 (by decide) (hts _ fwX0_addToParts_15) (fun _ h9 => h9) rfl dX0_addToParts_47 ?_
  refine lv_iconst (v := 1) hx hb dX0_addToParts_50 (by decide) ?_
  refine lv_isub hx hb dX0_addToParts_51 ?_
  obtain ⟨b1, h⟩ := h
  refine va_iast (D := (dC, dI)) hx hb hK hP (d_WC ha) hS 12 0 rfl rfl b1 dX0_addToParts_52 (fun H locs hP _ hS => ?_)
  obtain ⟨f2, ef2⟩ : ∃ z : (Nat → Int32), z = upd pf v2.toNatClampNeg ((np - 1)) := ⟨_, rfl⟩
  have h := h f2 ef2
  have hP : va_P (dC, dI) vwCl (WC q cI cJ cZ pg ps nf np nq ns po pt rf rl bx xl xr yl yh ms wt f2 nr sl cl hu uu pd ro rc) H := by rw [ef2]; exact hP
  refine lv_aload_n hx hb dX0_addToParts_53 rfl (lv_at hl 0 rfl) ?_
  refine va_get (D := (dC, dI)) (ci := 0) (v := .ref (q 1)) (C := RX0) (T := TX0) (N := 9) hx hb hts iwX0_addToParts_X0 hown hK hP 2 rfl rfl 0 (by decide) (hts _ fwX0_addToParts_40) (fun _ h9 => h9) rfl dX0_addToParts_54 ?_
  refine va_get (D := (dC, dI)) (ci := 2) (v := .ref (q 11)) (C := RX2) (T := TX2) (N := 9) hx hb hts iwX0_addToParts_X2 hown hK hP 1 rfl rfl 8 (by decide) (hts _ fwX0_addToParts_73) (fun _ h9 => h9) rfl dX0_addToParts_57 ?_
  refine lv_iload_n hx hb dX0_addToParts_60 rfl (lv_at hl 1 rfl) ?_
  obtain ⟨b3, h⟩ := h
  refine va_iald (D := (dC, dI)) hx hb hK hP 11 0 rfl rfl b3 dX0_addToParts_61 ?_
  refine lv_iconst (v := (-1)) hx hb dX0_addToParts_62 (by decide) ?_
  refine lv_icmp_eq (tgt := 91) hx hb dX0_addToParts_63 (by decide) (fun c4 => ?_) (fun c4 => ?_)
  · have h := h.1 c4
    exact rt_v (np, ns, f2, nr, sl, cl) hx hb hr hlk h (fun t ht => by rw [ht]; exact hP) hS dX0_addToParts_91
  · have h := h.2 c4
    refine lv_aload_n hx hb dX0_addToParts_66 rfl (lv_at hl 0 rfl) ?_
    refine va_get (D := (dC, dI)) (ci := 0) (v := .ref (q 15)) (C := RX0) (T := TX0) (N := 9) hx hb hts iwX0_addToParts_X0 hown hK hP 2 rfl rfl 8 (by decide) (hts _ fwX0_addToParts_37) (fun _ h9 => h9) rfl dX0_addToParts_67 ?_
    refine lv_aload_n hx hb dX0_addToParts_70 rfl (lv_at hl 0 rfl) ?_
    refine va_get (D := (dC, dI)) (ci := 0) (v := .int np) (C := RX0) (T := TX0) (N := 9) hx hb hts iwX0_addToParts_X0 hown hK hP 2 rfl rfl 2 (by decide) (hts _ fwX0_addToParts_15) (fun _ h9 => h9) rfl dX0_addToParts_71 ?_
    refine lv_iconst (v := 1) hx hb dX0_addToParts_74 (by decide) ?_
    refine lv_isub hx hb dX0_addToParts_75 ?_
    refine lv_dup2_11 hx hb dX0_addToParts_76 rfl rfl ?_
    obtain ⟨b5, h⟩ := h
    refine va_iald (D := (dC, dI)) hx hb hK hP 15 0 rfl rfl b5 dX0_addToParts_77 ?_
    refine lv_iconst (v := 1) hx hb dX0_addToParts_78 (by decide) ?_
    refine lv_aload_n hx hb dX0_addToParts_79 rfl (lv_at hl 0 rfl) ?_
    refine va_get (D := (dC, dI)) (ci := 0) (v := .ref (q 1)) (C := RX0) (T := TX0) (N := 9) hx hb hts iwX0_addToParts_X0 hown hK hP 2 rfl rfl 0 (by decide) (hts _ fwX0_addToParts_40) (fun _ h9 => h9) rfl dX0_addToParts_80 ?_
    refine va_get (D := (dC, dI)) (ci := 2) (v := .ref (q 11)) (C := RX2) (T := TX2) (N := 9) hx hb hts iwX0_addToParts_X2 hown hK hP 1 rfl rfl 8 (by decide) (hts _ fwX0_addToParts_73) (fun _ h9 => h9) rfl dX0_addToParts_83 ?_
    refine lv_iload_n hx hb dX0_addToParts_86 rfl (lv_at hl 1 rfl) ?_
    obtain ⟨b6, h⟩ := h
    refine va_iald (D := (dC, dI)) hx hb hK hP 11 0 rfl rfl b6 dX0_addToParts_87 ?_
    refine lv_ishl hx hb dX0_addToParts_88 ?_
    refine lv_iand hx hb dX0_addToParts_89 ?_
    obtain ⟨b7, h⟩ := h
    refine va_iast (D := (dC, dI)) hx hb hK hP (d_WC ha) hS 15 0 rfl rfl b7 dX0_addToParts_90 (fun H locs hP _ hS => ?_)
    obtain ⟨f8, ef8⟩ : ∃ z : (Nat → Int32), z = upd cl ((np - 1) : Int32).toNatClampNeg (((cl ((np - 1) : Int32).toNatClampNeg) &&& ((1 : Int32) <<< ((wt v2.toNatClampNeg) &&& 31)))) := ⟨_, rfl⟩
    have h := h f8 ef8
    have hP : va_P (dC, dI) vwCl (WC q cI cJ cZ pg ps nf np nq ns po pt rf rl bx xl xr yl yh ms wt f2 nr sl f8 hu uu pd ro rc) H := by rw [ef8]; exact hP
    exact rt_v (np, ns, f2, nr, sl, f8) hx hb hr hlk h (fun t ht => by rw [ht]; exact hP) hS dX0_addToParts_91
def wX0_addToParts (ms : (Nat → Int32)) (wt : (Nat → Int32)) (np : Int32) (ns : Int32) (pf : (Nat → Int32)) (nr : (Nat → Int64)) (sl : (Nat → Int32)) (cl : (Nat → Int32)) (v1 : Int32) (v2 : Int32) (K : (Int32 × Int32 × (Nat → Int32) × (Nat → Int64) × (Nat → Int32) × (Nat → Int32)) → Prop) : Prop := ((¬ v1 = 0 → (vp_in ((v2 - 1)) 40 ∧ (((ms ((v2 - 1) : Int32).toNatClampNeg) = 0 → bkX0_addToParts_41 ms wt K np ns pf nr sl cl v2) ∧ (¬ ((ms ((v2 - 1) : Int32).toNatClampNeg) = 0) → (wX0_openPart np nr sl cl 1 (fun (u13 : Int32 × (Nat → Int64) × (Nat → Int32) × (Nat → Int32)) => (∀ i14 : Int32, i14 = (ns + 1) → bkX0_addToParts_41 ms wt K u13.1 i14 pf u13.2.1 u13.2.2.1 u13.2.2.2 v2))))))) ∧ (v1 = 0 → (wX0_openPart np nr sl cl 0 (fun (u16 : Int32 × (Nat → Int64) × (Nat → Int32) × (Nat → Int32)) => bkX0_addToParts_41 ms wt K u16.1 ns pf u16.2.1 u16.2.2.1 u16.2.2.2 v2))))
set_option maxHeartbeats 4000000 in
set_option maxRecDepth 100000 in
theorem ktX0_addToParts (l : Launch) (dC : Nat → ClassId) (dI : Nat → Nat → Nat) (q : Nat → Nat) (cI cJ cZ : ClassId) (sz : Nat) (pg : Int32) (ps : Int32) (nf : Int32) (np : Int32) (nq : Int32) (ns : Int32) (po : Int32) (pt : Int32) (rf : Int32) (rl : Int32) (bx : (Nat → Int32)) (xl : (Nat → Int32)) (xr : (Nat → Int32)) (yl : (Nat → Int32)) (yh : (Nat → Int32)) (ms : (Nat → Int32)) (wt : (Nat → Int32)) (pf : (Nat → Int32)) (nr : (Nat → Int64)) (sl : (Nat → Int32)) (cl : (Nat → Int32)) (hu : (Nat → Int32)) (uu : (Nat → Int32)) (pd : (Nat → Int64)) (ro : (Nat → Int32)) (rc : (Nat → Int64)) (v1 : Int32) (v2 : Int32) {K : (Int32 × Int32 × (Nat → Int32) × (Nat → Int64) × (Nat → Int32) × (Nat → Int32)) → Prop} (h : wX0_addToParts ms wt np ns pf nr sl cl v1 v2 K) : Met l yX0_addToParts wsX0_addToParts { frames := 1, cells := 0, slots := 0, locals := 21 } (va_Pc [.ref (q 2), .int v1, .int v2] (wd dC dI cI cJ cZ q 21 sz (WC q cI cJ cZ pg ps nf np nq ns po pt rf rl bx xl xr yl yh ms wt pf nr sl cl hu uu pd ro rc))) (QX0_addToParts dC dI cI cJ cZ q sz pg ps nf nq po pt rf rl bx xl xr yl yh ms wt hu uu pd ro rc K) 0 0 (AF q 21 sz) := by
  refine met_of [.ref (q 2), .int v1, .int v2] (by decide +kernel) rfl (Nat.le_of_ble_eq_true rfl) ?_
  intro p e s m below meth c ls hsz C hK ha hN hl hP
  subst hsz
  obtain ⟨hx, hb, hr, hml, hown, hts, hlk⟩ := id C
  have hl : lv_has ls 3 [(0, .ref (q 2)), (1, .int v1), (2, .int v2)] := hl
  refine w_go (Pw := fun H => va_P (dC, dI) vwCl (WC q cI cJ cZ pg ps nf np nq ns po pt rf rl bx xl xr yl yh ms wt pf nr sl cl hu uu pd ro rc) H) (A := AF q 21 s.heap.size) (fun H locs hP hS => ?_) hP
  unfold wX0_addToParts at h
  refine lv_iload_n hx hb dX0_addToParts_0 rfl (lv_at hl 1 rfl) ?_
  refine lv_if_ne (tgt := 12) hx hb dX0_addToParts_1 (by decide) (fun c9 => ?_) (fun c9 => ?_)
  · have h := h.1 c9
    refine lv_aload_n hx hb dX0_addToParts_12 rfl (lv_at hl 0 rfl) ?_
    refine va_get (D := (dC, dI)) (ci := 0) (v := .ref (q 1)) (C := RX0) (T := TX0) (N := 9) hx hb hts iwX0_addToParts_X0 hown hK hP 2 rfl rfl 0 (by decide) (hts _ fwX0_addToParts_40) (fun _ h9 => h9) rfl dX0_addToParts_13 ?_
    refine va_get (D := (dC, dI)) (ci := 2) (v := .ref (q 10)) (C := RX2) (T := TX2) (N := 9) hx hb hts iwX0_addToParts_X2 hown hK hP 1 rfl rfl 7 (by decide) (hts _ fwX0_addToParts_70) (fun _ h9 => h9) rfl dX0_addToParts_16 ?_
    refine lv_iload_n hx hb dX0_addToParts_19 rfl (lv_at hl 2 rfl) ?_
    refine lv_iconst (v := 1) hx hb dX0_addToParts_20 (by decide) ?_
    refine lv_isub hx hb dX0_addToParts_21 ?_
    obtain ⟨b10, h⟩ := h
    refine va_zald (D := (dC, dI)) hx hb hK hP 10 2 rfl rfl b10 dX0_addToParts_22 ?_
    refine lv_if_eq (tgt := 41) hx hb dX0_addToParts_23 (by decide) (fun c11 => ?_) (fun c11 => ?_)
    · have h := h.1 c11
      exact mX0_addToParts_41 pg ps nf nq po pt rf rl bx xl xr yl yh ms wt hu uu pd ro rc C hK ha hN  np ns pf nr sl cl v2 ls H locs h (lv_sub hl [0, 2] rfl) hP hS
    · have h := h.2 c11
      refine lv_aload_n hx hb dX0_addToParts_26 rfl (lv_at hl 0 rfl) ?_
      refine lv_iconst (v := 1) hx hb dX0_addToParts_27 (by decide) ?_
      refine cl_v (va_runV (As := [.int 1]) (rest := []) ⟨hx, hb, hml, hown, hts⟩ (ktX0_openPart l dC dI q cI cJ cZ H.size pg ps nf np nq ns po pt rf rl bx xl xr yl yh ms wt pf nr sl cl hu uu pd ro rc 1 h) (cwV 1 hts gX0_addToParts_X0_openPart rfl rfl rfl (by decide +kernel) ⟨Nat.le_of_ble_eq_true rfl, Nat.le_of_ble_eq_true rfl⟩) ⟨wd.blind, va_recv hK hP (ci := 0) (q0 := 2) rfl rfl, fun U hU hW => ⟨rfl, wd.at hP hK ha hN hU hW⟩⟩ rfl rfl hl.1 rfl (lv_room (Nat.le_of_ble_eq_true rfl)) dX0_addToParts_28 ⟨Nat.le_of_ble_eq_true rfl, Nat.le_of_ble_eq_true rfl⟩) hS (fun u13 H locs h hP hS => ?_)
      have hP : va_P (dC, dI) vwCl (WC q cI cJ cZ pg ps nf u13.1 nq ns po pt rf rl bx xl xr yl yh ms wt pf u13.2.1 u13.2.2.1 u13.2.2.2 hu uu pd ro rc) H := hP
      refine lv_aload_n hx hb dX0_addToParts_31 rfl (lv_at hl 0 rfl) ?_
      refine lv_dup hx hb dX0_addToParts_32 rfl ?_
      refine va_get (D := (dC, dI)) (ci := 0) (v := .int ns) (C := RX0) (T := TX0) (N := 9) hx hb hts iwX0_addToParts_X0 hown hK hP 2 rfl rfl 4 (by decide) (hts _ fwX0_addToParts_22) (fun _ h9 => h9) rfl dX0_addToParts_33 ?_
      refine lv_iconst (v := 1) hx hb dX0_addToParts_36 (by decide) ?_
      refine lv_iadd hx hb dX0_addToParts_37 ?_
      refine lv_topi (fun i14 ei14 => ?_)
      have h := h i14 ei14
      refine va_put (D := (dC, dI)) (ci := 0) (v := .int i14) (ty := .int) (C := RX0) (T := TX0) (N := 9) hx hb hts iwX0_addToParts_X0 tyX0 tyX0_ok nmX0 hown hK hP (d_WC ha) hS 2 rfl rfl 4 (by decide) (hts _ fwX0_addToParts_22) (fun _ h9 => h9) rfl (by decide +kernel) rfl rfl (Nat.le_of_ble_eq_true rfl) dX0_addToParts_38 (fun H locs hP _ hS => ?_)
      have hP : va_P (dC, dI) vwCl (WC q cI cJ cZ pg ps nf u13.1 nq i14 po pt rf rl bx xl xr yl yh ms wt pf u13.2.1 u13.2.2.1 u13.2.2.2 hu uu pd ro rc) H := hP
      exact mX0_addToParts_41 pg ps nf nq po pt rf rl bx xl xr yl yh ms wt hu uu pd ro rc C hK ha hN  u13.1 i14 pf u13.2.1 u13.2.2.1 u13.2.2.2 v2 ls H locs h (lv_sub hl [0, 2] rfl) hP hS
  · have h := h.2 c9
    refine lv_aload_n hx hb dX0_addToParts_4 rfl (lv_at hl 0 rfl) ?_
    refine lv_iconst (v := 0) hx hb dX0_addToParts_5 (by decide) ?_
    refine cl_v (va_runV (As := [.int 0]) (rest := []) ⟨hx, hb, hml, hown, hts⟩ (ktX0_openPart l dC dI q cI cJ cZ H.size pg ps nf np nq ns po pt rf rl bx xl xr yl yh ms wt pf nr sl cl hu uu pd ro rc 0 h) (cwV 1 hts gX0_addToParts_X0_openPart rfl rfl rfl (by decide +kernel) ⟨Nat.le_of_ble_eq_true rfl, Nat.le_of_ble_eq_true rfl⟩) ⟨wd.blind, va_recv hK hP (ci := 0) (q0 := 2) rfl rfl, fun U hU hW => ⟨rfl, wd.at hP hK ha hN hU hW⟩⟩ rfl rfl hl.1 rfl (lv_room (Nat.le_of_ble_eq_true rfl)) dX0_addToParts_6 ⟨Nat.le_of_ble_eq_true rfl, Nat.le_of_ble_eq_true rfl⟩) hS (fun u16 H locs h hP hS => ?_)
    have hP : va_P (dC, dI) vwCl (WC q cI cJ cZ pg ps nf u16.1 nq ns po pt rf rl bx xl xr yl yh ms wt pf u16.2.1 u16.2.2.1 u16.2.2.2 hu uu pd ro rc) H := hP
    refine lv_goto (tgt := 41) hx hb dX0_addToParts_9 (by decide) ?_
    exact mX0_addToParts_41 pg ps nf nq po pt rf rl bx xl xr yl yh ms wt hu uu pd ro rc C hK ha hN  u16.1 ns pf u16.2.1 u16.2.2.1 u16.2.2.2 v2 ls H locs h (lv_sub hl [0, 2] rfl) hP hS

theorem fwX0_numberParts_40 : Cond.fieldLink RX0 40 "MaskParts$Net" "plan" "LMaskParts$Plan;" ∈ wsX0_numberParts := by decide +kernel
set_option maxRecDepth 20000 in
theorem iwX0_numberParts_X0 : ∀ w ∈ wsX00, w ∈ wsX0_numberParts := by decide +kernel
theorem fwX0_numberParts_55 : Cond.fieldLink RX0 55 "MaskParts$Plan" "boxes" "[I" ∈ wsX0_numberParts := by decide +kernel
set_option maxRecDepth 20000 in
theorem iwX0_numberParts_X2 : ∀ w ∈ wsX20, w ∈ wsX0_numberParts := by decide +kernel
theorem fwX0_numberParts_50 : Cond.fieldLink RX0 50 "MaskParts$Plan" "shapes" "I" ∈ wsX0_numberParts := by decide +kernel
theorem fwX0_numberParts_15 : Cond.fieldLink RX0 15 "MaskParts$Net" "parts" "I" ∈ wsX0_numberParts := by decide +kernel
theorem fwX0_numberParts_22 : Cond.fieldLink RX0 22 "MaskParts$Net" "stitches" "I" ∈ wsX0_numberParts := by decide +kernel
abbrev QX0_numberParts (dC : Nat → ClassId) (dI : Nat → Nat → Nat) (cI cJ cZ : ClassId) (q : Nat → Nat) (sz : Nat) (pg : Int32) (ps : Int32) (nf : Int32) (nq : Int32) (po : Int32) (pt : Int32) (rf : Int32) (rl : Int32) (bx : (Nat → Int32)) (xl : (Nat → Int32)) (xr : (Nat → Int32)) (yl : (Nat → Int32)) (yh : (Nat → Int32)) (ms : (Nat → Int32)) (wt : (Nat → Int32)) (hu : (Nat → Int32)) (uu : (Nat → Int32)) (pd : (Nat → Int64)) (ro : (Nat → Int32)) (rc : (Nat → Int64)) (K : (Int32 × Int32 × (Nat → Int32) × (Nat → Int64) × (Nat → Int32) × (Nat → Int32)) → Prop) : Array Value → State → Outcome → State → Prop := va_Qv (fun (u : Int32 × Int32 × (Nat → Int32) × (Nat → Int64) × (Nat → Int32) × (Nat → Int32)) => K u) (fun (u : Int32 × Int32 × (Nat → Int32) × (Nat → Int64) × (Nat → Int32) × (Nat → Int32)) t => va_P (dC, dI) vwCl (WC q cI cJ cZ pg ps nf u.1 nq u.2.1 po pt rf rl bx xl xr yl yh ms wt u.2.2.1 u.2.2.2.1 u.2.2.2.2.1 u.2.2.2.2.2 hu uu pd ro rc) t.heap) (AF q 21 sz)
def lpX0_numberParts_25 (ps : Int32) (bx : (Nat → Int32)) (ms : (Nat → Int32)) (wt : (Nat → Int32)) (K : (Int32 × Int32 × (Nat → Int32) × (Nat → Int64) × (Nat → Int32) × (Nat → Int32)) → Prop) (k54 : Int32 → Int32 → (Nat → Int32) → (Nat → Int64) → (Nat → Int32) → (Nat → Int32) → Int32 → Prop) : Nat → Int32 → Int32 → (Nat → Int32) → (Nat → Int64) → (Nat → Int32) → (Nat → Int32) → Int32 → Int32 → Prop
  | 0, _, _, _, _, _, _, _, _ => False
  | n + 1, np, ns, pf, nr, sl, cl, v1, v2 => (vp_in v1 10 ∧ (((bx v1.toNatClampNeg) ≤ v2 → k54 np ns pf nr sl cl v1) ∧ (¬ ((bx v1.toNatClampNeg) ≤ v2) → (wX2_slot v1 v2 (fun r3 : Int32 => (wX0_addToParts ms wt np ns pf nr sl cl v2 r3 (fun (u6 : Int32 × Int32 × (Nat → Int32) × (Nat → Int64) × (Nat → Int32) × (Nat → Int32)) => (∀ i7 : Int32, i7 = v2 + 1 → lpX0_numberParts_25 ps bx ms wt K k54 n u6.1 u6.2.1 u6.2.2.1 u6.2.2.2.1 u6.2.2.2.2.1 u6.2.2.2.2.2 v1 i7))))))))
set_option maxHeartbeats 4000000 in
set_option maxRecDepth 100000 in
theorem mX0_numberParts_25 {p : Program} {l : Launch} {e : Env} {s : State} {m : MethodId} {av : Array Value} {below : List Frame} {meth : Method} {c : Code} {dC : Nat → ClassId} {dI : Nat → Nat → Nat} {cI cJ cZ : ClassId} {q : Nat → Nat} {K : (Int32 × Int32 × (Nat → Int32) × (Nat → Int64) × (Nat → Int32) × (Nat → Int32)) → Prop} {k54 : Int32 → Int32 → (Nat → Int32) → (Nat → Int64) → (Nat → Int32) → (Nat → Int32) → Int32 → Prop} (pg : Int32) (ps : Int32) (nf : Int32) (nq : Int32) (po : Int32) (pt : Int32) (rf : Int32) (rl : Int32) (bx : (Nat → Int32)) (xl : (Nat → Int32)) (xr : (Nat → Int32)) (yl : (Nat → Int32)) (yh : (Nat → Int32)) (ms : (Nat → Int32)) (wt : (Nat → Int32)) (hu : (Nat → Int32)) (uu : (Nat → Int32)) (pd : (Nat → Int64)) (ro : (Nat → Int32)) (rc : (Nat → Int64)) (C : CX p s m av meth c cX0_numberParts 3 none RX0 wsX0_numberParts) (hK : va_K (dC, dI) vwCl (TY cI cJ cZ) s) (ha : apart q 21) (hN : NX s) (hk54 : ∀ (np : Int32) (ns : Int32) (pf : (Nat → Int32)) (nr : (Nat → Int64)) (sl : (Nat → Int32)) (cl : (Nat → Int32)) (v1 : Int32) (ls : Array Slot) (H : Heap) (locs : List Loc), k54 np ns pf nr sl cl v1 → lv_has ls 3 [(0, .ref (q 2)), (1, .int v1)] → va_P (dC, dI) vwCl (WC q cI cJ cZ pg ps nf np nq ns po pt rf rl bx xl xr yl yh ms wt pf nr sl cl hu uu pd ro rc) H → va_S (AF q 21 s.heap.size) s.heap H locs → W p l e { frames := 2, cells := 0, slots := 0, locals := 43 } s m av below meth c H locs 0 0 (MQ below (QX0_numberParts dC dI cI cJ cZ q s.heap.size pg ps nf nq po pt rf rl bx xl xr yl yh ms wt hu uu pd ro rc K) av s 0 0 (AF q 21 s.heap.size)) (F0 m 54 ls [])) : ∀ (n : Nat) (np : Int32) (ns : Int32) (pf : (Nat → Int32)) (nr : (Nat → Int64)) (sl : (Nat → Int32)) (cl : (Nat → Int32)) (v1 : Int32) (v2 : Int32) (ls : Array Slot) (H : Heap) (locs : List Loc), lpX0_numberParts_25 ps bx ms wt K k54 n np ns pf nr sl cl v1 v2 → lv_has ls 3 [(0, .ref (q 2)), (1, .int v1), (2, .int v2)] → va_P (dC, dI) vwCl (WC q cI cJ cZ pg ps nf np nq ns po pt rf rl bx xl xr yl yh ms wt pf nr sl cl hu uu pd ro rc) H → va_S (AF q 21 s.heap.size) s.heap H locs → W p l e { frames := 2, cells := 0, slots := 0, locals := 43 } s m av below meth c H locs 0 0 (MQ below (QX0_numberParts dC dI cI cJ cZ q s.heap.size pg ps nf nq po pt rf rl bx xl xr yl yh ms wt hu uu pd ro rc K) av s 0 0 (AF q 21 s.heap.size)) (F0 m 25 ls []) := by
  obtain ⟨hx, hb, hr, hml, hown, hts, hlk⟩ := id C
  intro n
  induction n with
  | zero =>
    intro np ns pf nr sl cl v1 v2 ls H locs h
    exact h.elim
  | succ n ih =>
    intro np ns pf nr sl cl v1 v2 ls H locs h hl hP hS
    rw [lpX0_numberParts_25.eq_2] at h
    refine lv_iload_n hx hb dX0_numberParts_25 rfl (lv_at hl 2 rfl) ?_
    refine lv_aload_n hx hb dX0_numberParts_26 rfl (lv_at hl 0 rfl) ?_
    refine va_get (D := (dC, dI)) (ci := 0) (v := .ref (q 1)) (C := RX0) (T := TX0) (N := 9) hx hb hts iwX0_numberParts_X0 hown hK hP 2 rfl rfl 0 (by decide) (hts _ fwX0_numberParts_40) (fun _ h9 => h9) rfl dX0_numberParts_27 ?_
    refine va_get (D := (dC, dI)) (ci := 2) (v := .ref (q 5)) (C := RX2) (T := TX2) (N := 9) hx hb hts iwX0_numberParts_X2 hown hK hP 1 rfl rfl 2 (by decide) (hts _ fwX0_numberParts_55) (fun _ h9 => h9) rfl dX0_numberParts_30 ?_
    refine lv_iload_n hx hb dX0_numberParts_33 rfl (lv_at hl 1 rfl) ?_
    obtain ⟨b1, h⟩ := h
    refine va_iald (D := (dC, dI)) hx hb hK hP 5 0 rfl rfl b1 dX0_numberParts_34 ?_
    refine lv_icmp_ge (tgt := 54) hx hb dX0_numberParts_35 (by decide) (fun c2 => ?_) (fun c2 => ?_)
    · have h := h.1 c2
      exact hk54 np ns pf nr sl cl v1 ls H locs h (lv_sub hl [0, 1] rfl) hP hS
    · have h := h.2 c2
      refine lv_aload_n hx hb dX0_numberParts_38 rfl (lv_at hl 0 rfl) ?_
      refine lv_iload_n hx hb dX0_numberParts_39 rfl (lv_at hl 2 rfl) ?_
      refine lv_iload_n hx hb dX0_numberParts_40 rfl (lv_at hl 1 rfl) ?_
      refine lv_iload_n hx hb dX0_numberParts_41 rfl (lv_at hl 2 rfl) ?_
      refine cl_pi (va_runS (As := [.int v1, .int v2]) (rest := [.int v2, .ref (q 2)]) ⟨hx, hb, hml, hown, hts⟩ (ktX2_slot l H.size v1 v2 h) (va_cwS 2 hts gX0_numberParts_X2_slot rfl rfl rfl (by decide +kernel) ⟨Nat.le_of_ble_eq_true rfl, Nat.le_of_ble_eq_true rfl⟩) ⟨pz.blind, fun U hU _ => ⟨rfl, pz.at hU⟩⟩ rfl rfl hl.1 rfl (lv_room (Nat.le_of_ble_eq_true rfl)) dX0_numberParts_42 ⟨Nat.le_of_ble_eq_true rfl, Nat.le_of_ble_eq_true rfl⟩) hP hS (fun r3 _ H locs h hP hS => ?_)
      refine cl_v (va_runV (As := [.int v2, .int r3]) (rest := []) ⟨hx, hb, hml, hown, hts⟩ (ktX0_addToParts l dC dI q cI cJ cZ H.size pg ps nf np nq ns po pt rf rl bx xl xr yl yh ms wt pf nr sl cl hu uu pd ro rc v2 r3 h) (cwV 2 hts gX0_numberParts_X0_addToParts rfl rfl rfl (by decide +kernel) ⟨Nat.le_of_ble_eq_true rfl, Nat.le_of_ble_eq_true rfl⟩) ⟨wd.blind, va_recv hK hP (ci := 0) (q0 := 2) rfl rfl, fun U hU hW => ⟨rfl, wd.at hP hK ha hN hU hW⟩⟩ rfl rfl hl.1 rfl (lv_room (Nat.le_of_ble_eq_true rfl)) dX0_numberParts_45 ⟨Nat.le_of_ble_eq_true rfl, Nat.le_of_ble_eq_true rfl⟩) hS (fun u6 H locs h hP hS => ?_)
      have hP : va_P (dC, dI) vwCl (WC q cI cJ cZ pg ps nf u6.1 nq u6.2.1 po pt rf rl bx xl xr yl yh ms wt u6.2.2.1 u6.2.2.2.1 u6.2.2.2.2.1 u6.2.2.2.2.2 hu uu pd ro rc) H := hP
      obtain ⟨i7, ei7⟩ : ∃ y : Int32, y = v2 + 1 := ⟨_, rfl⟩
      refine lv_iinc (v := i7) (lv' := [(2, .int i7), (0, .ref (q 2)), (1, .int v1)]) hx hb dX0_numberParts_48 hl (k := 2) rfl (by rw [ei7]; rfl) (by decide) rfl (fun ls hl => ?_)
      have h := h i7 ei7
      refine lv_goto (tgt := 25) hx hb dX0_numberParts_51 (by decide) ?_
      exact ih u6.1 u6.2.1 u6.2.2.1 u6.2.2.2.1 u6.2.2.2.2.1 u6.2.2.2.2.2 v1 i7 ls H locs h (lv_sub hl [1, 2, 0] rfl) hP hS
def lpX0_numberParts_12 (ps : Int32) (bx : (Nat → Int32)) (ms : (Nat → Int32)) (wt : (Nat → Int32)) (K : (Int32 × Int32 × (Nat → Int32) × (Nat → Int64) × (Nat → Int32) × (Nat → Int32)) → Prop) (k60 : Int32 → Int32 → (Nat → Int32) → (Nat → Int64) → (Nat → Int32) → (Nat → Int32) → Prop) : Nat → Int32 → Int32 → (Nat → Int32) → (Nat → Int64) → (Nat → Int32) → (Nat → Int32) → Int32 → Prop
  | 0, _, _, _, _, _, _, _ => False
  | n + 1, np, ns, pf, nr, sl, cl, v1 => ((ps ≤ v1 → k60 np ns pf nr sl cl) ∧ (¬ (ps ≤ v1) → (∃ z25, lpX0_numberParts_25 ps bx ms wt K (fun (np : Int32) (ns : Int32) (pf : (Nat → Int32)) (nr : (Nat → Int64)) (sl : (Nat → Int32)) (cl : (Nat → Int32)) (v1 : Int32) => (∀ i9 : Int32, i9 = v1 + 1 → lpX0_numberParts_12 ps bx ms wt K k60 n np ns pf nr sl cl i9)) z25 np ns pf nr sl cl v1 0)))
set_option maxHeartbeats 4000000 in
set_option maxRecDepth 100000 in
theorem mX0_numberParts_12 {p : Program} {l : Launch} {e : Env} {s : State} {m : MethodId} {av : Array Value} {below : List Frame} {meth : Method} {c : Code} {dC : Nat → ClassId} {dI : Nat → Nat → Nat} {cI cJ cZ : ClassId} {q : Nat → Nat} {K : (Int32 × Int32 × (Nat → Int32) × (Nat → Int64) × (Nat → Int32) × (Nat → Int32)) → Prop} {k60 : Int32 → Int32 → (Nat → Int32) → (Nat → Int64) → (Nat → Int32) → (Nat → Int32) → Prop} (pg : Int32) (ps : Int32) (nf : Int32) (nq : Int32) (po : Int32) (pt : Int32) (rf : Int32) (rl : Int32) (bx : (Nat → Int32)) (xl : (Nat → Int32)) (xr : (Nat → Int32)) (yl : (Nat → Int32)) (yh : (Nat → Int32)) (ms : (Nat → Int32)) (wt : (Nat → Int32)) (hu : (Nat → Int32)) (uu : (Nat → Int32)) (pd : (Nat → Int64)) (ro : (Nat → Int32)) (rc : (Nat → Int64)) (C : CX p s m av meth c cX0_numberParts 3 none RX0 wsX0_numberParts) (hK : va_K (dC, dI) vwCl (TY cI cJ cZ) s) (ha : apart q 21) (hN : NX s) (hk60 : ∀ (np : Int32) (ns : Int32) (pf : (Nat → Int32)) (nr : (Nat → Int64)) (sl : (Nat → Int32)) (cl : (Nat → Int32)) (ls : Array Slot) (H : Heap) (locs : List Loc), k60 np ns pf nr sl cl → lv_has ls 3 [] → va_P (dC, dI) vwCl (WC q cI cJ cZ pg ps nf np nq ns po pt rf rl bx xl xr yl yh ms wt pf nr sl cl hu uu pd ro rc) H → va_S (AF q 21 s.heap.size) s.heap H locs → W p l e { frames := 2, cells := 0, slots := 0, locals := 43 } s m av below meth c H locs 0 0 (MQ below (QX0_numberParts dC dI cI cJ cZ q s.heap.size pg ps nf nq po pt rf rl bx xl xr yl yh ms wt hu uu pd ro rc K) av s 0 0 (AF q 21 s.heap.size)) (F0 m 60 ls [])) : ∀ (n : Nat) (np : Int32) (ns : Int32) (pf : (Nat → Int32)) (nr : (Nat → Int64)) (sl : (Nat → Int32)) (cl : (Nat → Int32)) (v1 : Int32) (ls : Array Slot) (H : Heap) (locs : List Loc), lpX0_numberParts_12 ps bx ms wt K k60 n np ns pf nr sl cl v1 → lv_has ls 3 [(0, .ref (q 2)), (1, .int v1)] → va_P (dC, dI) vwCl (WC q cI cJ cZ pg ps nf np nq ns po pt rf rl bx xl xr yl yh ms wt pf nr sl cl hu uu pd ro rc) H → va_S (AF q 21 s.heap.size) s.heap H locs → W p l e { frames := 2, cells := 0, slots := 0, locals := 43 } s m av below meth c H locs 0 0 (MQ below (QX0_numberParts dC dI cI cJ cZ q s.heap.size pg ps nf nq po pt rf rl bx xl xr yl yh ms wt hu uu pd ro rc K) av s 0 0 (AF q 21 s.heap.size)) (F0 m 12 ls []) := by
  obtain ⟨hx, hb, hr, hml, hown, hts, hlk⟩ := id C
  intro n
  induction n with
  | zero =>
    intro np ns pf nr sl cl v1 ls H locs h
    exact h.elim
  | succ n ih =>
    intro np ns pf nr sl cl v1 ls H locs h hl hP hS
    rw [lpX0_numberParts_12.eq_2] at h
    refine lv_iload_n hx hb dX0_numberParts_12 rfl (lv_at hl 1 rfl) ?_
    refine lv_aload_n hx hb dX0_numberParts_13 rfl (lv_at hl 0 rfl) ?_
    refine va_get (D := (dC, dI)) (ci := 0) (v := .ref (q 1)) (C := RX0) (T := TX0) (N := 9) hx hb hts iwX0_numberParts_X0 hown hK hP 2 rfl rfl 0 (by decide) (hts _ fwX0_numberParts_40) (fun _ h9 => h9) rfl dX0_numberParts_14 ?_
    refine va_get (D := (dC, dI)) (ci := 2) (v := .int ps) (C := RX2) (T := TX2) (N := 9) hx hb hts iwX0_numberParts_X2 hown hK hP 1 rfl rfl 1 (by decide) (hts _ fwX0_numberParts_50) (fun _ h9 => h9) rfl dX0_numberParts_17 ?_
    refine lv_icmp_ge (tgt := 60) hx hb dX0_numberParts_20 (by decide) (fun c8 => ?_) (fun c8 => ?_)
    · have h := h.1 c8
      exact hk60 np ns pf nr sl cl ls H locs h (lv_sub hl [] rfl) hP hS
    · have h := h.2 c8
      refine lv_iconst (v := 0) hx hb dX0_numberParts_23 (by decide) ?_
      refine lv_istore_n (lv' := [(2, .int 0), (0, .ref (q 2)), (1, .int v1)]) hx hb dX0_numberParts_24 rfl hl (by decide) rfl (fun ls hl => ?_)
      obtain ⟨n9, h⟩ := h
      exact mX0_numberParts_25 pg ps nf nq po pt rf rl bx xl xr yl yh ms wt hu uu pd ro rc C hK ha hN (fun np ns pf nr sl cl v1 ls H locs h hl hP hS => by
          obtain ⟨i9, ei9⟩ : ∃ y : Int32, y = v1 + 1 := ⟨_, rfl⟩
          refine lv_iinc (v := i9) (lv' := [(1, .int i9), (0, .ref (q 2))]) hx hb dX0_numberParts_54 hl (k := 1) rfl (by rw [ei9]; rfl) (by decide) rfl (fun ls hl => ?_)
          have h := h i9 ei9
          refine lv_goto (tgt := 12) hx hb dX0_numberParts_57 (by decide) ?_
          exact ih np ns pf nr sl cl i9 ls H locs h (lv_sub hl [1, 0] rfl) hP hS) n9 np ns pf nr sl cl v1 0 ls H locs h (lv_sub hl [1, 2, 0] rfl) hP hS
def wX0_numberParts (ps : Int32) (bx : (Nat → Int32)) (ms : (Nat → Int32)) (wt : (Nat → Int32)) (np : Int32) (ns : Int32) (pf : (Nat → Int32)) (nr : (Nat → Int64)) (sl : (Nat → Int32)) (cl : (Nat → Int32))  (K : (Int32 × Int32 × (Nat → Int32) × (Nat → Int64) × (Nat → Int32) × (Nat → Int32)) → Prop) : Prop := (∃ z12, lpX0_numberParts_12 ps bx ms wt K (fun (np : Int32) (ns : Int32) (pf : (Nat → Int32)) (nr : (Nat → Int64)) (sl : (Nat → Int32)) (cl : (Nat → Int32)) => K (np, ns, pf, nr, sl, cl)) z12 0 0 pf nr sl cl 0)
set_option maxHeartbeats 4000000 in
set_option maxRecDepth 100000 in
theorem ktX0_numberParts (l : Launch) (dC : Nat → ClassId) (dI : Nat → Nat → Nat) (q : Nat → Nat) (cI cJ cZ : ClassId) (sz : Nat) (pg : Int32) (ps : Int32) (nf : Int32) (np : Int32) (nq : Int32) (ns : Int32) (po : Int32) (pt : Int32) (rf : Int32) (rl : Int32) (bx : (Nat → Int32)) (xl : (Nat → Int32)) (xr : (Nat → Int32)) (yl : (Nat → Int32)) (yh : (Nat → Int32)) (ms : (Nat → Int32)) (wt : (Nat → Int32)) (pf : (Nat → Int32)) (nr : (Nat → Int64)) (sl : (Nat → Int32)) (cl : (Nat → Int32)) (hu : (Nat → Int32)) (uu : (Nat → Int32)) (pd : (Nat → Int64)) (ro : (Nat → Int32)) (rc : (Nat → Int64))  {K : (Int32 × Int32 × (Nat → Int32) × (Nat → Int64) × (Nat → Int32) × (Nat → Int32)) → Prop} (h : wX0_numberParts ps bx ms wt np ns pf nr sl cl K) : Met l yX0_numberParts wsX0_numberParts { frames := 2, cells := 0, slots := 0, locals := 43 } (va_Pc [.ref (q 2)] (wd dC dI cI cJ cZ q 21 sz (WC q cI cJ cZ pg ps nf np nq ns po pt rf rl bx xl xr yl yh ms wt pf nr sl cl hu uu pd ro rc))) (QX0_numberParts dC dI cI cJ cZ q sz pg ps nf nq po pt rf rl bx xl xr yl yh ms wt hu uu pd ro rc K) 0 0 (AF q 21 sz) := by
  refine met_of [.ref (q 2)] (by decide +kernel) rfl (Nat.le_of_ble_eq_true rfl) ?_
  intro p e s m below meth c ls hsz C hK ha hN hl hP
  subst hsz
  obtain ⟨hx, hb, hr, hml, hown, hts, hlk⟩ := id C
  have hl : lv_has ls 3 [(0, .ref (q 2))] := hl
  refine w_go (Pw := fun H => va_P (dC, dI) vwCl (WC q cI cJ cZ pg ps nf np nq ns po pt rf rl bx xl xr yl yh ms wt pf nr sl cl hu uu pd ro rc) H) (A := AF q 21 s.heap.size) (fun H locs hP hS => ?_) hP
  unfold wX0_numberParts at h
  refine lv_aload_n hx hb dX0_numberParts_0 rfl (lv_at hl 0 rfl) ?_
  refine lv_iconst (v := 0) hx hb dX0_numberParts_1 (by decide) ?_
  refine va_put (D := (dC, dI)) (ci := 0) (v := .int 0) (ty := .int) (C := RX0) (T := TX0) (N := 9) hx hb hts iwX0_numberParts_X0 tyX0 tyX0_ok nmX0 hown hK hP (d_WC ha) hS 2 rfl rfl 2 (by decide) (hts _ fwX0_numberParts_15) (fun _ h9 => h9) rfl (by decide +kernel) rfl rfl (Nat.le_of_ble_eq_true rfl) dX0_numberParts_2 (fun H locs hP _ hS => ?_)
  have hP : va_P (dC, dI) vwCl (WC q cI cJ cZ pg ps nf 0 nq ns po pt rf rl bx xl xr yl yh ms wt pf nr sl cl hu uu pd ro rc) H := hP
  refine lv_aload_n hx hb dX0_numberParts_5 rfl (lv_at hl 0 rfl) ?_
  refine lv_iconst (v := 0) hx hb dX0_numberParts_6 (by decide) ?_
  refine va_put (D := (dC, dI)) (ci := 0) (v := .int 0) (ty := .int) (C := RX0) (T := TX0) (N := 9) hx hb hts iwX0_numberParts_X0 tyX0 tyX0_ok nmX0 hown hK hP (d_WC ha) hS 2 rfl rfl 4 (by decide) (hts _ fwX0_numberParts_22) (fun _ h9 => h9) rfl (by decide +kernel) rfl rfl (Nat.le_of_ble_eq_true rfl) dX0_numberParts_7 (fun H locs hP _ hS => ?_)
  have hP : va_P (dC, dI) vwCl (WC q cI cJ cZ pg ps nf 0 nq 0 po pt rf rl bx xl xr yl yh ms wt pf nr sl cl hu uu pd ro rc) H := hP
  refine lv_iconst (v := 0) hx hb dX0_numberParts_10 (by decide) ?_
  refine lv_istore_n (lv' := [(1, .int 0), (0, .ref (q 2))]) hx hb dX0_numberParts_11 rfl hl (by decide) rfl (fun ls hl => ?_)
  obtain ⟨n9, h⟩ := h
  exact mX0_numberParts_12 pg ps nf nq po pt rf rl bx xl xr yl yh ms wt hu uu pd ro rc C hK ha hN (fun np ns pf nr sl cl ls H locs h hl hP hS => by
      exact rt_v (np, ns, pf, nr, sl, cl) hx hb hr hlk h (fun t ht => by rw [ht]; exact hP) hS dX0_numberParts_60) n9 0 0 pf nr sl cl 0 ls H locs h (lv_sub hl [1, 0] rfl) hP hS

theorem fwX0_refresh_9 : Cond.fieldLink RX0 9 "MaskParts$Net" "fresh" "Z" ∈ wsX0_refresh := by decide +kernel
set_option maxRecDepth 20000 in
theorem iwX0_refresh_X0 : ∀ w ∈ wsX00, w ∈ wsX0_refresh := by decide +kernel
abbrev QX0_refresh (dC : Nat → ClassId) (dI : Nat → Nat → Nat) (cI cJ cZ : ClassId) (q : Nat → Nat) (sz : Nat) (pg : Int32) (ps : Int32) (po : Int32) (pt : Int32) (rf : Int32) (rl : Int32) (bx : (Nat → Int32)) (xl : (Nat → Int32)) (xr : (Nat → Int32)) (yl : (Nat → Int32)) (yh : (Nat → Int32)) (ms : (Nat → Int32)) (wt : (Nat → Int32)) (hu : (Nat → Int32)) (uu : (Nat → Int32)) (pd : (Nat → Int64)) (ro : (Nat → Int32)) (rc : (Nat → Int64)) (K : (Int32 × Int32 × Int32 × Int32 × (Nat → Int32) × (Nat → Int64) × (Nat → Int32) × (Nat → Int32)) → Prop) : Array Value → State → Outcome → State → Prop := va_Qv (fun (u : Int32 × Int32 × Int32 × Int32 × (Nat → Int32) × (Nat → Int64) × (Nat → Int32) × (Nat → Int32)) => K u) (fun (u : Int32 × Int32 × Int32 × Int32 × (Nat → Int32) × (Nat → Int64) × (Nat → Int32) × (Nat → Int32)) t => va_P (dC, dI) vwCl (WC q cI cJ cZ pg ps u.1 u.2.1 u.2.2.1 u.2.2.2.1 po pt rf rl bx xl xr yl yh ms wt u.2.2.2.2.1 u.2.2.2.2.2.1 u.2.2.2.2.2.2.1 u.2.2.2.2.2.2.2 hu uu pd ro rc) t.heap) (AF q 21 sz)
def wX0_refresh (pg : Int32) (ps : Int32) (bx : (Nat → Int32)) (xl : (Nat → Int32)) (xr : (Nat → Int32)) (yl : (Nat → Int32)) (yh : (Nat → Int32)) (ms : (Nat → Int32)) (wt : (Nat → Int32)) (nf : Int32) (np : Int32) (nq : Int32) (ns : Int32) (pf : (Nat → Int32)) (nr : (Nat → Int64)) (sl : (Nat → Int32)) (cl : (Nat → Int32))  (K : (Int32 × Int32 × Int32 × Int32 × (Nat → Int32) × (Nat → Int64) × (Nat → Int32) × (Nat → Int32)) → Prop) : Prop := ((¬ nf = 0 → K (nf, np, nq, ns, pf, nr, sl, cl)) ∧ (nf = 0 → (wX0_numberParts ps bx ms wt np ns pf nr sl cl  (fun (u3 : Int32 × Int32 × (Nat → Int32) × (Nat → Int64) × (Nat → Int32) × (Nat → Int32)) => (wX0_findNear pg ps bx xl xr yl yh u3.2.2.1 nq u3.2.2.2.1  (fun (u5 : Int32 × (Nat → Int64)) => K (1, u3.1, u5.1, u3.2.1, u3.2.2.1, u5.2, u3.2.2.2.2.1, u3.2.2.2.2.2)))))))
set_option maxHeartbeats 4000000 in
set_option maxRecDepth 100000 in
theorem ktX0_refresh (l : Launch) (dC : Nat → ClassId) (dI : Nat → Nat → Nat) (q : Nat → Nat) (cI cJ cZ : ClassId) (sz : Nat) (pg : Int32) (ps : Int32) (nf : Int32) (np : Int32) (nq : Int32) (ns : Int32) (po : Int32) (pt : Int32) (rf : Int32) (rl : Int32) (bx : (Nat → Int32)) (xl : (Nat → Int32)) (xr : (Nat → Int32)) (yl : (Nat → Int32)) (yh : (Nat → Int32)) (ms : (Nat → Int32)) (wt : (Nat → Int32)) (pf : (Nat → Int32)) (nr : (Nat → Int64)) (sl : (Nat → Int32)) (cl : (Nat → Int32)) (hu : (Nat → Int32)) (uu : (Nat → Int32)) (pd : (Nat → Int64)) (ro : (Nat → Int32)) (rc : (Nat → Int64))  {K : (Int32 × Int32 × Int32 × Int32 × (Nat → Int32) × (Nat → Int64) × (Nat → Int32) × (Nat → Int32)) → Prop} (h : wX0_refresh pg ps bx xl xr yl yh ms wt nf np nq ns pf nr sl cl K) : Met l yX0_refresh wsX0_refresh { frames := 5, cells := 0, slots := 0, locals := 121 } (va_Pc [.ref (q 2)] (wd dC dI cI cJ cZ q 21 sz (WC q cI cJ cZ pg ps nf np nq ns po pt rf rl bx xl xr yl yh ms wt pf nr sl cl hu uu pd ro rc))) (QX0_refresh dC dI cI cJ cZ q sz pg ps po pt rf rl bx xl xr yl yh ms wt hu uu pd ro rc K) 0 0 (AF q 21 sz) := by
  refine met_of [.ref (q 2)] (by decide +kernel) rfl (Nat.le_of_ble_eq_true rfl) ?_
  intro p e s m below meth c ls hsz C hK ha hN hl hP
  subst hsz
  obtain ⟨hx, hb, hr, hml, hown, hts, hlk⟩ := id C
  have hl : lv_has ls 1 [(0, .ref (q 2))] := hl
  refine w_go (Pw := fun H => va_P (dC, dI) vwCl (WC q cI cJ cZ pg ps nf np nq ns po pt rf rl bx xl xr yl yh ms wt pf nr sl cl hu uu pd ro rc) H) (A := AF q 21 s.heap.size) (fun H locs hP hS => ?_) hP
  unfold wX0_refresh at h
  refine lv_aload_n hx hb dX0_refresh_0 rfl (lv_at hl 0 rfl) ?_
  refine va_get (D := (dC, dI)) (ci := 0) (v := .int nf) (C := RX0) (T := TX0) (N := 9) hx hb hts iwX0_refresh_X0 hown hK hP 2 rfl rfl 1 (by decide) (hts _ fwX0_refresh_9) (fun _ h9 => h9) rfl dX0_refresh_1 ?_
  refine lv_if_ne (tgt := 20) hx hb dX0_refresh_4 (by decide) (fun c1 => ?_) (fun c1 => ?_)
  · have h := h.1 c1
    exact rt_v (nf, np, nq, ns, pf, nr, sl, cl) hx hb hr hlk h (fun t ht => by rw [ht]; exact hP) hS dX0_refresh_20
  · have h := h.2 c1
    refine lv_aload_n hx hb dX0_refresh_7 rfl (lv_at hl 0 rfl) ?_
    refine cl_v (va_runV (As := []) (rest := []) ⟨hx, hb, hml, hown, hts⟩ (ktX0_numberParts l dC dI q cI cJ cZ H.size pg ps nf np nq ns po pt rf rl bx xl xr yl yh ms wt pf nr sl cl hu uu pd ro rc  h) (cwV 0 hts gX0_refresh_X0_numberParts rfl rfl rfl (by decide +kernel) ⟨Nat.le_of_ble_eq_true rfl, Nat.le_of_ble_eq_true rfl⟩) ⟨wd.blind, va_recv hK hP (ci := 0) (q0 := 2) rfl rfl, fun U hU hW => ⟨rfl, wd.at hP hK ha hN hU hW⟩⟩ rfl rfl hl.1 rfl (lv_room (Nat.le_of_ble_eq_true rfl)) dX0_refresh_8 ⟨Nat.le_of_ble_eq_true rfl, Nat.le_of_ble_eq_true rfl⟩) hS (fun u3 H locs h hP hS => ?_)
    have hP : va_P (dC, dI) vwCl (WC q cI cJ cZ pg ps nf u3.1 nq u3.2.1 po pt rf rl bx xl xr yl yh ms wt u3.2.2.1 u3.2.2.2.1 u3.2.2.2.2.1 u3.2.2.2.2.2 hu uu pd ro rc) H := hP
    refine lv_aload_n hx hb dX0_refresh_11 rfl (lv_at hl 0 rfl) ?_
    refine cl_v (va_runV (As := []) (rest := []) ⟨hx, hb, hml, hown, hts⟩ (ktX0_findNear l dC dI q cI cJ cZ H.size pg ps nf u3.1 nq u3.2.1 po pt rf rl bx xl xr yl yh ms wt u3.2.2.1 u3.2.2.2.1 u3.2.2.2.2.1 u3.2.2.2.2.2 hu uu pd ro rc  h) (cwV 0 hts gX0_refresh_X0_findNear rfl rfl rfl (by decide +kernel) ⟨Nat.le_of_ble_eq_true rfl, Nat.le_of_ble_eq_true rfl⟩) ⟨wd.blind, va_recv hK hP (ci := 0) (q0 := 2) rfl rfl, fun U hU hW => ⟨rfl, wd.at hP hK ha hN hU hW⟩⟩ rfl rfl hl.1 rfl (lv_room (Nat.le_of_ble_eq_true rfl)) dX0_refresh_12 ⟨Nat.le_of_ble_eq_true rfl, Nat.le_of_ble_eq_true rfl⟩) hS (fun u5 H locs h hP hS => ?_)
    have hP : va_P (dC, dI) vwCl (WC q cI cJ cZ pg ps nf u3.1 u5.1 u3.2.1 po pt rf rl bx xl xr yl yh ms wt u3.2.2.1 u5.2 u3.2.2.2.2.1 u3.2.2.2.2.2 hu uu pd ro rc) H := hP
    refine lv_aload_n hx hb dX0_refresh_15 rfl (lv_at hl 0 rfl) ?_
    refine lv_iconst (v := 1) hx hb dX0_refresh_16 (by decide) ?_
    refine va_put (D := (dC, dI)) (ci := 0) (v := .int 1) (ty := .boolean) (C := RX0) (T := TX0) (N := 9) hx hb hts iwX0_refresh_X0 tyX0 tyX0_ok nmX0 hown hK hP (d_WC ha) hS 2 rfl rfl 1 (by decide) (hts _ fwX0_refresh_9) (fun _ h9 => h9) rfl (by decide +kernel) rfl rfl (Nat.le_of_ble_eq_true rfl) dX0_refresh_17 (fun H locs hP _ hS => ?_)
    have hP : va_P (dC, dI) vwCl (WC q cI cJ cZ pg ps 1 u3.1 u5.1 u3.2.1 po pt rf rl bx xl xr yl yh ms wt u3.2.2.1 u5.2 u3.2.2.2.2.1 u3.2.2.2.2.2 hu uu pd ro rc) H := hP
    exact rt_v (1, u3.1, u5.1, u3.2.1, u3.2.2.1, u5.2, u3.2.2.2.2.1, u3.2.2.2.2.2) hx hb hr hlk h (fun t ht => by rw [ht]; exact hP) hS dX0_refresh_20

theorem fwX0_partOfPair_15 : Cond.fieldLink RX0 15 "MaskParts$Net" "parts" "I" ∈ wsX0_partOfPair := by decide +kernel
set_option maxRecDepth 20000 in
theorem iwX0_partOfPair_X0 : ∀ w ∈ wsX00, w ∈ wsX0_partOfPair := by decide +kernel
abbrev QX0_partOfPair (dC : Nat → ClassId) (dI : Nat → Nat → Nat) (cI cJ cZ : ClassId) (q : Nat → Nat) (sz : Nat) (pg : Int32) (ps : Int32) (nf : Int32) (np : Int32) (nq : Int32) (ns : Int32) (po : Int32) (pt : Int32) (rf : Int32) (rl : Int32) (bx : (Nat → Int32)) (xl : (Nat → Int32)) (xr : (Nat → Int32)) (yl : (Nat → Int32)) (yh : (Nat → Int32)) (ms : (Nat → Int32)) (wt : (Nat → Int32)) (pf : (Nat → Int32)) (nr : (Nat → Int64)) (sl : (Nat → Int32)) (cl : (Nat → Int32)) (hu : (Nat → Int32)) (uu : (Nat → Int32)) (pd : (Nat → Int64)) (ro : (Nat → Int32)) (rc : (Nat → Int64)) (K : Int32 → Prop) : Array Value → State → Outcome → State → Prop := va_Qi (fun (r : Int32) (u : Unit) => K r) (fun (u : Unit) t => va_P (dC, dI) vwCl (WC q cI cJ cZ pg ps nf np nq ns po pt rf rl bx xl xr yl yh ms wt pf nr sl cl hu uu pd ro rc) t.heap) (AF q 21 sz)
def bkX0_partOfPair_59 (np : Int32) (nr : (Nat → Int64)) (K : Int32 → Prop) (k20 : Int32 → Int32 → Int32 → Int32 → Prop) (v2 : Int32) (v3 : Int32) (v4 : Int32) (v5 : Int32) : Prop := (∀ i1 : Int32, i1 = v5 + 1 → k20 v2 v3 v4 i1)
set_option maxHeartbeats 4000000 in
set_option maxRecDepth 100000 in
theorem mX0_partOfPair_59 {p : Program} {l : Launch} {e : Env} {s : State} {m : MethodId} {av : Array Value} {below : List Frame} {meth : Method} {c : Code} {dC : Nat → ClassId} {dI : Nat → Nat → Nat} {cI cJ cZ : ClassId} {q : Nat → Nat} {K : Int32 → Prop} {k20 : Int32 → Int32 → Int32 → Int32 → Prop} (pg : Int32) (ps : Int32) (nf : Int32) (np : Int32) (nq : Int32) (ns : Int32) (po : Int32) (pt : Int32) (rf : Int32) (rl : Int32) (bx : (Nat → Int32)) (xl : (Nat → Int32)) (xr : (Nat → Int32)) (yl : (Nat → Int32)) (yh : (Nat → Int32)) (ms : (Nat → Int32)) (wt : (Nat → Int32)) (pf : (Nat → Int32)) (nr : (Nat → Int64)) (sl : (Nat → Int32)) (cl : (Nat → Int32)) (hu : (Nat → Int32)) (uu : (Nat → Int32)) (pd : (Nat → Int64)) (ro : (Nat → Int32)) (rc : (Nat → Int64)) (C : CX p s m av meth c cX0_partOfPair 6 (some .int) RX0 wsX0_partOfPair) (hK : va_K (dC, dI) vwCl (TY cI cJ cZ) s) (ha : apart q 21) (hN : NX s) (hk20 : ∀ (v2 : Int32) (v3 : Int32) (v4 : Int32) (v5 : Int32) (ls : Array Slot) (H : Heap) (locs : List Loc), k20 v2 v3 v4 v5 → lv_has ls 6 [(0, .ref (q 2)), (2, .int v2), (3, .int v3), (4, .int v4), (5, .int v5)] → va_P (dC, dI) vwCl (WC q cI cJ cZ pg ps nf np nq ns po pt rf rl bx xl xr yl yh ms wt pf nr sl cl hu uu pd ro rc) H → va_S (AF q 21 s.heap.size) s.heap H locs → W p l e { frames := 2, cells := 0, slots := 0, locals := 42 } s m av below meth c H locs 0 0 (MQ below (QX0_partOfPair dC dI cI cJ cZ q s.heap.size pg ps nf np nq ns po pt rf rl bx xl xr yl yh ms wt pf nr sl cl hu uu pd ro rc K) av s 0 0 (AF q 21 s.heap.size)) (F0 m 20 ls [])) : ∀ (v2 : Int32) (v3 : Int32) (v4 : Int32) (v5 : Int32) (ls : Array Slot) (H : Heap) (locs : List Loc), bkX0_partOfPair_59 np nr K k20 v2 v3 v4 v5 → lv_has ls 6 [(0, .ref (q 2)), (2, .int v2), (3, .int v3), (4, .int v4), (5, .int v5)] → va_P (dC, dI) vwCl (WC q cI cJ cZ pg ps nf np nq ns po pt rf rl bx xl xr yl yh ms wt pf nr sl cl hu uu pd ro rc) H → va_S (AF q 21 s.heap.size) s.heap H locs → W p l e { frames := 2, cells := 0, slots := 0, locals := 42 } s m av below meth c H locs 0 0 (MQ below (QX0_partOfPair dC dI cI cJ cZ q s.heap.size pg ps nf np nq ns po pt rf rl bx xl xr yl yh ms wt pf nr sl cl hu uu pd ro rc K) av s 0 0 (AF q 21 s.heap.size)) (F0 m 59 ls []) := by
  obtain ⟨hx, hb, hr, hml, hown, hts, hlk⟩ := id C
  intro v2 v3 v4 v5 ls H locs h hl hP hS
  unfold bkX0_partOfPair_59 at h
  obtain ⟨i1, ei1⟩ : ∃ y : Int32, y = v5 + 1 := ⟨_, rfl⟩
  refine lv_iinc (v := i1) (lv' := [(5, .int i1), (0, .ref (q 2)), (2, .int v2), (3, .int v3), (4, .int v4)]) hx hb dX0_partOfPair_59 hl (k := 4) rfl (by rw [ei1]; rfl) (by decide) rfl (fun ls hl => ?_)
  have h := h i1 ei1
  refine lv_goto (tgt := 20) hx hb dX0_partOfPair_62 (by decide) ?_
  exact hk20 v2 v3 v4 i1 ls H locs h (lv_sub hl [1, 2, 3, 4, 0] rfl) hP hS
def lpX0_partOfPair_20 (np : Int32) (nr : (Nat → Int64)) (K : Int32 → Prop) (k44 : Int32 → Int32 → Int32 → Prop) (k65 : Int32 → Int32 → Int32 → Prop) : Nat → Int32 → Int32 → Int32 → Int32 → Prop
  | 0, _, _, _, _ => False
  | n + 1, v2, v3, v4, v5 => ((np ≤ v5 → k65 v2 v3 v4) ∧ (¬ (np ≤ v5) → (wX0_areNear nr v4 v5 (fun (r3 : Int32) => ((r3 = 0 → bkX0_partOfPair_59 np nr K (fun v2 v3 v4 v5 => lpX0_partOfPair_20 np nr K k44 k65 n v2 v3 v4 v5) v2 v3 v4 v5) ∧ (¬ (r3 = 0) → ((¬ v3 = 0 → (∀ i7 : Int32, i7 = v3 + (-1) → bkX0_partOfPair_59 np nr K (fun v2 v3 v4 v5 => lpX0_partOfPair_20 np nr K k44 k65 n v2 v3 v4 v5) v2 i7 v4 v5)) ∧ (v3 = 0 → k44 v2 v4 v5))))))))
set_option maxHeartbeats 4000000 in
set_option maxRecDepth 100000 in
theorem mX0_partOfPair_20 {p : Program} {l : Launch} {e : Env} {s : State} {m : MethodId} {av : Array Value} {below : List Frame} {meth : Method} {c : Code} {dC : Nat → ClassId} {dI : Nat → Nat → Nat} {cI cJ cZ : ClassId} {q : Nat → Nat} {K : Int32 → Prop} {k44 : Int32 → Int32 → Int32 → Prop} {k65 : Int32 → Int32 → Int32 → Prop} (pg : Int32) (ps : Int32) (nf : Int32) (np : Int32) (nq : Int32) (ns : Int32) (po : Int32) (pt : Int32) (rf : Int32) (rl : Int32) (bx : (Nat → Int32)) (xl : (Nat → Int32)) (xr : (Nat → Int32)) (yl : (Nat → Int32)) (yh : (Nat → Int32)) (ms : (Nat → Int32)) (wt : (Nat → Int32)) (pf : (Nat → Int32)) (nr : (Nat → Int64)) (sl : (Nat → Int32)) (cl : (Nat → Int32)) (hu : (Nat → Int32)) (uu : (Nat → Int32)) (pd : (Nat → Int64)) (ro : (Nat → Int32)) (rc : (Nat → Int64)) (C : CX p s m av meth c cX0_partOfPair 6 (some .int) RX0 wsX0_partOfPair) (hK : va_K (dC, dI) vwCl (TY cI cJ cZ) s) (ha : apart q 21) (hN : NX s) (hk44 : ∀ (v2 : Int32) (v4 : Int32) (v5 : Int32) (ls : Array Slot) (H : Heap) (locs : List Loc), k44 v2 v4 v5 → lv_has ls 6 [(2, .int v2), (4, .int v4), (5, .int v5)] → va_P (dC, dI) vwCl (WC q cI cJ cZ pg ps nf np nq ns po pt rf rl bx xl xr yl yh ms wt pf nr sl cl hu uu pd ro rc) H → va_S (AF q 21 s.heap.size) s.heap H locs → W p l e { frames := 2, cells := 0, slots := 0, locals := 42 } s m av below meth c H locs 0 0 (MQ below (QX0_partOfPair dC dI cI cJ cZ q s.heap.size pg ps nf np nq ns po pt rf rl bx xl xr yl yh ms wt pf nr sl cl hu uu pd ro rc K) av s 0 0 (AF q 21 s.heap.size)) (F0 m 44 ls [])) (hk65 : ∀ (v2 : Int32) (v3 : Int32) (v4 : Int32) (ls : Array Slot) (H : Heap) (locs : List Loc), k65 v2 v3 v4 → lv_has ls 6 [(0, .ref (q 2)), (2, .int v2), (3, .int v3), (4, .int v4)] → va_P (dC, dI) vwCl (WC q cI cJ cZ pg ps nf np nq ns po pt rf rl bx xl xr yl yh ms wt pf nr sl cl hu uu pd ro rc) H → va_S (AF q 21 s.heap.size) s.heap H locs → W p l e { frames := 2, cells := 0, slots := 0, locals := 42 } s m av below meth c H locs 0 0 (MQ below (QX0_partOfPair dC dI cI cJ cZ q s.heap.size pg ps nf np nq ns po pt rf rl bx xl xr yl yh ms wt pf nr sl cl hu uu pd ro rc K) av s 0 0 (AF q 21 s.heap.size)) (F0 m 65 ls [])) : ∀ (n : Nat) (v2 : Int32) (v3 : Int32) (v4 : Int32) (v5 : Int32) (ls : Array Slot) (H : Heap) (locs : List Loc), lpX0_partOfPair_20 np nr K k44 k65 n v2 v3 v4 v5 → lv_has ls 6 [(0, .ref (q 2)), (2, .int v2), (3, .int v3), (4, .int v4), (5, .int v5)] → va_P (dC, dI) vwCl (WC q cI cJ cZ pg ps nf np nq ns po pt rf rl bx xl xr yl yh ms wt pf nr sl cl hu uu pd ro rc) H → va_S (AF q 21 s.heap.size) s.heap H locs → W p l e { frames := 2, cells := 0, slots := 0, locals := 42 } s m av below meth c H locs 0 0 (MQ below (QX0_partOfPair dC dI cI cJ cZ q s.heap.size pg ps nf np nq ns po pt rf rl bx xl xr yl yh ms wt pf nr sl cl hu uu pd ro rc K) av s 0 0 (AF q 21 s.heap.size)) (F0 m 20 ls []) := by
  obtain ⟨hx, hb, hr, hml, hown, hts, hlk⟩ := id C
  intro n
  induction n with
  | zero =>
    intro v2 v3 v4 v5 ls H locs h
    exact h.elim
  | succ n ih =>
    intro v2 v3 v4 v5 ls H locs h hl hP hS
    rw [lpX0_partOfPair_20.eq_2] at h
    refine lv_iload hx hb dX0_partOfPair_20 (lv_at hl 4 rfl) ?_
    refine lv_aload_n hx hb dX0_partOfPair_22 rfl (lv_at hl 0 rfl) ?_
    refine va_get (D := (dC, dI)) (ci := 0) (v := .int np) (C := RX0) (T := TX0) (N := 9) hx hb hts iwX0_partOfPair_X0 hown hK hP 2 rfl rfl 2 (by decide) (hts _ fwX0_partOfPair_15) (fun _ h9 => h9) rfl dX0_partOfPair_23 ?_
    refine lv_icmp_ge (tgt := 65) hx hb dX0_partOfPair_26 (by decide) (fun c2 => ?_) (fun c2 => ?_)
    · have h := h.1 c2
      exact hk65 v2 v3 v4 ls H locs h (lv_sub hl [0, 1, 2, 3] rfl) hP hS
    · have h := h.2 c2
      refine lv_aload_n hx hb dX0_partOfPair_29 rfl (lv_at hl 0 rfl) ?_
      refine lv_iload hx hb dX0_partOfPair_30 (lv_at hl 3 rfl) ?_
      refine lv_iload hx hb dX0_partOfPair_32 (lv_at hl 4 rfl) ?_
      refine cl_i (va_runV (As := [.int v4, .int v5]) (rest := []) ⟨hx, hb, hml, hown, hts⟩ (ktX0_areNear l dC dI q cI cJ cZ H.size pg ps nf np nq ns po pt rf rl bx xl xr yl yh ms wt pf nr sl cl hu uu pd ro rc v4 v5 h) (cwV 2 hts gX0_partOfPair_X0_areNear rfl rfl rfl (by decide +kernel) ⟨Nat.le_of_ble_eq_true rfl, Nat.le_of_ble_eq_true rfl⟩) ⟨wd.blind, va_recv hK hP (ci := 0) (q0 := 2) rfl rfl, fun U hU hW => ⟨rfl, wd.at hP hK ha hN hU hW⟩⟩ rfl rfl hl.1 rfl (lv_room (Nat.le_of_ble_eq_true rfl)) dX0_partOfPair_34 ⟨Nat.le_of_ble_eq_true rfl, Nat.le_of_ble_eq_true rfl⟩) hS (fun r3 _ H locs h hP hS => ?_)
      have hP : va_P (dC, dI) vwCl (WC q cI cJ cZ pg ps nf np nq ns po pt rf rl bx xl xr yl yh ms wt pf nr sl cl hu uu pd ro rc) H := hP
      refine lv_if_eq (tgt := 59) hx hb dX0_partOfPair_37 (by decide) (fun c5 => ?_) (fun c5 => ?_)
      · have h := h.1 c5
        exact mX0_partOfPair_59 pg ps nf np nq ns po pt rf rl bx xl xr yl yh ms wt pf nr sl cl hu uu pd ro rc C hK ha hN (fun v2 v3 v4 v5 ls H locs h hl hP hS => ih v2 v3 v4 v5 ls H locs h hl hP hS) v2 v3 v4 v5 ls H locs h (lv_sub hl [0, 1, 2, 3, 4] rfl) hP hS
      · have h := h.2 c5
        refine lv_iload_n hx hb dX0_partOfPair_40 rfl (lv_at hl 2 rfl) ?_
        refine lv_if_ne (tgt := 56) hx hb dX0_partOfPair_41 (by decide) (fun c6 => ?_) (fun c6 => ?_)
        · have h := h.1 c6
          obtain ⟨i7, ei7⟩ : ∃ y : Int32, y = v3 + (-1) := ⟨_, rfl⟩
          refine lv_iinc (v := i7) (lv' := [(3, .int i7), (0, .ref (q 2)), (2, .int v2), (4, .int v4), (5, .int v5)]) hx hb dX0_partOfPair_56 hl (k := 2) rfl (by rw [ei7]; rfl) (by decide) rfl (fun ls hl => ?_)
          have h := h i7 ei7
          exact mX0_partOfPair_59 pg ps nf np nq ns po pt rf rl bx xl xr yl yh ms wt pf nr sl cl hu uu pd ro rc C hK ha hN (fun v2 v3 v4 v5 ls H locs h hl hP hS => ih v2 v3 v4 v5 ls H locs h hl hP hS) v2 i7 v4 v5 ls H locs h (lv_sub hl [1, 2, 0, 3, 4] rfl) hP hS
        · have h := h.2 c6
          exact hk44 v2 v4 v5 ls H locs h (lv_sub hl [1, 3, 4] rfl) hP hS
def lpX0_partOfPair_5 (np : Int32) (nr : (Nat → Int64)) (K : Int32 → Prop) (k44 : Int32 → Int32 → Int32 → Prop) (k71 : Prop) : Nat → Int32 → Int32 → Int32 → Prop
  | 0, _, _, _ => False
  | n + 1, v2, v3, v4 => ((np ≤ v4 → k71) ∧ (¬ (np ≤ v4) → (∀ i9 : Int32, i9 = (v4 + 1) → (∃ z20, lpX0_partOfPair_20 np nr K k44 (fun (v2 : Int32) (v3 : Int32) (v4 : Int32) => (∀ i10 : Int32, i10 = v4 + 1 → lpX0_partOfPair_5 np nr K k44 k71 n v2 v3 i10)) z20 v2 v3 v4 i9))))
set_option maxHeartbeats 4000000 in
set_option maxRecDepth 100000 in
theorem mX0_partOfPair_5 {p : Program} {l : Launch} {e : Env} {s : State} {m : MethodId} {av : Array Value} {below : List Frame} {meth : Method} {c : Code} {dC : Nat → ClassId} {dI : Nat → Nat → Nat} {cI cJ cZ : ClassId} {q : Nat → Nat} {K : Int32 → Prop} {k44 : Int32 → Int32 → Int32 → Prop} {k71 : Prop} (pg : Int32) (ps : Int32) (nf : Int32) (np : Int32) (nq : Int32) (ns : Int32) (po : Int32) (pt : Int32) (rf : Int32) (rl : Int32) (bx : (Nat → Int32)) (xl : (Nat → Int32)) (xr : (Nat → Int32)) (yl : (Nat → Int32)) (yh : (Nat → Int32)) (ms : (Nat → Int32)) (wt : (Nat → Int32)) (pf : (Nat → Int32)) (nr : (Nat → Int64)) (sl : (Nat → Int32)) (cl : (Nat → Int32)) (hu : (Nat → Int32)) (uu : (Nat → Int32)) (pd : (Nat → Int64)) (ro : (Nat → Int32)) (rc : (Nat → Int64)) (C : CX p s m av meth c cX0_partOfPair 6 (some .int) RX0 wsX0_partOfPair) (hK : va_K (dC, dI) vwCl (TY cI cJ cZ) s) (ha : apart q 21) (hN : NX s) (hk44 : ∀ (v2 : Int32) (v4 : Int32) (v5 : Int32) (ls : Array Slot) (H : Heap) (locs : List Loc), k44 v2 v4 v5 → lv_has ls 6 [(2, .int v2), (4, .int v4), (5, .int v5)] → va_P (dC, dI) vwCl (WC q cI cJ cZ pg ps nf np nq ns po pt rf rl bx xl xr yl yh ms wt pf nr sl cl hu uu pd ro rc) H → va_S (AF q 21 s.heap.size) s.heap H locs → W p l e { frames := 2, cells := 0, slots := 0, locals := 42 } s m av below meth c H locs 0 0 (MQ below (QX0_partOfPair dC dI cI cJ cZ q s.heap.size pg ps nf np nq ns po pt rf rl bx xl xr yl yh ms wt pf nr sl cl hu uu pd ro rc K) av s 0 0 (AF q 21 s.heap.size)) (F0 m 44 ls [])) (hk71 : ∀  (ls : Array Slot) (H : Heap) (locs : List Loc), k71  → lv_has ls 6 [] → va_P (dC, dI) vwCl (WC q cI cJ cZ pg ps nf np nq ns po pt rf rl bx xl xr yl yh ms wt pf nr sl cl hu uu pd ro rc) H → va_S (AF q 21 s.heap.size) s.heap H locs → W p l e { frames := 2, cells := 0, slots := 0, locals := 42 } s m av below meth c H locs 0 0 (MQ below (QX0_partOfPair dC dI cI cJ cZ q s.heap.size pg ps nf np nq ns po pt rf rl bx xl xr yl yh ms wt pf nr sl cl hu uu pd ro rc K) av s 0 0 (AF q 21 s.heap.size)) (F0 m 71 ls [])) : ∀ (n : Nat) (v2 : Int32) (v3 : Int32) (v4 : Int32) (ls : Array Slot) (H : Heap) (locs : List Loc), lpX0_partOfPair_5 np nr K k44 k71 n v2 v3 v4 → lv_has ls 6 [(0, .ref (q 2)), (2, .int v2), (3, .int v3), (4, .int v4)] → va_P (dC, dI) vwCl (WC q cI cJ cZ pg ps nf np nq ns po pt rf rl bx xl xr yl yh ms wt pf nr sl cl hu uu pd ro rc) H → va_S (AF q 21 s.heap.size) s.heap H locs → W p l e { frames := 2, cells := 0, slots := 0, locals := 42 } s m av below meth c H locs 0 0 (MQ below (QX0_partOfPair dC dI cI cJ cZ q s.heap.size pg ps nf np nq ns po pt rf rl bx xl xr yl yh ms wt pf nr sl cl hu uu pd ro rc K) av s 0 0 (AF q 21 s.heap.size)) (F0 m 5 ls []) := by
  obtain ⟨hx, hb, hr, hml, hown, hts, hlk⟩ := id C
  intro n
  induction n with
  | zero =>
    intro v2 v3 v4 ls H locs h
    exact h.elim
  | succ n ih =>
    intro v2 v3 v4 ls H locs h hl hP hS
    rw [lpX0_partOfPair_5.eq_2] at h
    refine lv_iload hx hb dX0_partOfPair_5 (lv_at hl 3 rfl) ?_
    refine lv_aload_n hx hb dX0_partOfPair_7 rfl (lv_at hl 0 rfl) ?_
    refine va_get (D := (dC, dI)) (ci := 0) (v := .int np) (C := RX0) (T := TX0) (N := 9) hx hb hts iwX0_partOfPair_X0 hown hK hP 2 rfl rfl 2 (by decide) (hts _ fwX0_partOfPair_15) (fun _ h9 => h9) rfl dX0_partOfPair_8 ?_
    refine lv_icmp_ge (tgt := 71) hx hb dX0_partOfPair_11 (by decide) (fun c8 => ?_) (fun c8 => ?_)
    · have h := h.1 c8
      exact hk71  ls H locs h (lv_sub hl [] rfl) hP hS
    · have h := h.2 c8
      refine lv_iload hx hb dX0_partOfPair_14 (lv_at hl 3 rfl) ?_
      refine lv_iconst (v := 1) hx hb dX0_partOfPair_16 (by decide) ?_
      refine lv_iadd hx hb dX0_partOfPair_17 ?_
      refine lv_topi (fun i9 ei9 => ?_)
      have h := h i9 ei9
      refine lv_istore (lv' := [(5, .int i9), (0, .ref (q 2)), (2, .int v2), (3, .int v3), (4, .int v4)]) hx hb dX0_partOfPair_18 hl (by decide) rfl (fun ls hl => ?_)
      obtain ⟨n9, h⟩ := h
      exact mX0_partOfPair_20 pg ps nf np nq ns po pt rf rl bx xl xr yl yh ms wt pf nr sl cl hu uu pd ro rc C hK ha hN hk44 (fun v2 v3 v4 ls H locs h hl hP hS => by
          obtain ⟨i10, ei10⟩ : ∃ y : Int32, y = v4 + 1 := ⟨_, rfl⟩
          refine lv_iinc (v := i10) (lv' := [(4, .int i10), (0, .ref (q 2)), (2, .int v2), (3, .int v3)]) hx hb dX0_partOfPair_65 hl (k := 3) rfl (by rw [ei10]; rfl) (by decide) rfl (fun ls hl => ?_)
          have h := h i10 ei10
          refine lv_goto (tgt := 5) hx hb dX0_partOfPair_68 (by decide) ?_
          exact ih v2 v3 i10 ls H locs h (lv_sub hl [1, 2, 3, 0] rfl) hP hS) n9 v2 v3 v4 i9 ls H locs h (lv_sub hl [1, 2, 3, 4, 0] rfl) hP hS
def wX0_partOfPair (np : Int32) (nr : (Nat → Int64)) (v1 : Int32) (v2 : Int32) (K : Int32 → Prop) : Prop := (∃ z5, lpX0_partOfPair_5 np nr K (fun (v2 : Int32) (v4 : Int32) (v5 : Int32) => ((¬ v2 = 0 → K v5 ) ∧ (v2 = 0 → K v4 ))) (K (-1) ) z5 v2 v1 0)
set_option maxHeartbeats 4000000 in
set_option maxRecDepth 100000 in
theorem ktX0_partOfPair (l : Launch) (dC : Nat → ClassId) (dI : Nat → Nat → Nat) (q : Nat → Nat) (cI cJ cZ : ClassId) (sz : Nat) (pg : Int32) (ps : Int32) (nf : Int32) (np : Int32) (nq : Int32) (ns : Int32) (po : Int32) (pt : Int32) (rf : Int32) (rl : Int32) (bx : (Nat → Int32)) (xl : (Nat → Int32)) (xr : (Nat → Int32)) (yl : (Nat → Int32)) (yh : (Nat → Int32)) (ms : (Nat → Int32)) (wt : (Nat → Int32)) (pf : (Nat → Int32)) (nr : (Nat → Int64)) (sl : (Nat → Int32)) (cl : (Nat → Int32)) (hu : (Nat → Int32)) (uu : (Nat → Int32)) (pd : (Nat → Int64)) (ro : (Nat → Int32)) (rc : (Nat → Int64)) (v1 : Int32) (v2 : Int32) {K : Int32 → Prop} (h : wX0_partOfPair np nr v1 v2 K) : Met l yX0_partOfPair wsX0_partOfPair { frames := 2, cells := 0, slots := 0, locals := 42 } (va_Pc [.ref (q 2), .int v1, .int v2] (wd dC dI cI cJ cZ q 21 sz (WC q cI cJ cZ pg ps nf np nq ns po pt rf rl bx xl xr yl yh ms wt pf nr sl cl hu uu pd ro rc))) (QX0_partOfPair dC dI cI cJ cZ q sz pg ps nf np nq ns po pt rf rl bx xl xr yl yh ms wt pf nr sl cl hu uu pd ro rc K) 0 0 (AF q 21 sz) := by
  refine met_of [.ref (q 2), .int v1, .int v2] (by decide +kernel) rfl (Nat.le_of_ble_eq_true rfl) ?_
  intro p e s m below meth c ls hsz C hK ha hN hl hP
  subst hsz
  obtain ⟨hx, hb, hr, hml, hown, hts, hlk⟩ := id C
  have hl : lv_has ls 6 [(0, .ref (q 2)), (1, .int v1), (2, .int v2)] := hl
  refine w_go (Pw := fun H => va_P (dC, dI) vwCl (WC q cI cJ cZ pg ps nf np nq ns po pt rf rl bx xl xr yl yh ms wt pf nr sl cl hu uu pd ro rc) H) (A := AF q 21 s.heap.size) (fun H locs hP hS => ?_) hP
  unfold wX0_partOfPair at h
  refine lv_iload_n hx hb dX0_partOfPair_0 rfl (lv_at hl 1 rfl) ?_
  refine lv_istore_n (lv' := [(3, .int v1), (0, .ref (q 2)), (1, .int v1), (2, .int v2)]) hx hb dX0_partOfPair_1 rfl hl (by decide) rfl (fun ls hl => ?_)
  refine lv_iconst (v := 0) hx hb dX0_partOfPair_2 (by decide) ?_
  refine lv_istore (lv' := [(4, .int 0), (3, .int v1), (0, .ref (q 2)), (1, .int v1), (2, .int v2)]) hx hb dX0_partOfPair_3 hl (by decide) rfl (fun ls hl => ?_)
  obtain ⟨n9, h⟩ := h
  exact mX0_partOfPair_5 pg ps nf np nq ns po pt rf rl bx xl xr yl yh ms wt pf nr sl cl hu uu pd ro rc C hK ha hN (fun v2 v4 v5 ls H locs h hl hP hS => by
      refine lv_iload_n hx hb dX0_partOfPair_44 rfl (lv_at hl 0 rfl) ?_
      refine lv_if_ne (tgt := 53) hx hb dX0_partOfPair_45 (by decide) (fun c11 => ?_) (fun c11 => ?_)
      · have h := h.1 c11
        refine lv_iload hx hb dX0_partOfPair_53 (lv_at hl 2 rfl) ?_
        exact rt_i () hx hb hr hlk h (fun t ht => by rw [ht]; exact hP) hS dX0_partOfPair_55
      · have h := h.2 c11
        refine lv_iload hx hb dX0_partOfPair_48 (lv_at hl 1 rfl) ?_
        refine lv_goto (tgt := 55) hx hb dX0_partOfPair_50 (by decide) ?_
        exact rt_i () hx hb hr hlk h (fun t ht => by rw [ht]; exact hP) hS dX0_partOfPair_55) (fun  ls H locs h hl hP hS => by
      refine lv_iconst (v := (-1)) hx hb dX0_partOfPair_71 (by decide) ?_
      exact rt_i () hx hb hr hlk h (fun t ht => by rw [ht]; exact hP) hS dX0_partOfPair_72) n9 v2 v1 0 ls H locs h (lv_sub hl [2, 4, 1, 0] rfl) hP hS

theorem fwX0_nearTo_15 : Cond.fieldLink RX0 15 "MaskParts$Net" "parts" "I" ∈ wsX0_nearTo := by decide +kernel
set_option maxRecDepth 20000 in
theorem iwX0_nearTo_X0 : ∀ w ∈ wsX00, w ∈ wsX0_nearTo := by decide +kernel
theorem nwX0_nearTo_i : Cond.initialized RX4 ∈ wsX0_nearTo := by decide +kernel
theorem nwX0_nearTo_s : Cond.static yX4_bit ∈ wsX0_nearTo := by decide +kernel
theorem fwX0_nearTo_29 : Cond.fieldLink RX0 29 "MaskParts$Net" "near" "[J" ∈ wsX0_nearTo := by decide +kernel
abbrev QX0_nearTo (dC : Nat → ClassId) (dI : Nat → Nat → Nat) (cI cJ cZ : ClassId) (q : Nat → Nat) (sz : Nat) (pg : Int32) (ps : Int32) (nf : Int32) (np : Int32) (nq : Int32) (ns : Int32) (po : Int32) (pt : Int32) (rf : Int32) (rl : Int32) (bx : (Nat → Int32)) (xl : (Nat → Int32)) (xr : (Nat → Int32)) (yl : (Nat → Int32)) (yh : (Nat → Int32)) (ms : (Nat → Int32)) (wt : (Nat → Int32)) (pf : (Nat → Int32)) (nr : (Nat → Int64)) (sl : (Nat → Int32)) (cl : (Nat → Int32)) (hu : (Nat → Int32)) (uu : (Nat → Int32)) (pd : (Nat → Int64)) (ro : (Nat → Int32)) (rc : (Nat → Int64)) (K : Int64 → Prop) : Array Value → State → Outcome → State → Prop := va_Ql (fun (r : Int64) (u : Unit) => K r) (fun (u : Unit) t => va_P (dC, dI) vwCl (WC q cI cJ cZ pg ps nf np nq ns po pt rf rl bx xl xr yl yh ms wt pf nr sl cl hu uu pd ro rc) t.heap) (AF q 21 sz)
def bkX0_nearTo_36 (np : Int32) (nr : (Nat → Int64)) (K : Int64 → Prop) (k5 : Int64 → Int64 → Int32 → Prop) (v1 : Int64) (v3 : Int64) (v5 : Int32) : Prop := (∀ i1 : Int32, i1 = v5 + 1 → k5 v1 v3 i1)
set_option maxHeartbeats 4000000 in
set_option maxRecDepth 100000 in
theorem mX0_nearTo_36 {p : Program} {l : Launch} {e : Env} {s : State} {m : MethodId} {av : Array Value} {below : List Frame} {meth : Method} {c : Code} {dC : Nat → ClassId} {dI : Nat → Nat → Nat} {cI cJ cZ : ClassId} {q : Nat → Nat} {K : Int64 → Prop} {k5 : Int64 → Int64 → Int32 → Prop} (pg : Int32) (ps : Int32) (nf : Int32) (np : Int32) (nq : Int32) (ns : Int32) (po : Int32) (pt : Int32) (rf : Int32) (rl : Int32) (bx : (Nat → Int32)) (xl : (Nat → Int32)) (xr : (Nat → Int32)) (yl : (Nat → Int32)) (yh : (Nat → Int32)) (ms : (Nat → Int32)) (wt : (Nat → Int32)) (pf : (Nat → Int32)) (nr : (Nat → Int64)) (sl : (Nat → Int32)) (cl : (Nat → Int32)) (hu : (Nat → Int32)) (uu : (Nat → Int32)) (pd : (Nat → Int64)) (ro : (Nat → Int32)) (rc : (Nat → Int64)) (C : CX p s m av meth c cX0_nearTo 6 (some .long) RX0 wsX0_nearTo) (hK : va_K (dC, dI) vwCl (TY cI cJ cZ) s) (ha : apart q 21) (hN : NX s) (hk5 : ∀ (v1 : Int64) (v3 : Int64) (v5 : Int32) (ls : Array Slot) (H : Heap) (locs : List Loc), k5 v1 v3 v5 → lv_has ls 6 [(0, .ref (q 2)), (1, .long v1), (3, .long v3), (5, .int v5)] → va_P (dC, dI) vwCl (WC q cI cJ cZ pg ps nf np nq ns po pt rf rl bx xl xr yl yh ms wt pf nr sl cl hu uu pd ro rc) H → va_S (AF q 21 s.heap.size) s.heap H locs → W p l e { frames := 1, cells := 0, slots := 0, locals := 20 } s m av below meth c H locs 0 0 (MQ below (QX0_nearTo dC dI cI cJ cZ q s.heap.size pg ps nf np nq ns po pt rf rl bx xl xr yl yh ms wt pf nr sl cl hu uu pd ro rc K) av s 0 0 (AF q 21 s.heap.size)) (F0 m 5 ls [])) : ∀ (v1 : Int64) (v3 : Int64) (v5 : Int32) (ls : Array Slot) (H : Heap) (locs : List Loc), bkX0_nearTo_36 np nr K k5 v1 v3 v5 → lv_has ls 6 [(0, .ref (q 2)), (1, .long v1), (3, .long v3), (5, .int v5)] → va_P (dC, dI) vwCl (WC q cI cJ cZ pg ps nf np nq ns po pt rf rl bx xl xr yl yh ms wt pf nr sl cl hu uu pd ro rc) H → va_S (AF q 21 s.heap.size) s.heap H locs → W p l e { frames := 1, cells := 0, slots := 0, locals := 20 } s m av below meth c H locs 0 0 (MQ below (QX0_nearTo dC dI cI cJ cZ q s.heap.size pg ps nf np nq ns po pt rf rl bx xl xr yl yh ms wt pf nr sl cl hu uu pd ro rc K) av s 0 0 (AF q 21 s.heap.size)) (F0 m 36 ls []) := by
  obtain ⟨hx, hb, hr, hml, hown, hts, hlk⟩ := id C
  intro v1 v3 v5 ls H locs h hl hP hS
  unfold bkX0_nearTo_36 at h
  obtain ⟨i1, ei1⟩ : ∃ y : Int32, y = v5 + 1 := ⟨_, rfl⟩
  refine lv_iinc (v := i1) (lv' := [(5, .int i1), (0, .ref (q 2)), (1, .long v1), (3, .long v3)]) hx hb dX0_nearTo_36 hl (k := 3) rfl (by rw [ei1]; rfl) (by decide) rfl (fun ls hl => ?_)
  have h := h i1 ei1
  refine lv_goto (tgt := 5) hx hb dX0_nearTo_39 (by decide) ?_
  exact hk5 v1 v3 i1 ls H locs h (lv_sub hl [1, 2, 3, 0] rfl) hP hS
def lpX0_nearTo_5 (np : Int32) (nr : (Nat → Int64)) (K : Int64 → Prop) (k42 : Int64 → Prop) : Nat → Int64 → Int64 → Int32 → Prop
  | 0, _, _, _ => False
  | n + 1, v1, v3, v5 => ((np ≤ v5 → k42 v3) ∧ (¬ (np ≤ v5) → (wX4_bit v5 (fun r3 : Int64 => (((lg_cmp ((v1 &&& r3)) 0) = 0 → bkX0_nearTo_36 np nr K (fun v1 v3 v5 => lpX0_nearTo_5 np nr K k42 n v1 v3 v5) v1 v3 v5) ∧ (¬ ((lg_cmp ((v1 &&& r3)) 0) = 0) → (vp_in v5 40 ∧ (∀ j7 : Int64, j7 = (v3 ||| (nr v5.toNatClampNeg)) → bkX0_nearTo_36 np nr K (fun v1 v3 v5 => lpX0_nearTo_5 np nr K k42 n v1 v3 v5) v1 j7 v5))))))))
set_option maxHeartbeats 4000000 in
set_option maxRecDepth 100000 in
theorem mX0_nearTo_5 {p : Program} {l : Launch} {e : Env} {s : State} {m : MethodId} {av : Array Value} {below : List Frame} {meth : Method} {c : Code} {dC : Nat → ClassId} {dI : Nat → Nat → Nat} {cI cJ cZ : ClassId} {q : Nat → Nat} {K : Int64 → Prop} {k42 : Int64 → Prop} (pg : Int32) (ps : Int32) (nf : Int32) (np : Int32) (nq : Int32) (ns : Int32) (po : Int32) (pt : Int32) (rf : Int32) (rl : Int32) (bx : (Nat → Int32)) (xl : (Nat → Int32)) (xr : (Nat → Int32)) (yl : (Nat → Int32)) (yh : (Nat → Int32)) (ms : (Nat → Int32)) (wt : (Nat → Int32)) (pf : (Nat → Int32)) (nr : (Nat → Int64)) (sl : (Nat → Int32)) (cl : (Nat → Int32)) (hu : (Nat → Int32)) (uu : (Nat → Int32)) (pd : (Nat → Int64)) (ro : (Nat → Int32)) (rc : (Nat → Int64)) (C : CX p s m av meth c cX0_nearTo 6 (some .long) RX0 wsX0_nearTo) (hK : va_K (dC, dI) vwCl (TY cI cJ cZ) s) (ha : apart q 21) (hN : NX s) (hk42 : ∀ (v3 : Int64) (ls : Array Slot) (H : Heap) (locs : List Loc), k42 v3 → lv_has ls 6 [(3, .long v3)] → va_P (dC, dI) vwCl (WC q cI cJ cZ pg ps nf np nq ns po pt rf rl bx xl xr yl yh ms wt pf nr sl cl hu uu pd ro rc) H → va_S (AF q 21 s.heap.size) s.heap H locs → W p l e { frames := 1, cells := 0, slots := 0, locals := 20 } s m av below meth c H locs 0 0 (MQ below (QX0_nearTo dC dI cI cJ cZ q s.heap.size pg ps nf np nq ns po pt rf rl bx xl xr yl yh ms wt pf nr sl cl hu uu pd ro rc K) av s 0 0 (AF q 21 s.heap.size)) (F0 m 42 ls [])) : ∀ (n : Nat) (v1 : Int64) (v3 : Int64) (v5 : Int32) (ls : Array Slot) (H : Heap) (locs : List Loc), lpX0_nearTo_5 np nr K k42 n v1 v3 v5 → lv_has ls 6 [(0, .ref (q 2)), (1, .long v1), (3, .long v3), (5, .int v5)] → va_P (dC, dI) vwCl (WC q cI cJ cZ pg ps nf np nq ns po pt rf rl bx xl xr yl yh ms wt pf nr sl cl hu uu pd ro rc) H → va_S (AF q 21 s.heap.size) s.heap H locs → W p l e { frames := 1, cells := 0, slots := 0, locals := 20 } s m av below meth c H locs 0 0 (MQ below (QX0_nearTo dC dI cI cJ cZ q s.heap.size pg ps nf np nq ns po pt rf rl bx xl xr yl yh ms wt pf nr sl cl hu uu pd ro rc K) av s 0 0 (AF q 21 s.heap.size)) (F0 m 5 ls []) := by
  obtain ⟨hx, hb, hr, hml, hown, hts, hlk⟩ := id C
  intro n
  induction n with
  | zero =>
    intro v1 v3 v5 ls H locs h
    exact h.elim
  | succ n ih =>
    intro v1 v3 v5 ls H locs h hl hP hS
    rw [lpX0_nearTo_5.eq_2] at h
    refine lv_iload hx hb dX0_nearTo_5 (lv_at hl 3 rfl) ?_
    refine lv_aload_n hx hb dX0_nearTo_7 rfl (lv_at hl 0 rfl) ?_
    refine va_get (D := (dC, dI)) (ci := 0) (v := .int np) (C := RX0) (T := TX0) (N := 9) hx hb hts iwX0_nearTo_X0 hown hK hP 2 rfl rfl 2 (by decide) (hts _ fwX0_nearTo_15) (fun _ h9 => h9) rfl dX0_nearTo_8 ?_
    refine lv_icmp_ge (tgt := 42) hx hb dX0_nearTo_11 (by decide) (fun c2 => ?_) (fun c2 => ?_)
    · have h := h.1 c2
      exact hk42 v3 ls H locs h (lv_sub hl [2] rfl) hP hS
    · have h := h.2 c2
      refine lv_lload_n hx hb dX0_nearTo_14 rfl (lv_at hl 1 rfl) ?_
      refine lv_iload hx hb dX0_nearTo_15 (lv_at hl 3 rfl) ?_
      refine cl_pl (va_runSN (host := "MaskParts") (As := [.int v5]) (rest := [.long v1]) ⟨hx, hb, hml, hown, hts⟩ (ktX4_bit l H.size v5 h) ⟨va_cnB 1 hts gX0_nearTo_X4_bit_n89 rfl rfl rfl hN.1 (hts _ nwX0_nearTo_i) (by decide +kernel) ⟨Nat.le_of_ble_eq_true rfl, Nat.le_of_ble_eq_true rfl⟩, hts _ nwX0_nearTo_s, trivial⟩ ⟨pz.blind, fun U hU _ => ⟨rfl, pz.at hU⟩⟩ rfl rfl hl.1 rfl (lv_room (Nat.le_of_ble_eq_true rfl)) dX0_nearTo_17 ⟨Nat.le_of_ble_eq_true rfl, Nat.le_of_ble_eq_true rfl⟩) hP hS (fun r3 _ H locs h hP hS => ?_)
      refine lv_land hx hb dX0_nearTo_20 ?_
      refine lv_lconst (v := 0) hx hb dX0_nearTo_21 (by decide) ?_
      refine W.lcmp hx hb dX0_nearTo_22 ?_
      refine lv_if_eq (tgt := 36) hx hb dX0_nearTo_23 (by decide) (fun c5 => ?_) (fun c5 => ?_)
      · have h := h.1 c5
        exact mX0_nearTo_36 pg ps nf np nq ns po pt rf rl bx xl xr yl yh ms wt pf nr sl cl hu uu pd ro rc C hK ha hN (fun v1 v3 v5 ls H locs h hl hP hS => ih v1 v3 v5 ls H locs h hl hP hS) v1 v3 v5 ls H locs h (lv_sub hl [0, 1, 2, 3] rfl) hP hS
      · have h := h.2 c5
        refine lv_lload_n hx hb dX0_nearTo_26 rfl (lv_at hl 2 rfl) ?_
        refine lv_aload_n hx hb dX0_nearTo_27 rfl (lv_at hl 0 rfl) ?_
        refine va_get (D := (dC, dI)) (ci := 0) (v := .ref (q 13)) (C := RX0) (T := TX0) (N := 9) hx hb hts iwX0_nearTo_X0 hown hK hP 2 rfl rfl 6 (by decide) (hts _ fwX0_nearTo_29) (fun _ h9 => h9) rfl dX0_nearTo_28 ?_
        refine lv_iload hx hb dX0_nearTo_31 (lv_at hl 3 rfl) ?_
        obtain ⟨b6, h⟩ := h
        refine va_lald (D := (dC, dI)) hx hb hK hP 13 1 rfl rfl b6 dX0_nearTo_33 ?_
        refine lv_lor hx hb dX0_nearTo_34 ?_
        refine lv_topl (fun j7 ej7 => ?_)
        have h := h j7 ej7
        refine lv_lstore_n (lv' := [(3, .long j7), (0, .ref (q 2)), (1, .long v1), (5, .int v5)]) hx hb dX0_nearTo_35 rfl hl (by decide) rfl (fun ls hl => ?_)
        exact mX0_nearTo_36 pg ps nf np nq ns po pt rf rl bx xl xr yl yh ms wt pf nr sl cl hu uu pd ro rc C hK ha hN (fun v1 v3 v5 ls H locs h hl hP hS => ih v1 v3 v5 ls H locs h hl hP hS) v1 j7 v5 ls H locs h (lv_sub hl [1, 2, 0, 3] rfl) hP hS
def wX0_nearTo (np : Int32) (nr : (Nat → Int64)) (v1 : Int64) (K : Int64 → Prop) : Prop := (∃ z5, lpX0_nearTo_5 np nr K (fun (v3 : Int64) => K v3 ) z5 v1 0 0)
set_option maxHeartbeats 4000000 in
set_option maxRecDepth 100000 in
theorem ktX0_nearTo (l : Launch) (dC : Nat → ClassId) (dI : Nat → Nat → Nat) (q : Nat → Nat) (cI cJ cZ : ClassId) (sz : Nat) (pg : Int32) (ps : Int32) (nf : Int32) (np : Int32) (nq : Int32) (ns : Int32) (po : Int32) (pt : Int32) (rf : Int32) (rl : Int32) (bx : (Nat → Int32)) (xl : (Nat → Int32)) (xr : (Nat → Int32)) (yl : (Nat → Int32)) (yh : (Nat → Int32)) (ms : (Nat → Int32)) (wt : (Nat → Int32)) (pf : (Nat → Int32)) (nr : (Nat → Int64)) (sl : (Nat → Int32)) (cl : (Nat → Int32)) (hu : (Nat → Int32)) (uu : (Nat → Int32)) (pd : (Nat → Int64)) (ro : (Nat → Int32)) (rc : (Nat → Int64)) (v1 : Int64) {K : Int64 → Prop} (h : wX0_nearTo np nr v1 K) : Met l yX0_nearTo wsX0_nearTo { frames := 1, cells := 0, slots := 0, locals := 20 } (va_Pc [.ref (q 2), .long v1] (wd dC dI cI cJ cZ q 21 sz (WC q cI cJ cZ pg ps nf np nq ns po pt rf rl bx xl xr yl yh ms wt pf nr sl cl hu uu pd ro rc))) (QX0_nearTo dC dI cI cJ cZ q sz pg ps nf np nq ns po pt rf rl bx xl xr yl yh ms wt pf nr sl cl hu uu pd ro rc K) 0 0 (AF q 21 sz) := by
  refine met_of [.ref (q 2), .long v1] (by decide +kernel) rfl (Nat.le_of_ble_eq_true rfl) ?_
  intro p e s m below meth c ls hsz C hK ha hN hl hP
  subst hsz
  obtain ⟨hx, hb, hr, hml, hown, hts, hlk⟩ := id C
  have hl : lv_has ls 6 [(0, .ref (q 2)), (1, .long v1)] := hl
  refine w_go (Pw := fun H => va_P (dC, dI) vwCl (WC q cI cJ cZ pg ps nf np nq ns po pt rf rl bx xl xr yl yh ms wt pf nr sl cl hu uu pd ro rc) H) (A := AF q 21 s.heap.size) (fun H locs hP hS => ?_) hP
  unfold wX0_nearTo at h
  refine lv_lconst (v := 0) hx hb dX0_nearTo_0 (by decide) ?_
  refine lv_lstore_n (lv' := [(3, .long 0), (0, .ref (q 2)), (1, .long v1)]) hx hb dX0_nearTo_1 rfl hl (by decide) rfl (fun ls hl => ?_)
  refine lv_iconst (v := 0) hx hb dX0_nearTo_2 (by decide) ?_
  refine lv_istore (lv' := [(5, .int 0), (3, .long 0), (0, .ref (q 2)), (1, .long v1)]) hx hb dX0_nearTo_3 hl (by decide) rfl (fun ls hl => ?_)
  obtain ⟨n9, h⟩ := h
  exact mX0_nearTo_5 pg ps nf np nq ns po pt rf rl bx xl xr yl yh ms wt pf nr sl cl hu uu pd ro rc C hK ha hN (fun v3 ls H locs h hl hP hS => by
      refine lv_lload_n hx hb dX0_nearTo_42 rfl (lv_at hl 0 rfl) ?_
      exact rt_l () hx hb hr hlk h (fun t ht => by rw [ht]; exact hP) hS dX0_nearTo_43) n9 v1 0 0 ls H locs h (lv_sub hl [2, 3, 1, 0] rfl) hP hS

theorem fwX0_stitchedTo_15 : Cond.fieldLink RX0 15 "MaskParts$Net" "parts" "I" ∈ wsX0_stitchedTo := by decide +kernel
set_option maxRecDepth 20000 in
theorem iwX0_stitchedTo_X0 : ∀ w ∈ wsX00, w ∈ wsX0_stitchedTo := by decide +kernel
theorem nwX0_stitchedTo_i : Cond.initialized RX4 ∈ wsX0_stitchedTo := by decide +kernel
theorem nwX0_stitchedTo_s : Cond.static yX4_bit ∈ wsX0_stitchedTo := by decide +kernel
theorem fwX0_stitchedTo_33 : Cond.fieldLink RX0 33 "MaskParts$Net" "stitchedToLast" "[Z" ∈ wsX0_stitchedTo := by decide +kernel
abbrev QX0_stitchedTo (dC : Nat → ClassId) (dI : Nat → Nat → Nat) (cI cJ cZ : ClassId) (q : Nat → Nat) (sz : Nat) (pg : Int32) (ps : Int32) (nf : Int32) (np : Int32) (nq : Int32) (ns : Int32) (po : Int32) (pt : Int32) (rf : Int32) (rl : Int32) (bx : (Nat → Int32)) (xl : (Nat → Int32)) (xr : (Nat → Int32)) (yl : (Nat → Int32)) (yh : (Nat → Int32)) (ms : (Nat → Int32)) (wt : (Nat → Int32)) (pf : (Nat → Int32)) (nr : (Nat → Int64)) (sl : (Nat → Int32)) (cl : (Nat → Int32)) (hu : (Nat → Int32)) (uu : (Nat → Int32)) (pd : (Nat → Int64)) (ro : (Nat → Int32)) (rc : (Nat → Int64)) (K : Int64 → Prop) : Array Value → State → Outcome → State → Prop := va_Ql (fun (r : Int64) (u : Unit) => K r) (fun (u : Unit) t => va_P (dC, dI) vwCl (WC q cI cJ cZ pg ps nf np nq ns po pt rf rl bx xl xr yl yh ms wt pf nr sl cl hu uu pd ro rc) t.heap) (AF q 21 sz)
def bkX0_stitchedTo_53 (np : Int32) (sl : (Nat → Int32)) (K : Int64 → Prop) (k5 : Int64 → Int64 → Int32 → Prop) (v1 : Int64) (v3 : Int64) (v5 : Int32) : Prop := (∀ i1 : Int32, i1 = v5 + 1 → k5 v1 v3 i1)
set_option maxHeartbeats 4000000 in
set_option maxRecDepth 100000 in
theorem mX0_stitchedTo_53 {p : Program} {l : Launch} {e : Env} {s : State} {m : MethodId} {av : Array Value} {below : List Frame} {meth : Method} {c : Code} {dC : Nat → ClassId} {dI : Nat → Nat → Nat} {cI cJ cZ : ClassId} {q : Nat → Nat} {K : Int64 → Prop} {k5 : Int64 → Int64 → Int32 → Prop} (pg : Int32) (ps : Int32) (nf : Int32) (np : Int32) (nq : Int32) (ns : Int32) (po : Int32) (pt : Int32) (rf : Int32) (rl : Int32) (bx : (Nat → Int32)) (xl : (Nat → Int32)) (xr : (Nat → Int32)) (yl : (Nat → Int32)) (yh : (Nat → Int32)) (ms : (Nat → Int32)) (wt : (Nat → Int32)) (pf : (Nat → Int32)) (nr : (Nat → Int64)) (sl : (Nat → Int32)) (cl : (Nat → Int32)) (hu : (Nat → Int32)) (uu : (Nat → Int32)) (pd : (Nat → Int64)) (ro : (Nat → Int32)) (rc : (Nat → Int64)) (C : CX p s m av meth c cX0_stitchedTo 8 (some .long) RX0 wsX0_stitchedTo) (hK : va_K (dC, dI) vwCl (TY cI cJ cZ) s) (ha : apart q 21) (hN : NX s) (hk5 : ∀ (v1 : Int64) (v3 : Int64) (v5 : Int32) (ls : Array Slot) (H : Heap) (locs : List Loc), k5 v1 v3 v5 → lv_has ls 8 [(0, .ref (q 2)), (1, .long v1), (3, .long v3), (5, .int v5)] → va_P (dC, dI) vwCl (WC q cI cJ cZ pg ps nf np nq ns po pt rf rl bx xl xr yl yh ms wt pf nr sl cl hu uu pd ro rc) H → va_S (AF q 21 s.heap.size) s.heap H locs → W p l e { frames := 1, cells := 0, slots := 0, locals := 20 } s m av below meth c H locs 0 0 (MQ below (QX0_stitchedTo dC dI cI cJ cZ q s.heap.size pg ps nf np nq ns po pt rf rl bx xl xr yl yh ms wt pf nr sl cl hu uu pd ro rc K) av s 0 0 (AF q 21 s.heap.size)) (F0 m 5 ls [])) : ∀ (v1 : Int64) (v3 : Int64) (v5 : Int32) (ls : Array Slot) (H : Heap) (locs : List Loc), bkX0_stitchedTo_53 np sl K k5 v1 v3 v5 → lv_has ls 8 [(0, .ref (q 2)), (1, .long v1), (3, .long v3), (5, .int v5)] → va_P (dC, dI) vwCl (WC q cI cJ cZ pg ps nf np nq ns po pt rf rl bx xl xr yl yh ms wt pf nr sl cl hu uu pd ro rc) H → va_S (AF q 21 s.heap.size) s.heap H locs → W p l e { frames := 1, cells := 0, slots := 0, locals := 20 } s m av below meth c H locs 0 0 (MQ below (QX0_stitchedTo dC dI cI cJ cZ q s.heap.size pg ps nf np nq ns po pt rf rl bx xl xr yl yh ms wt pf nr sl cl hu uu pd ro rc K) av s 0 0 (AF q 21 s.heap.size)) (F0 m 53 ls []) := by
  obtain ⟨hx, hb, hr, hml, hown, hts, hlk⟩ := id C
  intro v1 v3 v5 ls H locs h hl hP hS
  unfold bkX0_stitchedTo_53 at h
  obtain ⟨i1, ei1⟩ : ∃ y : Int32, y = v5 + 1 := ⟨_, rfl⟩
  refine lv_iinc (v := i1) (lv' := [(5, .int i1), (0, .ref (q 2)), (1, .long v1), (3, .long v3)]) hx hb dX0_stitchedTo_53 hl (k := 3) rfl (by rw [ei1]; rfl) (by decide) rfl (fun ls hl => ?_)
  have h := h i1 ei1
  refine lv_goto (tgt := 5) hx hb dX0_stitchedTo_56 (by decide) ?_
  exact hk5 v1 v3 i1 ls H locs h (lv_sub hl [1, 2, 3, 0] rfl) hP hS
def lpX0_stitchedTo_5 (np : Int32) (sl : (Nat → Int32)) (K : Int64 → Prop) (k59 : Int64 → Prop) : Nat → Int64 → Int64 → Int32 → Prop
  | 0, _, _, _ => False
  | n + 1, v1, v3, v5 => ((np ≤ v5 → k59 v3) ∧ (¬ (np ≤ v5) → (wX4_bit ((v5 - 1)) (fun r3 : Int64 => (wX4_bit v5 (fun r5 : Int64 => (∀ j7 : Int64, j7 = (r3 ||| r5) → (vp_in v5 40 ∧ (((sl v5.toNatClampNeg) = 0 → bkX0_stitchedTo_53 np sl K (fun v1 v3 v5 => lpX0_stitchedTo_5 np sl K k59 n v1 v3 v5) v1 v3 v5) ∧ (¬ ((sl v5.toNatClampNeg) = 0) → (((lg_cmp ((v1 &&& j7)) 0) = 0 → bkX0_stitchedTo_53 np sl K (fun v1 v3 v5 => lpX0_stitchedTo_5 np sl K k59 n v1 v3 v5) v1 v3 v5) ∧ (¬ ((lg_cmp ((v1 &&& j7)) 0) = 0) → (∀ j11 : Int64, j11 = (v3 ||| j7) → bkX0_stitchedTo_53 np sl K (fun v1 v3 v5 => lpX0_stitchedTo_5 np sl K k59 n v1 v3 v5) v1 j11 v5)))))))))))))
set_option maxHeartbeats 4000000 in
set_option maxRecDepth 100000 in
theorem mX0_stitchedTo_5 {p : Program} {l : Launch} {e : Env} {s : State} {m : MethodId} {av : Array Value} {below : List Frame} {meth : Method} {c : Code} {dC : Nat → ClassId} {dI : Nat → Nat → Nat} {cI cJ cZ : ClassId} {q : Nat → Nat} {K : Int64 → Prop} {k59 : Int64 → Prop} (pg : Int32) (ps : Int32) (nf : Int32) (np : Int32) (nq : Int32) (ns : Int32) (po : Int32) (pt : Int32) (rf : Int32) (rl : Int32) (bx : (Nat → Int32)) (xl : (Nat → Int32)) (xr : (Nat → Int32)) (yl : (Nat → Int32)) (yh : (Nat → Int32)) (ms : (Nat → Int32)) (wt : (Nat → Int32)) (pf : (Nat → Int32)) (nr : (Nat → Int64)) (sl : (Nat → Int32)) (cl : (Nat → Int32)) (hu : (Nat → Int32)) (uu : (Nat → Int32)) (pd : (Nat → Int64)) (ro : (Nat → Int32)) (rc : (Nat → Int64)) (C : CX p s m av meth c cX0_stitchedTo 8 (some .long) RX0 wsX0_stitchedTo) (hK : va_K (dC, dI) vwCl (TY cI cJ cZ) s) (ha : apart q 21) (hN : NX s) (hk59 : ∀ (v3 : Int64) (ls : Array Slot) (H : Heap) (locs : List Loc), k59 v3 → lv_has ls 8 [(3, .long v3)] → va_P (dC, dI) vwCl (WC q cI cJ cZ pg ps nf np nq ns po pt rf rl bx xl xr yl yh ms wt pf nr sl cl hu uu pd ro rc) H → va_S (AF q 21 s.heap.size) s.heap H locs → W p l e { frames := 1, cells := 0, slots := 0, locals := 20 } s m av below meth c H locs 0 0 (MQ below (QX0_stitchedTo dC dI cI cJ cZ q s.heap.size pg ps nf np nq ns po pt rf rl bx xl xr yl yh ms wt pf nr sl cl hu uu pd ro rc K) av s 0 0 (AF q 21 s.heap.size)) (F0 m 59 ls [])) : ∀ (n : Nat) (v1 : Int64) (v3 : Int64) (v5 : Int32) (ls : Array Slot) (H : Heap) (locs : List Loc), lpX0_stitchedTo_5 np sl K k59 n v1 v3 v5 → lv_has ls 8 [(0, .ref (q 2)), (1, .long v1), (3, .long v3), (5, .int v5)] → va_P (dC, dI) vwCl (WC q cI cJ cZ pg ps nf np nq ns po pt rf rl bx xl xr yl yh ms wt pf nr sl cl hu uu pd ro rc) H → va_S (AF q 21 s.heap.size) s.heap H locs → W p l e { frames := 1, cells := 0, slots := 0, locals := 20 } s m av below meth c H locs 0 0 (MQ below (QX0_stitchedTo dC dI cI cJ cZ q s.heap.size pg ps nf np nq ns po pt rf rl bx xl xr yl yh ms wt pf nr sl cl hu uu pd ro rc K) av s 0 0 (AF q 21 s.heap.size)) (F0 m 5 ls []) := by
  obtain ⟨hx, hb, hr, hml, hown, hts, hlk⟩ := id C
  intro n
  induction n with
  | zero =>
    intro v1 v3 v5 ls H locs h
    exact h.elim
  | succ n ih =>
    intro v1 v3 v5 ls H locs h hl hP hS
    rw [lpX0_stitchedTo_5.eq_2] at h
    refine lv_iload hx hb dX0_stitchedTo_5 (lv_at hl 3 rfl) ?_
    refine lv_aload_n hx hb dX0_stitchedTo_7 rfl (lv_at hl 0 rfl) ?_
    refine va_get (D := (dC, dI)) (ci := 0) (v := .int np) (C := RX0) (T := TX0) (N := 9) hx hb hts iwX0_stitchedTo_X0 hown hK hP 2 rfl rfl 2 (by decide) (hts _ fwX0_stitchedTo_15) (fun _ h9 => h9) rfl dX0_stitchedTo_8 ?_
    refine lv_icmp_ge (tgt := 59) hx hb dX0_stitchedTo_11 (by decide) (fun c2 => ?_) (fun c2 => ?_)
    · have h := h.1 c2
      exact hk59 v3 ls H locs h (lv_sub hl [2] rfl) hP hS
    · have h := h.2 c2
      refine lv_iload hx hb dX0_stitchedTo_14 (lv_at hl 3 rfl) ?_
      refine lv_iconst (v := 1) hx hb dX0_stitchedTo_16 (by decide) ?_
      refine lv_isub hx hb dX0_stitchedTo_17 ?_
      refine cl_pl (va_runSN (host := "MaskParts") (As := [.int ((v5 - 1))]) (rest := []) ⟨hx, hb, hml, hown, hts⟩ (ktX4_bit l H.size ((v5 - 1)) h) ⟨va_cnB 1 hts gX0_stitchedTo_X4_bit_n89 rfl rfl rfl hN.1 (hts _ nwX0_stitchedTo_i) (by decide +kernel) ⟨Nat.le_of_ble_eq_true rfl, Nat.le_of_ble_eq_true rfl⟩, hts _ nwX0_stitchedTo_s, trivial⟩ ⟨pz.blind, fun U hU _ => ⟨rfl, pz.at hU⟩⟩ rfl rfl hl.1 rfl (lv_room (Nat.le_of_ble_eq_true rfl)) dX0_stitchedTo_18 ⟨Nat.le_of_ble_eq_true rfl, Nat.le_of_ble_eq_true rfl⟩) hP hS (fun r3 _ H locs h hP hS => ?_)
      refine lv_iload hx hb dX0_stitchedTo_21 (lv_at hl 3 rfl) ?_
      refine cl_pl (va_runSN (host := "MaskParts") (As := [.int v5]) (rest := [.long r3]) ⟨hx, hb, hml, hown, hts⟩ (ktX4_bit l H.size v5 h) ⟨va_cnB 1 hts gX0_stitchedTo_X4_bit_n89 rfl rfl rfl hN.1 (hts _ nwX0_stitchedTo_i) (by decide +kernel) ⟨Nat.le_of_ble_eq_true rfl, Nat.le_of_ble_eq_true rfl⟩, hts _ nwX0_stitchedTo_s, trivial⟩ ⟨pz.blind, fun U hU _ => ⟨rfl, pz.at hU⟩⟩ rfl rfl hl.1 rfl (lv_room (Nat.le_of_ble_eq_true rfl)) dX0_stitchedTo_23 ⟨Nat.le_of_ble_eq_true rfl, Nat.le_of_ble_eq_true rfl⟩) hP hS (fun r5 _ H locs h hP hS => ?_)
      refine lv_lor hx hb dX0_stitchedTo_26 ?_
      refine lv_topl (fun j7 ej7 => ?_)
      have h := h j7 ej7
      refine lv_lstore (lv' := [(6, .long j7), (0, .ref (q 2)), (1, .long v1), (3, .long v3), (5, .int v5)]) hx hb dX0_stitchedTo_27 hl (by decide) rfl (fun ls hl => ?_)
      refine lv_aload_n hx hb dX0_stitchedTo_29 rfl (lv_at hl 1 rfl) ?_
      refine va_get (D := (dC, dI)) (ci := 0) (v := .ref (q 14)) (C := RX0) (T := TX0) (N := 9) hx hb hts iwX0_stitchedTo_X0 hown hK hP 2 rfl rfl 7 (by decide) (hts _ fwX0_stitchedTo_33) (fun _ h9 => h9) rfl dX0_stitchedTo_30 ?_
      refine lv_iload hx hb dX0_stitchedTo_33 (lv_at hl 4 rfl) ?_
      obtain ⟨b8, h⟩ := h
      refine va_zald (D := (dC, dI)) hx hb hK hP 14 2 rfl rfl b8 dX0_stitchedTo_35 ?_
      refine lv_if_eq (tgt := 53) hx hb dX0_stitchedTo_36 (by decide) (fun c9 => ?_) (fun c9 => ?_)
      · have h := h.1 c9
        exact mX0_stitchedTo_53 pg ps nf np nq ns po pt rf rl bx xl xr yl yh ms wt pf nr sl cl hu uu pd ro rc C hK ha hN (fun v1 v3 v5 ls H locs h hl hP hS => ih v1 v3 v5 ls H locs h hl hP hS) v1 v3 v5 ls H locs h (lv_sub hl [1, 2, 3, 4] rfl) hP hS
      · have h := h.2 c9
        refine lv_lload_n hx hb dX0_stitchedTo_39 rfl (lv_at hl 2 rfl) ?_
        refine lv_lload hx hb dX0_stitchedTo_40 (lv_at hl 0 rfl) ?_
        refine lv_land hx hb dX0_stitchedTo_42 ?_
        refine lv_lconst (v := 0) hx hb dX0_stitchedTo_43 (by decide) ?_
        refine W.lcmp hx hb dX0_stitchedTo_44 ?_
        refine lv_if_eq (tgt := 53) hx hb dX0_stitchedTo_45 (by decide) (fun c10 => ?_) (fun c10 => ?_)
        · have h := h.1 c10
          exact mX0_stitchedTo_53 pg ps nf np nq ns po pt rf rl bx xl xr yl yh ms wt pf nr sl cl hu uu pd ro rc C hK ha hN (fun v1 v3 v5 ls H locs h hl hP hS => ih v1 v3 v5 ls H locs h hl hP hS) v1 v3 v5 ls H locs h (lv_sub hl [1, 2, 3, 4] rfl) hP hS
        · have h := h.2 c10
          refine lv_lload_n hx hb dX0_stitchedTo_48 rfl (lv_at hl 3 rfl) ?_
          refine lv_lload hx hb dX0_stitchedTo_49 (lv_at hl 0 rfl) ?_
          refine lv_lor hx hb dX0_stitchedTo_51 ?_
          refine lv_topl (fun j11 ej11 => ?_)
          have h := h j11 ej11
          refine lv_lstore_n (lv' := [(3, .long j11), (6, .long j7), (0, .ref (q 2)), (1, .long v1), (5, .int v5)]) hx hb dX0_stitchedTo_52 rfl hl (by decide) rfl (fun ls hl => ?_)
          exact mX0_stitchedTo_53 pg ps nf np nq ns po pt rf rl bx xl xr yl yh ms wt pf nr sl cl hu uu pd ro rc C hK ha hN (fun v1 v3 v5 ls H locs h hl hP hS => ih v1 v3 v5 ls H locs h hl hP hS) v1 j11 v5 ls H locs h (lv_sub hl [2, 3, 0, 4] rfl) hP hS
def wX0_stitchedTo (np : Int32) (sl : (Nat → Int32)) (v1 : Int64) (K : Int64 → Prop) : Prop := (∃ z5, lpX0_stitchedTo_5 np sl K (fun (v3 : Int64) => K v3 ) z5 v1 0 1)
set_option maxHeartbeats 4000000 in
set_option maxRecDepth 100000 in
theorem ktX0_stitchedTo (l : Launch) (dC : Nat → ClassId) (dI : Nat → Nat → Nat) (q : Nat → Nat) (cI cJ cZ : ClassId) (sz : Nat) (pg : Int32) (ps : Int32) (nf : Int32) (np : Int32) (nq : Int32) (ns : Int32) (po : Int32) (pt : Int32) (rf : Int32) (rl : Int32) (bx : (Nat → Int32)) (xl : (Nat → Int32)) (xr : (Nat → Int32)) (yl : (Nat → Int32)) (yh : (Nat → Int32)) (ms : (Nat → Int32)) (wt : (Nat → Int32)) (pf : (Nat → Int32)) (nr : (Nat → Int64)) (sl : (Nat → Int32)) (cl : (Nat → Int32)) (hu : (Nat → Int32)) (uu : (Nat → Int32)) (pd : (Nat → Int64)) (ro : (Nat → Int32)) (rc : (Nat → Int64)) (v1 : Int64) {K : Int64 → Prop} (h : wX0_stitchedTo np sl v1 K) : Met l yX0_stitchedTo wsX0_stitchedTo { frames := 1, cells := 0, slots := 0, locals := 20 } (va_Pc [.ref (q 2), .long v1] (wd dC dI cI cJ cZ q 21 sz (WC q cI cJ cZ pg ps nf np nq ns po pt rf rl bx xl xr yl yh ms wt pf nr sl cl hu uu pd ro rc))) (QX0_stitchedTo dC dI cI cJ cZ q sz pg ps nf np nq ns po pt rf rl bx xl xr yl yh ms wt pf nr sl cl hu uu pd ro rc K) 0 0 (AF q 21 sz) := by
  refine met_of [.ref (q 2), .long v1] (by decide +kernel) rfl (Nat.le_of_ble_eq_true rfl) ?_
  intro p e s m below meth c ls hsz C hK ha hN hl hP
  subst hsz
  obtain ⟨hx, hb, hr, hml, hown, hts, hlk⟩ := id C
  have hl : lv_has ls 8 [(0, .ref (q 2)), (1, .long v1)] := hl
  refine w_go (Pw := fun H => va_P (dC, dI) vwCl (WC q cI cJ cZ pg ps nf np nq ns po pt rf rl bx xl xr yl yh ms wt pf nr sl cl hu uu pd ro rc) H) (A := AF q 21 s.heap.size) (fun H locs hP hS => ?_) hP
  unfold wX0_stitchedTo at h
  refine lv_lconst (v := 0) hx hb dX0_stitchedTo_0 (by decide) ?_
  refine lv_lstore_n (lv' := [(3, .long 0), (0, .ref (q 2)), (1, .long v1)]) hx hb dX0_stitchedTo_1 rfl hl (by decide) rfl (fun ls hl => ?_)
  refine lv_iconst (v := 1) hx hb dX0_stitchedTo_2 (by decide) ?_
  refine lv_istore (lv' := [(5, .int 1), (3, .long 0), (0, .ref (q 2)), (1, .long v1)]) hx hb dX0_stitchedTo_3 hl (by decide) rfl (fun ls hl => ?_)
  obtain ⟨n9, h⟩ := h
  exact mX0_stitchedTo_5 pg ps nf np nq ns po pt rf rl bx xl xr yl yh ms wt pf nr sl cl hu uu pd ro rc C hK ha hN (fun v3 ls H locs h hl hP hS => by
      refine lv_lload_n hx hb dX0_stitchedTo_59 rfl (lv_at hl 0 rfl) ?_
      exact rt_l () hx hb hr hlk h (fun t ht => by rw [ht]; exact hP) hS dX0_stitchedTo_60) n9 v1 0 1 ls H locs h (lv_sub hl [2, 3, 1, 0] rfl) hP hS

theorem fwX0_groupOf_15 : Cond.fieldLink RX0 15 "MaskParts$Net" "parts" "I" ∈ wsX0_groupOf := by decide +kernel
set_option maxRecDepth 20000 in
theorem iwX0_groupOf_X0 : ∀ w ∈ wsX00, w ∈ wsX0_groupOf := by decide +kernel
theorem nwX0_groupOf_i : Cond.initialized RX4 ∈ wsX0_groupOf := by decide +kernel
theorem nwX0_groupOf_s : Cond.static yX4_bit ∈ wsX0_groupOf := by decide +kernel
abbrev QX0_groupOf (dC : Nat → ClassId) (dI : Nat → Nat → Nat) (cI cJ cZ : ClassId) (q : Nat → Nat) (sz : Nat) (pg : Int32) (ps : Int32) (nf : Int32) (np : Int32) (nq : Int32) (ns : Int32) (po : Int32) (pt : Int32) (rf : Int32) (rl : Int32) (bx : (Nat → Int32)) (xl : (Nat → Int32)) (xr : (Nat → Int32)) (yl : (Nat → Int32)) (yh : (Nat → Int32)) (ms : (Nat → Int32)) (wt : (Nat → Int32)) (pf : (Nat → Int32)) (nr : (Nat → Int64)) (sl : (Nat → Int32)) (cl : (Nat → Int32)) (hu : (Nat → Int32)) (uu : (Nat → Int32)) (pd : (Nat → Int64)) (ro : (Nat → Int32)) (rc : (Nat → Int64)) (K : Int64 → Prop) : Array Value → State → Outcome → State → Prop := va_Ql (fun (r : Int64) (u : Unit) => K r) (fun (u : Unit) t => va_P (dC, dI) vwCl (WC q cI cJ cZ pg ps nf np nq ns po pt rf rl bx xl xr yl yh ms wt pf nr sl cl hu uu pd ro rc) t.heap) (AF q 21 sz)
def lpX0_groupOf_11 (np : Int32) (nr : (Nat → Int64)) (sl : (Nat → Int32)) (K : Int64 → Prop) (k50 : Int64 → Prop) : Nat → Int64 → Int64 → Int32 → Prop
  | 0, _, _, _ => False
  | n + 1, v2, v4, v6 => ((np ≤ v6 → k50 v2) ∧ (¬ (np ≤ v6) → (((lg_cmp v2 v4) = 0 → k50 v2) ∧ (¬ ((lg_cmp v2 v4) = 0) → (wX0_nearTo np nr v2 (fun (r3 : Int64) => (wX0_stitchedTo np sl v2 (fun (r5 : Int64) => (∀ j7 : Int64, j7 = (v2 ||| (r3 ||| r5)) → (∀ i8 : Int32, i8 = v6 + 1 → lpX0_groupOf_11 np nr sl K k50 n j7 v2 i8))))))))))
set_option maxHeartbeats 4000000 in
set_option maxRecDepth 100000 in
theorem mX0_groupOf_11 {p : Program} {l : Launch} {e : Env} {s : State} {m : MethodId} {av : Array Value} {below : List Frame} {meth : Method} {c : Code} {dC : Nat → ClassId} {dI : Nat → Nat → Nat} {cI cJ cZ : ClassId} {q : Nat → Nat} {K : Int64 → Prop} {k50 : Int64 → Prop} (pg : Int32) (ps : Int32) (nf : Int32) (np : Int32) (nq : Int32) (ns : Int32) (po : Int32) (pt : Int32) (rf : Int32) (rl : Int32) (bx : (Nat → Int32)) (xl : (Nat → Int32)) (xr : (Nat → Int32)) (yl : (Nat → Int32)) (yh : (Nat → Int32)) (ms : (Nat → Int32)) (wt : (Nat → Int32)) (pf : (Nat → Int32)) (nr : (Nat → Int64)) (sl : (Nat → Int32)) (cl : (Nat → Int32)) (hu : (Nat → Int32)) (uu : (Nat → Int32)) (pd : (Nat → Int64)) (ro : (Nat → Int32)) (rc : (Nat → Int64)) (C : CX p s m av meth c cX0_groupOf 7 (some .long) RX0 wsX0_groupOf) (hK : va_K (dC, dI) vwCl (TY cI cJ cZ) s) (ha : apart q 21) (hN : NX s) (hk50 : ∀ (v2 : Int64) (ls : Array Slot) (H : Heap) (locs : List Loc), k50 v2 → lv_has ls 7 [(2, .long v2)] → va_P (dC, dI) vwCl (WC q cI cJ cZ pg ps nf np nq ns po pt rf rl bx xl xr yl yh ms wt pf nr sl cl hu uu pd ro rc) H → va_S (AF q 21 s.heap.size) s.heap H locs → W p l e { frames := 2, cells := 0, slots := 0, locals := 47 } s m av below meth c H locs 0 0 (MQ below (QX0_groupOf dC dI cI cJ cZ q s.heap.size pg ps nf np nq ns po pt rf rl bx xl xr yl yh ms wt pf nr sl cl hu uu pd ro rc K) av s 0 0 (AF q 21 s.heap.size)) (F0 m 50 ls [])) : ∀ (n : Nat) (v2 : Int64) (v4 : Int64) (v6 : Int32) (ls : Array Slot) (H : Heap) (locs : List Loc), lpX0_groupOf_11 np nr sl K k50 n v2 v4 v6 → lv_has ls 7 [(0, .ref (q 2)), (2, .long v2), (4, .long v4), (6, .int v6)] → va_P (dC, dI) vwCl (WC q cI cJ cZ pg ps nf np nq ns po pt rf rl bx xl xr yl yh ms wt pf nr sl cl hu uu pd ro rc) H → va_S (AF q 21 s.heap.size) s.heap H locs → W p l e { frames := 2, cells := 0, slots := 0, locals := 47 } s m av below meth c H locs 0 0 (MQ below (QX0_groupOf dC dI cI cJ cZ q s.heap.size pg ps nf np nq ns po pt rf rl bx xl xr yl yh ms wt pf nr sl cl hu uu pd ro rc K) av s 0 0 (AF q 21 s.heap.size)) (F0 m 11 ls []) := by
  obtain ⟨hx, hb, hr, hml, hown, hts, hlk⟩ := id C
  intro n
  induction n with
  | zero =>
    intro v2 v4 v6 ls H locs h
    exact h.elim
  | succ n ih =>
    intro v2 v4 v6 ls H locs h hl hP hS
    rw [lpX0_groupOf_11.eq_2] at h
    refine lv_iload hx hb dX0_groupOf_11 (lv_at hl 3 rfl) ?_
    refine lv_aload_n hx hb dX0_groupOf_13 rfl (lv_at hl 0 rfl) ?_
    refine va_get (D := (dC, dI)) (ci := 0) (v := .int np) (C := RX0) (T := TX0) (N := 9) hx hb hts iwX0_groupOf_X0 hown hK hP 2 rfl rfl 2 (by decide) (hts _ fwX0_groupOf_15) (fun _ h9 => h9) rfl dX0_groupOf_14 ?_
    refine lv_icmp_ge (tgt := 50) hx hb dX0_groupOf_17 (by decide) (fun c1 => ?_) (fun c1 => ?_)
    · have h := h.1 c1
      exact hk50 v2 ls H locs h (lv_sub hl [1] rfl) hP hS
    · have h := h.2 c1
      refine lv_lload_n hx hb dX0_groupOf_20 rfl (lv_at hl 1 rfl) ?_
      refine lv_lload hx hb dX0_groupOf_21 (lv_at hl 2 rfl) ?_
      refine W.lcmp hx hb dX0_groupOf_23 ?_
      refine lv_if_eq (tgt := 50) hx hb dX0_groupOf_24 (by decide) (fun c2 => ?_) (fun c2 => ?_)
      · have h := h.1 c2
        exact hk50 v2 ls H locs h (lv_sub hl [1] rfl) hP hS
      · have h := h.2 c2
        refine lv_lload_n hx hb dX0_groupOf_27 rfl (lv_at hl 1 rfl) ?_
        refine lv_lstore (lv' := [(4, .long v2), (0, .ref (q 2)), (2, .long v2), (6, .int v6)]) hx hb dX0_groupOf_28 hl (by decide) rfl (fun ls hl => ?_)
        refine lv_lload_n hx hb dX0_groupOf_30 rfl (lv_at hl 2 rfl) ?_
        refine lv_aload_n hx hb dX0_groupOf_31 rfl (lv_at hl 1 rfl) ?_
        refine lv_lload_n hx hb dX0_groupOf_32 rfl (lv_at hl 2 rfl) ?_
        refine cl_l (va_runV (As := [.long v2]) (rest := [.long v2]) ⟨hx, hb, hml, hown, hts⟩ (ktX0_nearTo l dC dI q cI cJ cZ H.size pg ps nf np nq ns po pt rf rl bx xl xr yl yh ms wt pf nr sl cl hu uu pd ro rc v2 h) (cwV 1 hts gX0_groupOf_X0_nearTo rfl rfl rfl (by decide +kernel) ⟨Nat.le_of_ble_eq_true rfl, Nat.le_of_ble_eq_true rfl⟩) ⟨wd.blind, va_recv hK hP (ci := 0) (q0 := 2) rfl rfl, fun U hU hW => ⟨rfl, wd.at hP hK ha hN hU hW⟩⟩ rfl rfl hl.1 rfl (lv_room (Nat.le_of_ble_eq_true rfl)) dX0_groupOf_33 ⟨Nat.le_of_ble_eq_true rfl, Nat.le_of_ble_eq_true rfl⟩) hS (fun r3 _ H locs h hP hS => ?_)
        have hP : va_P (dC, dI) vwCl (WC q cI cJ cZ pg ps nf np nq ns po pt rf rl bx xl xr yl yh ms wt pf nr sl cl hu uu pd ro rc) H := hP
        refine lv_aload_n hx hb dX0_groupOf_36 rfl (lv_at hl 1 rfl) ?_
        refine lv_lload_n hx hb dX0_groupOf_37 rfl (lv_at hl 2 rfl) ?_
        refine cl_l (va_runV (As := [.long v2]) (rest := [.long r3, .long v2]) ⟨hx, hb, hml, hown, hts⟩ (ktX0_stitchedTo l dC dI q cI cJ cZ H.size pg ps nf np nq ns po pt rf rl bx xl xr yl yh ms wt pf nr sl cl hu uu pd ro rc v2 h) (cwV 1 hts gX0_groupOf_X0_stitchedTo rfl rfl rfl (by decide +kernel) ⟨Nat.le_of_ble_eq_true rfl, Nat.le_of_ble_eq_true rfl⟩) ⟨wd.blind, va_recv hK hP (ci := 0) (q0 := 2) rfl rfl, fun U hU hW => ⟨rfl, wd.at hP hK ha hN hU hW⟩⟩ rfl rfl hl.1 rfl (lv_room (Nat.le_of_ble_eq_true rfl)) dX0_groupOf_38 ⟨Nat.le_of_ble_eq_true rfl, Nat.le_of_ble_eq_true rfl⟩) hS (fun r5 _ H locs h hP hS => ?_)
        have hP : va_P (dC, dI) vwCl (WC q cI cJ cZ pg ps nf np nq ns po pt rf rl bx xl xr yl yh ms wt pf nr sl cl hu uu pd ro rc) H := hP
        refine lv_lor hx hb dX0_groupOf_41 ?_
        refine lv_lor hx hb dX0_groupOf_42 ?_
        refine lv_topl (fun j7 ej7 => ?_)
        have h := h j7 ej7
        refine lv_lstore_n (lv' := [(2, .long j7), (4, .long v2), (0, .ref (q 2)), (6, .int v6)]) hx hb dX0_groupOf_43 rfl hl (by decide) rfl (fun ls hl => ?_)
        obtain ⟨i8, ei8⟩ : ∃ y : Int32, y = v6 + 1 := ⟨_, rfl⟩
        refine lv_iinc (v := i8) (lv' := [(6, .int i8), (2, .long j7), (4, .long v2), (0, .ref (q 2))]) hx hb dX0_groupOf_44 hl (k := 3) rfl (by rw [ei8]; rfl) (by decide) rfl (fun ls hl => ?_)
        have h := h i8 ei8
        refine lv_goto (tgt := 11) hx hb dX0_groupOf_47 (by decide) ?_
        exact ih j7 v2 i8 ls H locs h (lv_sub hl [3, 1, 2, 0] rfl) hP hS
def wX0_groupOf (np : Int32) (nr : (Nat → Int64)) (sl : (Nat → Int32)) (v1 : Int32) (K : Int64 → Prop) : Prop := (wX4_bit v1 (fun r9 : Int64 => (∃ z11, lpX0_groupOf_11 np nr sl K (fun (v2 : Int64) => K v2 ) z11 r9 0 0)))
set_option maxHeartbeats 4000000 in
set_option maxRecDepth 100000 in
theorem ktX0_groupOf (l : Launch) (dC : Nat → ClassId) (dI : Nat → Nat → Nat) (q : Nat → Nat) (cI cJ cZ : ClassId) (sz : Nat) (pg : Int32) (ps : Int32) (nf : Int32) (np : Int32) (nq : Int32) (ns : Int32) (po : Int32) (pt : Int32) (rf : Int32) (rl : Int32) (bx : (Nat → Int32)) (xl : (Nat → Int32)) (xr : (Nat → Int32)) (yl : (Nat → Int32)) (yh : (Nat → Int32)) (ms : (Nat → Int32)) (wt : (Nat → Int32)) (pf : (Nat → Int32)) (nr : (Nat → Int64)) (sl : (Nat → Int32)) (cl : (Nat → Int32)) (hu : (Nat → Int32)) (uu : (Nat → Int32)) (pd : (Nat → Int64)) (ro : (Nat → Int32)) (rc : (Nat → Int64)) (v1 : Int32) {K : Int64 → Prop} (h : wX0_groupOf np nr sl v1 K) : Met l yX0_groupOf wsX0_groupOf { frames := 2, cells := 0, slots := 0, locals := 47 } (va_Pc [.ref (q 2), .int v1] (wd dC dI cI cJ cZ q 21 sz (WC q cI cJ cZ pg ps nf np nq ns po pt rf rl bx xl xr yl yh ms wt pf nr sl cl hu uu pd ro rc))) (QX0_groupOf dC dI cI cJ cZ q sz pg ps nf np nq ns po pt rf rl bx xl xr yl yh ms wt pf nr sl cl hu uu pd ro rc K) 0 0 (AF q 21 sz) := by
  refine met_of [.ref (q 2), .int v1] (by decide +kernel) rfl (Nat.le_of_ble_eq_true rfl) ?_
  intro p e s m below meth c ls hsz C hK ha hN hl hP
  subst hsz
  obtain ⟨hx, hb, hr, hml, hown, hts, hlk⟩ := id C
  have hl : lv_has ls 7 [(0, .ref (q 2)), (1, .int v1)] := hl
  refine w_go (Pw := fun H => va_P (dC, dI) vwCl (WC q cI cJ cZ pg ps nf np nq ns po pt rf rl bx xl xr yl yh ms wt pf nr sl cl hu uu pd ro rc) H) (A := AF q 21 s.heap.size) (fun H locs hP hS => ?_) hP
  unfold wX0_groupOf at h
  refine lv_iload_n hx hb dX0_groupOf_0 rfl (lv_at hl 1 rfl) ?_
  refine cl_pl (va_runSN (host := "MaskParts") (As := [.int v1]) (rest := []) ⟨hx, hb, hml, hown, hts⟩ (ktX4_bit l H.size v1 h) ⟨va_cnB 1 hts gX0_groupOf_X4_bit_n89 rfl rfl rfl hN.1 (hts _ nwX0_groupOf_i) (by decide +kernel) ⟨Nat.le_of_ble_eq_true rfl, Nat.le_of_ble_eq_true rfl⟩, hts _ nwX0_groupOf_s, trivial⟩ ⟨pz.blind, fun U hU _ => ⟨rfl, pz.at hU⟩⟩ rfl rfl hl.1 rfl (lv_room (Nat.le_of_ble_eq_true rfl)) dX0_groupOf_1 ⟨Nat.le_of_ble_eq_true rfl, Nat.le_of_ble_eq_true rfl⟩) hP hS (fun r9 _ H locs h hP hS => ?_)
  refine lv_lstore_n (lv' := [(2, .long r9), (0, .ref (q 2)), (1, .int v1)]) hx hb dX0_groupOf_4 rfl hl (by decide) rfl (fun ls hl => ?_)
  refine lv_lconst (v := 0) hx hb dX0_groupOf_5 (by decide) ?_
  refine lv_lstore (lv' := [(4, .long 0), (2, .long r9), (0, .ref (q 2)), (1, .int v1)]) hx hb dX0_groupOf_6 hl (by decide) rfl (fun ls hl => ?_)
  refine lv_iconst (v := 0) hx hb dX0_groupOf_8 (by decide) ?_
  refine lv_istore (lv' := [(6, .int 0), (4, .long 0), (2, .long r9), (0, .ref (q 2)), (1, .int v1)]) hx hb dX0_groupOf_9 hl (by decide) rfl (fun ls hl => ?_)
  obtain ⟨n9, h⟩ := h
  exact mX0_groupOf_11 pg ps nf np nq ns po pt rf rl bx xl xr yl yh ms wt pf nr sl cl hu uu pd ro rc C hK ha hN (fun v2 ls H locs h hl hP hS => by
      refine lv_lload_n hx hb dX0_groupOf_50 rfl (lv_at hl 0 rfl) ?_
      exact rt_l () hx hb hr hlk h (fun t ht => by rw [ht]; exact hP) hS dX0_groupOf_51) n9 r9 0 0 ls H locs h (lv_sub hl [3, 2, 1, 0] rfl) hP hS

theorem fwX0_countGroups_15 : Cond.fieldLink RX0 15 "MaskParts$Net" "parts" "I" ∈ wsX0_countGroups := by decide +kernel
set_option maxRecDepth 20000 in
theorem iwX0_countGroups_X0 : ∀ w ∈ wsX00, w ∈ wsX0_countGroups := by decide +kernel
theorem nwX0_countGroups_i : Cond.initialized RX4 ∈ wsX0_countGroups := by decide +kernel
theorem nwX0_countGroups_s : Cond.static yX4_bit ∈ wsX0_countGroups := by decide +kernel
abbrev QX0_countGroups (dC : Nat → ClassId) (dI : Nat → Nat → Nat) (cI cJ cZ : ClassId) (q : Nat → Nat) (sz : Nat) (pg : Int32) (ps : Int32) (nf : Int32) (np : Int32) (nq : Int32) (ns : Int32) (po : Int32) (pt : Int32) (rf : Int32) (rl : Int32) (bx : (Nat → Int32)) (xl : (Nat → Int32)) (xr : (Nat → Int32)) (yl : (Nat → Int32)) (yh : (Nat → Int32)) (ms : (Nat → Int32)) (wt : (Nat → Int32)) (pf : (Nat → Int32)) (nr : (Nat → Int64)) (sl : (Nat → Int32)) (cl : (Nat → Int32)) (hu : (Nat → Int32)) (uu : (Nat → Int32)) (pd : (Nat → Int64)) (ro : (Nat → Int32)) (rc : (Nat → Int64)) (K : Int32 → Prop) : Array Value → State → Outcome → State → Prop := va_Qi (fun (r : Int32) (u : Unit) => K r) (fun (u : Unit) t => va_P (dC, dI) vwCl (WC q cI cJ cZ pg ps nf np nq ns po pt rf rl bx xl xr yl yh ms wt pf nr sl cl hu uu pd ro rc) t.heap) (AF q 21 sz)
def bkX0_countGroups_40 (np : Int32) (nr : (Nat → Int64)) (sl : (Nat → Int32)) (K : Int32 → Prop) (k7 : Int32 → Int64 → Int32 → Prop) (v1 : Int32) (v2 : Int64) (v4 : Int32) : Prop := (∀ i1 : Int32, i1 = v4 + 1 → k7 v1 v2 i1)
set_option maxHeartbeats 4000000 in
set_option maxRecDepth 100000 in
theorem mX0_countGroups_40 {p : Program} {l : Launch} {e : Env} {s : State} {m : MethodId} {av : Array Value} {below : List Frame} {meth : Method} {c : Code} {dC : Nat → ClassId} {dI : Nat → Nat → Nat} {cI cJ cZ : ClassId} {q : Nat → Nat} {K : Int32 → Prop} {k7 : Int32 → Int64 → Int32 → Prop} (pg : Int32) (ps : Int32) (nf : Int32) (np : Int32) (nq : Int32) (ns : Int32) (po : Int32) (pt : Int32) (rf : Int32) (rl : Int32) (bx : (Nat → Int32)) (xl : (Nat → Int32)) (xr : (Nat → Int32)) (yl : (Nat → Int32)) (yh : (Nat → Int32)) (ms : (Nat → Int32)) (wt : (Nat → Int32)) (pf : (Nat → Int32)) (nr : (Nat → Int64)) (sl : (Nat → Int32)) (cl : (Nat → Int32)) (hu : (Nat → Int32)) (uu : (Nat → Int32)) (pd : (Nat → Int64)) (ro : (Nat → Int32)) (rc : (Nat → Int64)) (C : CX p s m av meth c cX0_countGroups 5 (some .int) RX0 wsX0_countGroups) (hK : va_K (dC, dI) vwCl (TY cI cJ cZ) s) (ha : apart q 21) (hN : NX s) (hk7 : ∀ (v1 : Int32) (v2 : Int64) (v4 : Int32) (ls : Array Slot) (H : Heap) (locs : List Loc), k7 v1 v2 v4 → lv_has ls 5 [(0, .ref (q 2)), (1, .int v1), (2, .long v2), (4, .int v4)] → va_P (dC, dI) vwCl (WC q cI cJ cZ pg ps nf np nq ns po pt rf rl bx xl xr yl yh ms wt pf nr sl cl hu uu pd ro rc) H → va_S (AF q 21 s.heap.size) s.heap H locs → W p l e { frames := 3, cells := 0, slots := 0, locals := 73 } s m av below meth c H locs 0 0 (MQ below (QX0_countGroups dC dI cI cJ cZ q s.heap.size pg ps nf np nq ns po pt rf rl bx xl xr yl yh ms wt pf nr sl cl hu uu pd ro rc K) av s 0 0 (AF q 21 s.heap.size)) (F0 m 7 ls [])) : ∀ (v1 : Int32) (v2 : Int64) (v4 : Int32) (ls : Array Slot) (H : Heap) (locs : List Loc), bkX0_countGroups_40 np nr sl K k7 v1 v2 v4 → lv_has ls 5 [(0, .ref (q 2)), (1, .int v1), (2, .long v2), (4, .int v4)] → va_P (dC, dI) vwCl (WC q cI cJ cZ pg ps nf np nq ns po pt rf rl bx xl xr yl yh ms wt pf nr sl cl hu uu pd ro rc) H → va_S (AF q 21 s.heap.size) s.heap H locs → W p l e { frames := 3, cells := 0, slots := 0, locals := 73 } s m av below meth c H locs 0 0 (MQ below (QX0_countGroups dC dI cI cJ cZ q s.heap.size pg ps nf np nq ns po pt rf rl bx xl xr yl yh ms wt pf nr sl cl hu uu pd ro rc K) av s 0 0 (AF q 21 s.heap.size)) (F0 m 40 ls []) := by
  obtain ⟨hx, hb, hr, hml, hown, hts, hlk⟩ := id C
  intro v1 v2 v4 ls H locs h hl hP hS
  unfold bkX0_countGroups_40 at h
  obtain ⟨i1, ei1⟩ : ∃ y : Int32, y = v4 + 1 := ⟨_, rfl⟩
  refine lv_iinc (v := i1) (lv' := [(4, .int i1), (0, .ref (q 2)), (1, .int v1), (2, .long v2)]) hx hb dX0_countGroups_40 hl (k := 3) rfl (by rw [ei1]; rfl) (by decide) rfl (fun ls hl => ?_)
  have h := h i1 ei1
  refine lv_goto (tgt := 7) hx hb dX0_countGroups_43 (by decide) ?_
  exact hk7 v1 v2 i1 ls H locs h (lv_sub hl [1, 2, 3, 0] rfl) hP hS
def lpX0_countGroups_7 (np : Int32) (nr : (Nat → Int64)) (sl : (Nat → Int32)) (K : Int32 → Prop) (k46 : Int32 → Prop) : Nat → Int32 → Int64 → Int32 → Prop
  | 0, _, _, _ => False
  | n + 1, v1, v2, v4 => ((np ≤ v4 → k46 v1) ∧ (¬ (np ≤ v4) → (wX4_bit v4 (fun r3 : Int64 => ((¬ (lg_cmp ((v2 &&& r3)) 0) = 0 → bkX0_countGroups_40 np nr sl K (fun v1 v2 v4 => lpX0_countGroups_7 np nr sl K k46 n v1 v2 v4) v1 v2 v4) ∧ ((lg_cmp ((v2 &&& r3)) 0) = 0 → (wX0_groupOf np nr sl v4 (fun (r6 : Int64) => (∀ j8 : Int64, j8 = (v2 ||| r6) → (∀ i9 : Int32, i9 = v1 + 1 → bkX0_countGroups_40 np nr sl K (fun v1 v2 v4 => lpX0_countGroups_7 np nr sl K k46 n v1 v2 v4) i9 j8 v4))))))))))
set_option maxHeartbeats 4000000 in
set_option maxRecDepth 100000 in
theorem mX0_countGroups_7 {p : Program} {l : Launch} {e : Env} {s : State} {m : MethodId} {av : Array Value} {below : List Frame} {meth : Method} {c : Code} {dC : Nat → ClassId} {dI : Nat → Nat → Nat} {cI cJ cZ : ClassId} {q : Nat → Nat} {K : Int32 → Prop} {k46 : Int32 → Prop} (pg : Int32) (ps : Int32) (nf : Int32) (np : Int32) (nq : Int32) (ns : Int32) (po : Int32) (pt : Int32) (rf : Int32) (rl : Int32) (bx : (Nat → Int32)) (xl : (Nat → Int32)) (xr : (Nat → Int32)) (yl : (Nat → Int32)) (yh : (Nat → Int32)) (ms : (Nat → Int32)) (wt : (Nat → Int32)) (pf : (Nat → Int32)) (nr : (Nat → Int64)) (sl : (Nat → Int32)) (cl : (Nat → Int32)) (hu : (Nat → Int32)) (uu : (Nat → Int32)) (pd : (Nat → Int64)) (ro : (Nat → Int32)) (rc : (Nat → Int64)) (C : CX p s m av meth c cX0_countGroups 5 (some .int) RX0 wsX0_countGroups) (hK : va_K (dC, dI) vwCl (TY cI cJ cZ) s) (ha : apart q 21) (hN : NX s) (hk46 : ∀ (v1 : Int32) (ls : Array Slot) (H : Heap) (locs : List Loc), k46 v1 → lv_has ls 5 [(1, .int v1)] → va_P (dC, dI) vwCl (WC q cI cJ cZ pg ps nf np nq ns po pt rf rl bx xl xr yl yh ms wt pf nr sl cl hu uu pd ro rc) H → va_S (AF q 21 s.heap.size) s.heap H locs → W p l e { frames := 3, cells := 0, slots := 0, locals := 73 } s m av below meth c H locs 0 0 (MQ below (QX0_countGroups dC dI cI cJ cZ q s.heap.size pg ps nf np nq ns po pt rf rl bx xl xr yl yh ms wt pf nr sl cl hu uu pd ro rc K) av s 0 0 (AF q 21 s.heap.size)) (F0 m 46 ls [])) : ∀ (n : Nat) (v1 : Int32) (v2 : Int64) (v4 : Int32) (ls : Array Slot) (H : Heap) (locs : List Loc), lpX0_countGroups_7 np nr sl K k46 n v1 v2 v4 → lv_has ls 5 [(0, .ref (q 2)), (1, .int v1), (2, .long v2), (4, .int v4)] → va_P (dC, dI) vwCl (WC q cI cJ cZ pg ps nf np nq ns po pt rf rl bx xl xr yl yh ms wt pf nr sl cl hu uu pd ro rc) H → va_S (AF q 21 s.heap.size) s.heap H locs → W p l e { frames := 3, cells := 0, slots := 0, locals := 73 } s m av below meth c H locs 0 0 (MQ below (QX0_countGroups dC dI cI cJ cZ q s.heap.size pg ps nf np nq ns po pt rf rl bx xl xr yl yh ms wt pf nr sl cl hu uu pd ro rc K) av s 0 0 (AF q 21 s.heap.size)) (F0 m 7 ls []) := by
  obtain ⟨hx, hb, hr, hml, hown, hts, hlk⟩ := id C
  intro n
  induction n with
  | zero =>
    intro v1 v2 v4 ls H locs h
    exact h.elim
  | succ n ih =>
    intro v1 v2 v4 ls H locs h hl hP hS
    rw [lpX0_countGroups_7.eq_2] at h
    refine lv_iload hx hb dX0_countGroups_7 (lv_at hl 3 rfl) ?_
    refine lv_aload_n hx hb dX0_countGroups_9 rfl (lv_at hl 0 rfl) ?_
    refine va_get (D := (dC, dI)) (ci := 0) (v := .int np) (C := RX0) (T := TX0) (N := 9) hx hb hts iwX0_countGroups_X0 hown hK hP 2 rfl rfl 2 (by decide) (hts _ fwX0_countGroups_15) (fun _ h9 => h9) rfl dX0_countGroups_10 ?_
    refine lv_icmp_ge (tgt := 46) hx hb dX0_countGroups_13 (by decide) (fun c2 => ?_) (fun c2 => ?_)
    · have h := h.1 c2
      exact hk46 v1 ls H locs h (lv_sub hl [1] rfl) hP hS
    · have h := h.2 c2
      refine lv_lload_n hx hb dX0_countGroups_16 rfl (lv_at hl 2 rfl) ?_
      refine lv_iload hx hb dX0_countGroups_17 (lv_at hl 3 rfl) ?_
      refine cl_pl (va_runSN (host := "MaskParts") (As := [.int v4]) (rest := [.long v2]) ⟨hx, hb, hml, hown, hts⟩ (ktX4_bit l H.size v4 h) ⟨va_cnB 1 hts gX0_countGroups_X4_bit_n89 rfl rfl rfl hN.1 (hts _ nwX0_countGroups_i) (by decide +kernel) ⟨Nat.le_of_ble_eq_true rfl, Nat.le_of_ble_eq_true rfl⟩, hts _ nwX0_countGroups_s, trivial⟩ ⟨pz.blind, fun U hU _ => ⟨rfl, pz.at hU⟩⟩ rfl rfl hl.1 rfl (lv_room (Nat.le_of_ble_eq_true rfl)) dX0_countGroups_19 ⟨Nat.le_of_ble_eq_true rfl, Nat.le_of_ble_eq_true rfl⟩) hP hS (fun r3 _ H locs h hP hS => ?_)
      refine lv_land hx hb dX0_countGroups_22 ?_
      refine lv_lconst (v := 0) hx hb dX0_countGroups_23 (by decide) ?_
      refine W.lcmp hx hb dX0_countGroups_24 ?_
      refine lv_if_ne (tgt := 40) hx hb dX0_countGroups_25 (by decide) (fun c5 => ?_) (fun c5 => ?_)
      · have h := h.1 c5
        exact mX0_countGroups_40 pg ps nf np nq ns po pt rf rl bx xl xr yl yh ms wt pf nr sl cl hu uu pd ro rc C hK ha hN (fun v1 v2 v4 ls H locs h hl hP hS => ih v1 v2 v4 ls H locs h hl hP hS) v1 v2 v4 ls H locs h (lv_sub hl [0, 1, 2, 3] rfl) hP hS
      · have h := h.2 c5
        refine lv_lload_n hx hb dX0_countGroups_28 rfl (lv_at hl 2 rfl) ?_
        refine lv_aload_n hx hb dX0_countGroups_29 rfl (lv_at hl 0 rfl) ?_
        refine lv_iload hx hb dX0_countGroups_30 (lv_at hl 3 rfl) ?_
        refine cl_l (va_runV (As := [.int v4]) (rest := [.long v2]) ⟨hx, hb, hml, hown, hts⟩ (ktX0_groupOf l dC dI q cI cJ cZ H.size pg ps nf np nq ns po pt rf rl bx xl xr yl yh ms wt pf nr sl cl hu uu pd ro rc v4 h) (cwV 1 hts gX0_countGroups_X0_groupOf rfl rfl rfl (by decide +kernel) ⟨Nat.le_of_ble_eq_true rfl, Nat.le_of_ble_eq_true rfl⟩) ⟨wd.blind, va_recv hK hP (ci := 0) (q0 := 2) rfl rfl, fun U hU hW => ⟨rfl, wd.at hP hK ha hN hU hW⟩⟩ rfl rfl hl.1 rfl (lv_room (Nat.le_of_ble_eq_true rfl)) dX0_countGroups_32 ⟨Nat.le_of_ble_eq_true rfl, Nat.le_of_ble_eq_true rfl⟩) hS (fun r6 _ H locs h hP hS => ?_)
        have hP : va_P (dC, dI) vwCl (WC q cI cJ cZ pg ps nf np nq ns po pt rf rl bx xl xr yl yh ms wt pf nr sl cl hu uu pd ro rc) H := hP
        refine lv_lor hx hb dX0_countGroups_35 ?_
        refine lv_topl (fun j8 ej8 => ?_)
        have h := h j8 ej8
        refine lv_lstore_n (lv' := [(2, .long j8), (0, .ref (q 2)), (1, .int v1), (4, .int v4)]) hx hb dX0_countGroups_36 rfl hl (by decide) rfl (fun ls hl => ?_)
        obtain ⟨i9, ei9⟩ : ∃ y : Int32, y = v1 + 1 := ⟨_, rfl⟩
        refine lv_iinc (v := i9) (lv' := [(1, .int i9), (2, .long j8), (0, .ref (q 2)), (4, .int v4)]) hx hb dX0_countGroups_37 hl (k := 2) rfl (by rw [ei9]; rfl) (by decide) rfl (fun ls hl => ?_)
        have h := h i9 ei9
        exact mX0_countGroups_40 pg ps nf np nq ns po pt rf rl bx xl xr yl yh ms wt pf nr sl cl hu uu pd ro rc C hK ha hN (fun v1 v2 v4 ls H locs h hl hP hS => ih v1 v2 v4 ls H locs h hl hP hS) i9 j8 v4 ls H locs h (lv_sub hl [2, 0, 1, 3] rfl) hP hS
def wX0_countGroups (np : Int32) (nr : (Nat → Int64)) (sl : (Nat → Int32))  (K : Int32 → Prop) : Prop := (∃ z7, lpX0_countGroups_7 np nr sl K (fun (v1 : Int32) => K v1 ) z7 0 0 0)
set_option maxHeartbeats 4000000 in
set_option maxRecDepth 100000 in
theorem ktX0_countGroups (l : Launch) (dC : Nat → ClassId) (dI : Nat → Nat → Nat) (q : Nat → Nat) (cI cJ cZ : ClassId) (sz : Nat) (pg : Int32) (ps : Int32) (nf : Int32) (np : Int32) (nq : Int32) (ns : Int32) (po : Int32) (pt : Int32) (rf : Int32) (rl : Int32) (bx : (Nat → Int32)) (xl : (Nat → Int32)) (xr : (Nat → Int32)) (yl : (Nat → Int32)) (yh : (Nat → Int32)) (ms : (Nat → Int32)) (wt : (Nat → Int32)) (pf : (Nat → Int32)) (nr : (Nat → Int64)) (sl : (Nat → Int32)) (cl : (Nat → Int32)) (hu : (Nat → Int32)) (uu : (Nat → Int32)) (pd : (Nat → Int64)) (ro : (Nat → Int32)) (rc : (Nat → Int64))  {K : Int32 → Prop} (h : wX0_countGroups np nr sl K) : Met l yX0_countGroups wsX0_countGroups { frames := 3, cells := 0, slots := 0, locals := 73 } (va_Pc [.ref (q 2)] (wd dC dI cI cJ cZ q 21 sz (WC q cI cJ cZ pg ps nf np nq ns po pt rf rl bx xl xr yl yh ms wt pf nr sl cl hu uu pd ro rc))) (QX0_countGroups dC dI cI cJ cZ q sz pg ps nf np nq ns po pt rf rl bx xl xr yl yh ms wt pf nr sl cl hu uu pd ro rc K) 0 0 (AF q 21 sz) := by
  refine met_of [.ref (q 2)] (by decide +kernel) rfl (Nat.le_of_ble_eq_true rfl) ?_
  intro p e s m below meth c ls hsz C hK ha hN hl hP
  subst hsz
  obtain ⟨hx, hb, hr, hml, hown, hts, hlk⟩ := id C
  have hl : lv_has ls 5 [(0, .ref (q 2))] := hl
  refine w_go (Pw := fun H => va_P (dC, dI) vwCl (WC q cI cJ cZ pg ps nf np nq ns po pt rf rl bx xl xr yl yh ms wt pf nr sl cl hu uu pd ro rc) H) (A := AF q 21 s.heap.size) (fun H locs hP hS => ?_) hP
  unfold wX0_countGroups at h
  refine lv_iconst (v := 0) hx hb dX0_countGroups_0 (by decide) ?_
  refine lv_istore_n (lv' := [(1, .int 0), (0, .ref (q 2))]) hx hb dX0_countGroups_1 rfl hl (by decide) rfl (fun ls hl => ?_)
  refine lv_lconst (v := 0) hx hb dX0_countGroups_2 (by decide) ?_
  refine lv_lstore_n (lv' := [(2, .long 0), (1, .int 0), (0, .ref (q 2))]) hx hb dX0_countGroups_3 rfl hl (by decide) rfl (fun ls hl => ?_)
  refine lv_iconst (v := 0) hx hb dX0_countGroups_4 (by decide) ?_
  refine lv_istore (lv' := [(4, .int 0), (2, .long 0), (1, .int 0), (0, .ref (q 2))]) hx hb dX0_countGroups_5 hl (by decide) rfl (fun ls hl => ?_)
  obtain ⟨n9, h⟩ := h
  exact mX0_countGroups_7 pg ps nf np nq ns po pt rf rl bx xl xr yl yh ms wt pf nr sl cl hu uu pd ro rc C hK ha hN (fun v1 ls H locs h hl hP hS => by
      refine lv_iload_n hx hb dX0_countGroups_46 rfl (lv_at hl 0 rfl) ?_
      exact rt_i () hx hb hr hlk h (fun t ht => by rw [ht]; exact hP) hS dX0_countGroups_47) n9 0 0 0 ls H locs h (lv_sub hl [3, 2, 1, 0] rfl) hP hS
