def wX2_slot  (v0 : Int32) (v1 : Int32) (K : Int32 → Prop) : Prop := K (((v0 * 4) + v1)) 
set_option maxHeartbeats 4000000 in
set_option maxRecDepth 100000 in
theorem ktX2_slot (l : Launch) (sz : Nat) (v0 : Int32) (v1 : Int32) {K : Int32 → Prop} (h : wX2_slot v0 v1 K) : Met l yX2_slot wsX2_slot { frames := 0, cells := 0, slots := 0, locals := 0 } (va_Pc [.int v0, .int v1] (pz sz)) (va_Qi (fun (r : Int32) (_ : Unit) => K r) (fun _ _ => True) (fun _ => False)) 0 0 (fun _ => False) := by
  refine met_pz [.int v0, .int v1] (by decide +kernel) rfl (Nat.le_of_ble_eq_true rfl) ?_
  intro p e s m below meth c ls C hl
  obtain ⟨hx, hb, hr, hml, hown, hts, hlk⟩ := id C
  have hl : lv_has ls 2 [(0, .int v0), (1, .int v1)] := hl
  refine w_go (Pw := fun _ => True) (A := fun _ => False) (fun H locs _ hS => ?_) trivial
  unfold wX2_slot at h
  refine lv_iload_n hx hb dX2_slot_0 rfl (lv_at hl 0 rfl) ?_
  refine lv_iconst (v := 4) hx hb dX2_slot_1 (by decide) ?_
  refine lv_imul hx hb dX2_slot_2 ?_
  refine lv_iload_n hx hb dX2_slot_3 rfl (lv_at hl 1 rfl) ?_
  refine lv_iadd hx hb dX2_slot_4 ?_
  exact rt_i () hx hb hr hlk h (fun _ _ => trivial) hS dX2_slot_5

theorem fwX2_hasShape_15 : Cond.fieldLink RX2 15 "MaskParts$Plan" "shapes" "I" ∈ wsX2_hasShape := by decide +kernel
set_option maxRecDepth 20000 in
theorem iwX2_hasShape_X2 : ∀ w ∈ wsX20, w ∈ wsX2_hasShape := by decide +kernel
abbrev QX2_hasShape (dC : Nat → ClassId) (dI : Nat → Nat → Nat) (cI cJ cZ : ClassId) (q : Nat → Nat) (sz : Nat) (pg : Int32) (ps : Int32) (nf : Int32) (np : Int32) (nq : Int32) (ns : Int32) (po : Int32) (pt : Int32) (rf : Int32) (rl : Int32) (bx : (Nat → Int32)) (xl : (Nat → Int32)) (xr : (Nat → Int32)) (yl : (Nat → Int32)) (yh : (Nat → Int32)) (ms : (Nat → Int32)) (wt : (Nat → Int32)) (pf : (Nat → Int32)) (nr : (Nat → Int64)) (sl : (Nat → Int32)) (cl : (Nat → Int32)) (hu : (Nat → Int32)) (uu : (Nat → Int32)) (pd : (Nat → Int64)) (ro : (Nat → Int32)) (rc : (Nat → Int64)) (K : Int32 → Prop) : Array Value → State → Outcome → State → Prop := va_Qi (fun (r : Int32) (u : Unit) => K r) (fun (u : Unit) t => va_P (dC, dI) vwCl (WC q cI cJ cZ pg ps nf np nq ns po pt rf rl bx xl xr yl yh ms wt pf nr sl cl hu uu pd ro rc) t.heap) (AF q 21 sz)
def wX2_hasShape (ps : Int32) (v1 : Int32) (K : Int32 → Prop) : Prop := ((v1 < 0 → K 0 ) ∧ (¬ (v1 < 0) → ((ps ≤ v1 → K 0 ) ∧ (¬ (ps ≤ v1) → K 1 ))))
set_option maxHeartbeats 4000000 in
set_option maxRecDepth 100000 in
theorem ktX2_hasShape (l : Launch) (dC : Nat → ClassId) (dI : Nat → Nat → Nat) (q : Nat → Nat) (cI cJ cZ : ClassId) (sz : Nat) (pg : Int32) (ps : Int32) (nf : Int32) (np : Int32) (nq : Int32) (ns : Int32) (po : Int32) (pt : Int32) (rf : Int32) (rl : Int32) (bx : (Nat → Int32)) (xl : (Nat → Int32)) (xr : (Nat → Int32)) (yl : (Nat → Int32)) (yh : (Nat → Int32)) (ms : (Nat → Int32)) (wt : (Nat → Int32)) (pf : (Nat → Int32)) (nr : (Nat → Int64)) (sl : (Nat → Int32)) (cl : (Nat → Int32)) (hu : (Nat → Int32)) (uu : (Nat → Int32)) (pd : (Nat → Int64)) (ro : (Nat → Int32)) (rc : (Nat → Int64)) (v1 : Int32) {K : Int32 → Prop} (h : wX2_hasShape ps v1 K) : Met l yX2_hasShape wsX2_hasShape { frames := 0, cells := 0, slots := 0, locals := 0 } (va_Pc [.ref (q 1), .int v1] (wd dC dI cI cJ cZ q 21 sz (WC q cI cJ cZ pg ps nf np nq ns po pt rf rl bx xl xr yl yh ms wt pf nr sl cl hu uu pd ro rc))) (QX2_hasShape dC dI cI cJ cZ q sz pg ps nf np nq ns po pt rf rl bx xl xr yl yh ms wt pf nr sl cl hu uu pd ro rc K) 0 0 (AF q 21 sz) := by
  refine met_of [.ref (q 1), .int v1] (by decide +kernel) rfl (Nat.le_of_ble_eq_true rfl) ?_
  intro p e s m below meth c ls hsz C hK ha hN hl hP
  subst hsz
  obtain ⟨hx, hb, hr, hml, hown, hts, hlk⟩ := id C
  have hl : lv_has ls 2 [(0, .ref (q 1)), (1, .int v1)] := hl
  refine w_go (Pw := fun H => va_P (dC, dI) vwCl (WC q cI cJ cZ pg ps nf np nq ns po pt rf rl bx xl xr yl yh ms wt pf nr sl cl hu uu pd ro rc) H) (A := AF q 21 s.heap.size) (fun H locs hP hS => ?_) hP
  unfold wX2_hasShape at h
  refine lv_iload_n hx hb dX2_hasShape_0 rfl (lv_at hl 1 rfl) ?_
  refine lv_if_lt (tgt := 16) hx hb dX2_hasShape_1 (by decide) (fun c1 => ?_) (fun c1 => ?_)
  · have h := h.1 c1
    refine lv_iconst (v := 0) hx hb dX2_hasShape_16 (by decide) ?_
    exact rt_z () hx hb hr hlk (by decide) h (fun t ht => by rw [ht]; exact hP) hS dX2_hasShape_17
  · have h := h.2 c1
    refine lv_iload_n hx hb dX2_hasShape_4 rfl (lv_at hl 1 rfl) ?_
    refine lv_aload_n hx hb dX2_hasShape_5 rfl (lv_at hl 0 rfl) ?_
    refine va_get (D := (dC, dI)) (ci := 2) (v := .int ps) (C := RX2) (T := TX2) (N := 9) hx hb hts iwX2_hasShape_X2 hown hK hP 1 rfl rfl 1 (by decide) (hts _ fwX2_hasShape_15) (fun _ h9 => h9) rfl dX2_hasShape_6 ?_
    refine lv_icmp_ge (tgt := 16) hx hb dX2_hasShape_9 (by decide) (fun c2 => ?_) (fun c2 => ?_)
    · have h := h.1 c2
      refine lv_iconst (v := 0) hx hb dX2_hasShape_16 (by decide) ?_
      exact rt_z () hx hb hr hlk (by decide) h (fun t ht => by rw [ht]; exact hP) hS dX2_hasShape_17
    · have h := h.2 c2
      refine lv_iconst (v := 1) hx hb dX2_hasShape_12 (by decide) ?_
      refine lv_goto (tgt := 17) hx hb dX2_hasShape_13 (by decide) ?_
      exact rt_z () hx hb hr hlk (by decide) h (fun t ht => by rw [ht]; exact hP) hS dX2_hasShape_17

theorem fwX2_addBox_18 : Cond.fieldLink RX2 18 "MaskParts$Plan" "boxes" "[I" ∈ wsX2_addBox := by decide +kernel
set_option maxRecDepth 20000 in
theorem iwX2_addBox_X2 : ∀ w ∈ wsX20, w ∈ wsX2_addBox := by decide +kernel
theorem fwX2_addBox_22 : Cond.fieldLink RX2 22 "MaskParts$Plan" "left" "[I" ∈ wsX2_addBox := by decide +kernel
theorem fwX2_addBox_28 : Cond.fieldLink RX2 28 "MaskParts$Plan" "low" "[I" ∈ wsX2_addBox := by decide +kernel
theorem fwX2_addBox_25 : Cond.fieldLink RX2 25 "MaskParts$Plan" "right" "[I" ∈ wsX2_addBox := by decide +kernel
theorem fwX2_addBox_31 : Cond.fieldLink RX2 31 "MaskParts$Plan" "high" "[I" ∈ wsX2_addBox := by decide +kernel
abbrev QX2_addBox (dC : Nat → ClassId) (dI : Nat → Nat → Nat) (cI cJ cZ : ClassId) (q : Nat → Nat) (sz : Nat) (pg : Int32) (ps : Int32) (nf : Int32) (np : Int32) (nq : Int32) (ns : Int32) (po : Int32) (pt : Int32) (rf : Int32) (rl : Int32) (ms : (Nat → Int32)) (wt : (Nat → Int32)) (pf : (Nat → Int32)) (nr : (Nat → Int64)) (sl : (Nat → Int32)) (cl : (Nat → Int32)) (hu : (Nat → Int32)) (uu : (Nat → Int32)) (pd : (Nat → Int64)) (ro : (Nat → Int32)) (rc : (Nat → Int64)) (K : ((Nat → Int32) × (Nat → Int32) × (Nat → Int32) × (Nat → Int32) × (Nat → Int32)) → Prop) : Array Value → State → Outcome → State → Prop := va_Qv (fun (u : (Nat → Int32) × (Nat → Int32) × (Nat → Int32) × (Nat → Int32) × (Nat → Int32)) => K u) (fun (u : (Nat → Int32) × (Nat → Int32) × (Nat → Int32) × (Nat → Int32) × (Nat → Int32)) t => va_P (dC, dI) vwCl (WC q cI cJ cZ pg ps nf np nq ns po pt rf rl u.1 u.2.1 u.2.2.1 u.2.2.2.1 u.2.2.2.2 ms wt pf nr sl cl hu uu pd ro rc) t.heap) (AF q 21 sz)
def wX2_addBox (bx : (Nat → Int32)) (xl : (Nat → Int32)) (xr : (Nat → Int32)) (yl : (Nat → Int32)) (yh : (Nat → Int32)) (v1 : Int32) (v2 : Int32) (v3 : Int32) (v4 : Int32) (v5 : Int32) (K : ((Nat → Int32) × (Nat → Int32) × (Nat → Int32) × (Nat → Int32) × (Nat → Int32)) → Prop) : Prop := (vp_in v1 10 ∧ (wX2_slot v1 ((bx v1.toNatClampNeg)) (fun r2 : Int32 => (vp_in r2 40 ∧ (∀ f5 : (Nat → Int32), f5 = upd xl r2.toNatClampNeg v2 → (vp_in r2 40 ∧ (∀ f7 : (Nat → Int32), f7 = upd yl r2.toNatClampNeg v3 → (vp_in r2 40 ∧ (∀ f9 : (Nat → Int32), f9 = upd xr r2.toNatClampNeg v4 → (vp_in r2 40 ∧ (∀ f11 : (Nat → Int32), f11 = upd yh r2.toNatClampNeg v5 → (vp_in v1 10 ∧ (vp_in v1 10 ∧ (∀ f14 : (Nat → Int32), f14 = upd bx v1.toNatClampNeg (((bx v1.toNatClampNeg) + 1)) → K (f14, f5, f9, f7, f11)))))))))))))))
set_option maxHeartbeats 4000000 in
set_option maxRecDepth 100000 in
theorem ktX2_addBox (l : Launch) (dC : Nat → ClassId) (dI : Nat → Nat → Nat) (q : Nat → Nat) (cI cJ cZ : ClassId) (sz : Nat) (pg : Int32) (ps : Int32) (nf : Int32) (np : Int32) (nq : Int32) (ns : Int32) (po : Int32) (pt : Int32) (rf : Int32) (rl : Int32) (bx : (Nat → Int32)) (xl : (Nat → Int32)) (xr : (Nat → Int32)) (yl : (Nat → Int32)) (yh : (Nat → Int32)) (ms : (Nat → Int32)) (wt : (Nat → Int32)) (pf : (Nat → Int32)) (nr : (Nat → Int64)) (sl : (Nat → Int32)) (cl : (Nat → Int32)) (hu : (Nat → Int32)) (uu : (Nat → Int32)) (pd : (Nat → Int64)) (ro : (Nat → Int32)) (rc : (Nat → Int64)) (v1 : Int32) (v2 : Int32) (v3 : Int32) (v4 : Int32) (v5 : Int32) {K : ((Nat → Int32) × (Nat → Int32) × (Nat → Int32) × (Nat → Int32) × (Nat → Int32)) → Prop} (h : wX2_addBox bx xl xr yl yh v1 v2 v3 v4 v5 K) : Met l yX2_addBox wsX2_addBox { frames := 1, cells := 0, slots := 0, locals := 21 } (va_Pc [.ref (q 1), .int v1, .int v2, .int v3, .int v4, .int v5] (wd dC dI cI cJ cZ q 21 sz (WC q cI cJ cZ pg ps nf np nq ns po pt rf rl bx xl xr yl yh ms wt pf nr sl cl hu uu pd ro rc))) (QX2_addBox dC dI cI cJ cZ q sz pg ps nf np nq ns po pt rf rl ms wt pf nr sl cl hu uu pd ro rc K) 0 0 (AF q 21 sz) := by
  refine met_of [.ref (q 1), .int v1, .int v2, .int v3, .int v4, .int v5] (by decide +kernel) rfl (Nat.le_of_ble_eq_true rfl) ?_
  intro p e s m below meth c ls hsz C hK ha hN hl hP
  subst hsz
  obtain ⟨hx, hb, hr, hml, hown, hts, hlk⟩ := id C
  have hl : lv_has ls 7 [(0, .ref (q 1)), (1, .int v1), (2, .int v2), (3, .int v3), (4, .int v4), (5, .int v5)] := hl
  refine w_go (Pw := fun H => va_P (dC, dI) vwCl (WC q cI cJ cZ pg ps nf np nq ns po pt rf rl bx xl xr yl yh ms wt pf nr sl cl hu uu pd ro rc) H) (A := AF q 21 s.heap.size) (fun H locs hP hS => ?_) hP
  unfold wX2_addBox at h
  refine lv_iload_n hx hb dX2_addBox_0 rfl (lv_at hl 1 rfl) ?_
  refine lv_aload_n hx hb dX2_addBox_1 rfl (lv_at hl 0 rfl) ?_
  refine va_get (D := (dC, dI)) (ci := 2) (v := .ref (q 5)) (C := RX2) (T := TX2) (N := 9) hx hb hts iwX2_addBox_X2 hown hK hP 1 rfl rfl 2 (by decide) (hts _ fwX2_addBox_18) (fun _ h9 => h9) rfl dX2_addBox_2 ?_
  refine lv_iload_n hx hb dX2_addBox_5 rfl (lv_at hl 1 rfl) ?_
  obtain ⟨b1, h⟩ := h
  refine va_iald (D := (dC, dI)) hx hb hK hP 5 0 rfl rfl b1 dX2_addBox_6 ?_
  refine cl_pi (va_runS (As := [.int v1, .int ((bx v1.toNatClampNeg))]) (rest := []) ⟨hx, hb, hml, hown, hts⟩ (ktX2_slot l H.size v1 ((bx v1.toNatClampNeg)) h) (va_cwS 2 hts gX2_addBox_X2_slot rfl rfl rfl (by decide +kernel) ⟨Nat.le_of_ble_eq_true rfl, Nat.le_of_ble_eq_true rfl⟩) ⟨pz.blind, fun U hU _ => ⟨rfl, pz.at hU⟩⟩ rfl rfl hl.1 rfl (lv_room (Nat.le_of_ble_eq_true rfl)) dX2_addBox_7 ⟨Nat.le_of_ble_eq_true rfl, Nat.le_of_ble_eq_true rfl⟩) hP hS (fun r2 _ H locs h hP hS => ?_)
  refine lv_istore (lv' := [(6, .int r2), (0, .ref (q 1)), (1, .int v1), (2, .int v2), (3, .int v3), (4, .int v4), (5, .int v5)]) hx hb dX2_addBox_10 hl (by decide) rfl (fun ls hl => ?_)
  refine lv_aload_n hx hb dX2_addBox_12 rfl (lv_at hl 1 rfl) ?_
  refine va_get (D := (dC, dI)) (ci := 2) (v := .ref (q 6)) (C := RX2) (T := TX2) (N := 9) hx hb hts iwX2_addBox_X2 hown hK hP 1 rfl rfl 3 (by decide) (hts _ fwX2_addBox_22) (fun _ h9 => h9) rfl dX2_addBox_13 ?_
  refine lv_iload hx hb dX2_addBox_16 (lv_at hl 0 rfl) ?_
  refine lv_iload_n hx hb dX2_addBox_18 rfl (lv_at hl 3 rfl) ?_
  obtain ⟨b4, h⟩ := h
  refine va_iast (D := (dC, dI)) hx hb hK hP (d_WC ha) hS 6 0 rfl rfl b4 dX2_addBox_19 (fun H locs hP _ hS => ?_)
  obtain ⟨f5, ef5⟩ : ∃ z : (Nat → Int32), z = upd xl r2.toNatClampNeg v2 := ⟨_, rfl⟩
  have h := h f5 ef5
  have hP : va_P (dC, dI) vwCl (WC q cI cJ cZ pg ps nf np nq ns po pt rf rl bx f5 xr yl yh ms wt pf nr sl cl hu uu pd ro rc) H := by rw [ef5]; exact hP
  refine lv_aload_n hx hb dX2_addBox_20 rfl (lv_at hl 1 rfl) ?_
  refine va_get (D := (dC, dI)) (ci := 2) (v := .ref (q 8)) (C := RX2) (T := TX2) (N := 9) hx hb hts iwX2_addBox_X2 hown hK hP 1 rfl rfl 5 (by decide) (hts _ fwX2_addBox_28) (fun _ h9 => h9) rfl dX2_addBox_21 ?_
  refine lv_iload hx hb dX2_addBox_24 (lv_at hl 0 rfl) ?_
  refine lv_iload_n hx hb dX2_addBox_26 rfl (lv_at hl 4 rfl) ?_
  obtain ⟨b6, h⟩ := h
  refine va_iast (D := (dC, dI)) hx hb hK hP (d_WC ha) hS 8 0 rfl rfl b6 dX2_addBox_27 (fun H locs hP _ hS => ?_)
  obtain ⟨f7, ef7⟩ : ∃ z : (Nat → Int32), z = upd yl r2.toNatClampNeg v3 := ⟨_, rfl⟩
  have h := h f7 ef7
  have hP : va_P (dC, dI) vwCl (WC q cI cJ cZ pg ps nf np nq ns po pt rf rl bx f5 xr f7 yh ms wt pf nr sl cl hu uu pd ro rc) H := by rw [ef7]; exact hP
  refine lv_aload_n hx hb dX2_addBox_28 rfl (lv_at hl 1 rfl) ?_
  refine va_get (D := (dC, dI)) (ci := 2) (v := .ref (q 7)) (C := RX2) (T := TX2) (N := 9) hx hb hts iwX2_addBox_X2 hown hK hP 1 rfl rfl 4 (by decide) (hts _ fwX2_addBox_25) (fun _ h9 => h9) rfl dX2_addBox_29 ?_
  refine lv_iload hx hb dX2_addBox_32 (lv_at hl 0 rfl) ?_
  refine lv_iload hx hb dX2_addBox_34 (lv_at hl 5 rfl) ?_
  obtain ⟨b8, h⟩ := h
  refine va_iast (D := (dC, dI)) hx hb hK hP (d_WC ha) hS 7 0 rfl rfl b8 dX2_addBox_36 (fun H locs hP _ hS => ?_)
  obtain ⟨f9, ef9⟩ : ∃ z : (Nat → Int32), z = upd xr r2.toNatClampNeg v4 := ⟨_, rfl⟩
  have h := h f9 ef9
  have hP : va_P (dC, dI) vwCl (WC q cI cJ cZ pg ps nf np nq ns po pt rf rl bx f5 f9 f7 yh ms wt pf nr sl cl hu uu pd ro rc) H := by rw [ef9]; exact hP
  refine lv_aload_n hx hb dX2_addBox_37 rfl (lv_at hl 1 rfl) ?_
  refine va_get (D := (dC, dI)) (ci := 2) (v := .ref (q 9)) (C := RX2) (T := TX2) (N := 9) hx hb hts iwX2_addBox_X2 hown hK hP 1 rfl rfl 6 (by decide) (hts _ fwX2_addBox_31) (fun _ h9 => h9) rfl dX2_addBox_38 ?_
  refine lv_iload hx hb dX2_addBox_41 (lv_at hl 0 rfl) ?_
  refine lv_iload hx hb dX2_addBox_43 (lv_at hl 6 rfl) ?_
  obtain ⟨b10, h⟩ := h
  refine va_iast (D := (dC, dI)) hx hb hK hP (d_WC ha) hS 9 0 rfl rfl b10 dX2_addBox_45 (fun H locs hP _ hS => ?_)
  obtain ⟨f11, ef11⟩ : ∃ z : (Nat → Int32), z = upd yh r2.toNatClampNeg v5 := ⟨_, rfl⟩
  have h := h f11 ef11
  have hP : va_P (dC, dI) vwCl (WC q cI cJ cZ pg ps nf np nq ns po pt rf rl bx f5 f9 f7 f11 ms wt pf nr sl cl hu uu pd ro rc) H := by rw [ef11]; exact hP
  refine lv_aload_n hx hb dX2_addBox_46 rfl (lv_at hl 1 rfl) ?_
  refine va_get (D := (dC, dI)) (ci := 2) (v := .ref (q 5)) (C := RX2) (T := TX2) (N := 9) hx hb hts iwX2_addBox_X2 hown hK hP 1 rfl rfl 2 (by decide) (hts _ fwX2_addBox_18) (fun _ h9 => h9) rfl dX2_addBox_47 ?_
  refine lv_iload_n hx hb dX2_addBox_50 rfl (lv_at hl 2 rfl) ?_
  refine lv_dup2_11 hx hb dX2_addBox_51 rfl rfl ?_
  obtain ⟨b12, h⟩ := h
  refine va_iald (D := (dC, dI)) hx hb hK hP 5 0 rfl rfl b12 dX2_addBox_52 ?_
  refine lv_iconst (v := 1) hx hb dX2_addBox_53 (by decide) ?_
  refine lv_iadd hx hb dX2_addBox_54 ?_
  obtain ⟨b13, h⟩ := h
  refine va_iast (D := (dC, dI)) hx hb hK hP (d_WC ha) hS 5 0 rfl rfl b13 dX2_addBox_55 (fun H locs hP _ hS => ?_)
  obtain ⟨f14, ef14⟩ : ∃ z : (Nat → Int32), z = upd bx v1.toNatClampNeg (((bx v1.toNatClampNeg) + 1)) := ⟨_, rfl⟩
  have h := h f14 ef14
  have hP : va_P (dC, dI) vwCl (WC q cI cJ cZ pg ps nf np nq ns po pt rf rl f14 f5 f9 f7 f11 ms wt pf nr sl cl hu uu pd ro rc) H := by rw [ef14]; exact hP
  exact rt_v (f14, f5, f9, f7, f11) hx hb hr hlk h (fun t ht => by rw [ht]; exact hP) hS dX2_addBox_56

theorem fwX2_countBoxes_15 : Cond.fieldLink RX2 15 "MaskParts$Plan" "shapes" "I" ∈ wsX2_countBoxes := by decide +kernel
set_option maxRecDepth 20000 in
theorem iwX2_countBoxes_X2 : ∀ w ∈ wsX20, w ∈ wsX2_countBoxes := by decide +kernel
theorem fwX2_countBoxes_18 : Cond.fieldLink RX2 18 "MaskParts$Plan" "boxes" "[I" ∈ wsX2_countBoxes := by decide +kernel
abbrev QX2_countBoxes (dC : Nat → ClassId) (dI : Nat → Nat → Nat) (cI cJ cZ : ClassId) (q : Nat → Nat) (sz : Nat) (pg : Int32) (ps : Int32) (nf : Int32) (np : Int32) (nq : Int32) (ns : Int32) (po : Int32) (pt : Int32) (rf : Int32) (rl : Int32) (bx : (Nat → Int32)) (xl : (Nat → Int32)) (xr : (Nat → Int32)) (yl : (Nat → Int32)) (yh : (Nat → Int32)) (ms : (Nat → Int32)) (wt : (Nat → Int32)) (pf : (Nat → Int32)) (nr : (Nat → Int64)) (sl : (Nat → Int32)) (cl : (Nat → Int32)) (hu : (Nat → Int32)) (uu : (Nat → Int32)) (pd : (Nat → Int64)) (ro : (Nat → Int32)) (rc : (Nat → Int64)) (K : Int32 → Prop) : Array Value → State → Outcome → State → Prop := va_Qi (fun (r : Int32) (u : Unit) => K r) (fun (u : Unit) t => va_P (dC, dI) vwCl (WC q cI cJ cZ pg ps nf np nq ns po pt rf rl bx xl xr yl yh ms wt pf nr sl cl hu uu pd ro rc) t.heap) (AF q 21 sz)
def lpX2_countBoxes_4 (ps : Int32) (bx : (Nat → Int32)) (K : Int32 → Prop) (k27 : Int32 → Prop) : Nat → Int32 → Int32 → Prop
  | 0, _, _ => False
  | n + 1, v1, v2 => ((ps ≤ v2 → k27 v1) ∧ (¬ (ps ≤ v2) → (vp_in v2 10 ∧ (∀ i3 : Int32, i3 = (v1 + (bx v2.toNatClampNeg)) → (∀ i4 : Int32, i4 = v2 + 1 → lpX2_countBoxes_4 ps bx K k27 n i3 i4)))))
set_option maxHeartbeats 4000000 in
set_option maxRecDepth 100000 in
theorem mX2_countBoxes_4 {p : Program} {l : Launch} {e : Env} {s : State} {m : MethodId} {av : Array Value} {below : List Frame} {meth : Method} {c : Code} {dC : Nat → ClassId} {dI : Nat → Nat → Nat} {cI cJ cZ : ClassId} {q : Nat → Nat} {K : Int32 → Prop} {k27 : Int32 → Prop} (pg : Int32) (ps : Int32) (nf : Int32) (np : Int32) (nq : Int32) (ns : Int32) (po : Int32) (pt : Int32) (rf : Int32) (rl : Int32) (bx : (Nat → Int32)) (xl : (Nat → Int32)) (xr : (Nat → Int32)) (yl : (Nat → Int32)) (yh : (Nat → Int32)) (ms : (Nat → Int32)) (wt : (Nat → Int32)) (pf : (Nat → Int32)) (nr : (Nat → Int64)) (sl : (Nat → Int32)) (cl : (Nat → Int32)) (hu : (Nat → Int32)) (uu : (Nat → Int32)) (pd : (Nat → Int64)) (ro : (Nat → Int32)) (rc : (Nat → Int64)) (C : CX p s m av meth c cX2_countBoxes 3 (some .int) RX2 wsX2_countBoxes) (hK : va_K (dC, dI) vwCl (TY cI cJ cZ) s) (ha : apart q 21) (hN : NX s) (hk27 : ∀ (v1 : Int32) (ls : Array Slot) (H : Heap) (locs : List Loc), k27 v1 → lv_has ls 3 [(1, .int v1)] → va_P (dC, dI) vwCl (WC q cI cJ cZ pg ps nf np nq ns po pt rf rl bx xl xr yl yh ms wt pf nr sl cl hu uu pd ro rc) H → va_S (AF q 21 s.heap.size) s.heap H locs → W p l e { frames := 0, cells := 0, slots := 0, locals := 0 } s m av below meth c H locs 0 0 (MQ below (QX2_countBoxes dC dI cI cJ cZ q s.heap.size pg ps nf np nq ns po pt rf rl bx xl xr yl yh ms wt pf nr sl cl hu uu pd ro rc K) av s 0 0 (AF q 21 s.heap.size)) (F0 m 27 ls [])) : ∀ (n : Nat) (v1 : Int32) (v2 : Int32) (ls : Array Slot) (H : Heap) (locs : List Loc), lpX2_countBoxes_4 ps bx K k27 n v1 v2 → lv_has ls 3 [(0, .ref (q 1)), (1, .int v1), (2, .int v2)] → va_P (dC, dI) vwCl (WC q cI cJ cZ pg ps nf np nq ns po pt rf rl bx xl xr yl yh ms wt pf nr sl cl hu uu pd ro rc) H → va_S (AF q 21 s.heap.size) s.heap H locs → W p l e { frames := 0, cells := 0, slots := 0, locals := 0 } s m av below meth c H locs 0 0 (MQ below (QX2_countBoxes dC dI cI cJ cZ q s.heap.size pg ps nf np nq ns po pt rf rl bx xl xr yl yh ms wt pf nr sl cl hu uu pd ro rc K) av s 0 0 (AF q 21 s.heap.size)) (F0 m 4 ls []) := by
  obtain ⟨hx, hb, hr, hml, hown, hts, hlk⟩ := id C
  intro n
  induction n with
  | zero =>
    intro v1 v2 ls H locs h
    exact h.elim
  | succ n ih =>
    intro v1 v2 ls H locs h hl hP hS
    rw [lpX2_countBoxes_4.eq_2] at h
    refine lv_iload_n hx hb dX2_countBoxes_4 rfl (lv_at hl 2 rfl) ?_
    refine lv_aload_n hx hb dX2_countBoxes_5 rfl (lv_at hl 0 rfl) ?_
    refine va_get (D := (dC, dI)) (ci := 2) (v := .int ps) (C := RX2) (T := TX2) (N := 9) hx hb hts iwX2_countBoxes_X2 hown hK hP 1 rfl rfl 1 (by decide) (hts _ fwX2_countBoxes_15) (fun _ h9 => h9) rfl dX2_countBoxes_6 ?_
    refine lv_icmp_ge (tgt := 27) hx hb dX2_countBoxes_9 (by decide) (fun c1 => ?_) (fun c1 => ?_)
    · have h := h.1 c1
      exact hk27 v1 ls H locs h (lv_sub hl [1] rfl) hP hS
    · have h := h.2 c1
      refine lv_iload_n hx hb dX2_countBoxes_12 rfl (lv_at hl 1 rfl) ?_
      refine lv_aload_n hx hb dX2_countBoxes_13 rfl (lv_at hl 0 rfl) ?_
      refine va_get (D := (dC, dI)) (ci := 2) (v := .ref (q 5)) (C := RX2) (T := TX2) (N := 9) hx hb hts iwX2_countBoxes_X2 hown hK hP 1 rfl rfl 2 (by decide) (hts _ fwX2_countBoxes_18) (fun _ h9 => h9) rfl dX2_countBoxes_14 ?_
      refine lv_iload_n hx hb dX2_countBoxes_17 rfl (lv_at hl 2 rfl) ?_
      obtain ⟨b2, h⟩ := h
      refine va_iald (D := (dC, dI)) hx hb hK hP 5 0 rfl rfl b2 dX2_countBoxes_18 ?_
      refine lv_iadd hx hb dX2_countBoxes_19 ?_
      refine lv_topi (fun i3 ei3 => ?_)
      have h := h i3 ei3
      refine lv_istore_n (lv' := [(1, .int i3), (0, .ref (q 1)), (2, .int v2)]) hx hb dX2_countBoxes_20 rfl hl (by decide) rfl (fun ls hl => ?_)
      obtain ⟨i4, ei4⟩ : ∃ y : Int32, y = v2 + 1 := ⟨_, rfl⟩
      refine lv_iinc (v := i4) (lv' := [(2, .int i4), (1, .int i3), (0, .ref (q 1))]) hx hb dX2_countBoxes_21 hl (k := 2) rfl (by rw [ei4]; rfl) (by decide) rfl (fun ls hl => ?_)
      have h := h i4 ei4
      refine lv_goto (tgt := 4) hx hb dX2_countBoxes_24 (by decide) ?_
      exact ih i3 i4 ls H locs h (lv_sub hl [2, 1, 0] rfl) hP hS
def wX2_countBoxes (ps : Int32) (bx : (Nat → Int32))  (K : Int32 → Prop) : Prop := (∃ z4, lpX2_countBoxes_4 ps bx K (fun (v1 : Int32) => K v1 ) z4 0 0)
set_option maxHeartbeats 4000000 in
set_option maxRecDepth 100000 in
theorem ktX2_countBoxes (l : Launch) (dC : Nat → ClassId) (dI : Nat → Nat → Nat) (q : Nat → Nat) (cI cJ cZ : ClassId) (sz : Nat) (pg : Int32) (ps : Int32) (nf : Int32) (np : Int32) (nq : Int32) (ns : Int32) (po : Int32) (pt : Int32) (rf : Int32) (rl : Int32) (bx : (Nat → Int32)) (xl : (Nat → Int32)) (xr : (Nat → Int32)) (yl : (Nat → Int32)) (yh : (Nat → Int32)) (ms : (Nat → Int32)) (wt : (Nat → Int32)) (pf : (Nat → Int32)) (nr : (Nat → Int64)) (sl : (Nat → Int32)) (cl : (Nat → Int32)) (hu : (Nat → Int32)) (uu : (Nat → Int32)) (pd : (Nat → Int64)) (ro : (Nat → Int32)) (rc : (Nat → Int64))  {K : Int32 → Prop} (h : wX2_countBoxes ps bx K) : Met l yX2_countBoxes wsX2_countBoxes { frames := 0, cells := 0, slots := 0, locals := 0 } (va_Pc [.ref (q 1)] (wd dC dI cI cJ cZ q 21 sz (WC q cI cJ cZ pg ps nf np nq ns po pt rf rl bx xl xr yl yh ms wt pf nr sl cl hu uu pd ro rc))) (QX2_countBoxes dC dI cI cJ cZ q sz pg ps nf np nq ns po pt rf rl bx xl xr yl yh ms wt pf nr sl cl hu uu pd ro rc K) 0 0 (AF q 21 sz) := by
  refine met_of [.ref (q 1)] (by decide +kernel) rfl (Nat.le_of_ble_eq_true rfl) ?_
  intro p e s m below meth c ls hsz C hK ha hN hl hP
  subst hsz
  obtain ⟨hx, hb, hr, hml, hown, hts, hlk⟩ := id C
  have hl : lv_has ls 3 [(0, .ref (q 1))] := hl
  refine w_go (Pw := fun H => va_P (dC, dI) vwCl (WC q cI cJ cZ pg ps nf np nq ns po pt rf rl bx xl xr yl yh ms wt pf nr sl cl hu uu pd ro rc) H) (A := AF q 21 s.heap.size) (fun H locs hP hS => ?_) hP
  unfold wX2_countBoxes at h
  refine lv_iconst (v := 0) hx hb dX2_countBoxes_0 (by decide) ?_
  refine lv_istore_n (lv' := [(1, .int 0), (0, .ref (q 1))]) hx hb dX2_countBoxes_1 rfl hl (by decide) rfl (fun ls hl => ?_)
  refine lv_iconst (v := 0) hx hb dX2_countBoxes_2 (by decide) ?_
  refine lv_istore_n (lv' := [(2, .int 0), (1, .int 0), (0, .ref (q 1))]) hx hb dX2_countBoxes_3 rfl hl (by decide) rfl (fun ls hl => ?_)
  obtain ⟨n9, h⟩ := h
  exact mX2_countBoxes_4 pg ps nf np nq ns po pt rf rl bx xl xr yl yh ms wt pf nr sl cl hu uu pd ro rc C hK ha hN (fun v1 ls H locs h hl hP hS => by
      refine lv_iload_n hx hb dX2_countBoxes_27 rfl (lv_at hl 0 rfl) ?_
      exact rt_i () hx hb hr hlk h (fun t ht => by rw [ht]; exact hP) hS dX2_countBoxes_28) n9 0 0 ls H locs h (lv_sub hl [2, 1, 0] rfl) hP hS

theorem fwX2_size_25 : Cond.fieldLink RX2 25 "MaskParts$Plan" "right" "[I" ∈ wsX2_size := by decide +kernel
set_option maxRecDepth 20000 in
theorem iwX2_size_X2 : ∀ w ∈ wsX20, w ∈ wsX2_size := by decide +kernel
theorem fwX2_size_22 : Cond.fieldLink RX2 22 "MaskParts$Plan" "left" "[I" ∈ wsX2_size := by decide +kernel
theorem fwX2_size_31 : Cond.fieldLink RX2 31 "MaskParts$Plan" "high" "[I" ∈ wsX2_size := by decide +kernel
theorem fwX2_size_28 : Cond.fieldLink RX2 28 "MaskParts$Plan" "low" "[I" ∈ wsX2_size := by decide +kernel
abbrev QX2_size (dC : Nat → ClassId) (dI : Nat → Nat → Nat) (cI cJ cZ : ClassId) (q : Nat → Nat) (sz : Nat) (pg : Int32) (ps : Int32) (nf : Int32) (np : Int32) (nq : Int32) (ns : Int32) (po : Int32) (pt : Int32) (rf : Int32) (rl : Int32) (bx : (Nat → Int32)) (xl : (Nat → Int32)) (xr : (Nat → Int32)) (yl : (Nat → Int32)) (yh : (Nat → Int32)) (ms : (Nat → Int32)) (wt : (Nat → Int32)) (pf : (Nat → Int32)) (nr : (Nat → Int64)) (sl : (Nat → Int32)) (cl : (Nat → Int32)) (hu : (Nat → Int32)) (uu : (Nat → Int32)) (pd : (Nat → Int64)) (ro : (Nat → Int32)) (rc : (Nat → Int64)) (K : Int64 → Prop) : Array Value → State → Outcome → State → Prop := va_Ql (fun (r : Int64) (u : Unit) => K r) (fun (u : Unit) t => va_P (dC, dI) vwCl (WC q cI cJ cZ pg ps nf np nq ns po pt rf rl bx xl xr yl yh ms wt pf nr sl cl hu uu pd ro rc) t.heap) (AF q 21 sz)
def wX2_size (xl : (Nat → Int32)) (xr : (Nat → Int32)) (yl : (Nat → Int32)) (yh : (Nat → Int32)) (v1 : Int32) (K : Int64 → Prop) : Prop := (vp_in v1 40 ∧ (vp_in v1 40 ∧ (vp_in v1 40 ∧ (vp_in v1 40 ∧ K (((((xr v1.toNatClampNeg) - (xl v1.toNatClampNeg)) : Int32).toInt64 * (((yh v1.toNatClampNeg) - (yl v1.toNatClampNeg)) : Int32).toInt64)) ))))
set_option maxHeartbeats 4000000 in
set_option maxRecDepth 100000 in
theorem ktX2_size (l : Launch) (dC : Nat → ClassId) (dI : Nat → Nat → Nat) (q : Nat → Nat) (cI cJ cZ : ClassId) (sz : Nat) (pg : Int32) (ps : Int32) (nf : Int32) (np : Int32) (nq : Int32) (ns : Int32) (po : Int32) (pt : Int32) (rf : Int32) (rl : Int32) (bx : (Nat → Int32)) (xl : (Nat → Int32)) (xr : (Nat → Int32)) (yl : (Nat → Int32)) (yh : (Nat → Int32)) (ms : (Nat → Int32)) (wt : (Nat → Int32)) (pf : (Nat → Int32)) (nr : (Nat → Int64)) (sl : (Nat → Int32)) (cl : (Nat → Int32)) (hu : (Nat → Int32)) (uu : (Nat → Int32)) (pd : (Nat → Int64)) (ro : (Nat → Int32)) (rc : (Nat → Int64)) (v1 : Int32) {K : Int64 → Prop} (h : wX2_size xl xr yl yh v1 K) : Met l yX2_size wsX2_size { frames := 0, cells := 0, slots := 0, locals := 0 } (va_Pc [.ref (q 1), .int v1] (wd dC dI cI cJ cZ q 21 sz (WC q cI cJ cZ pg ps nf np nq ns po pt rf rl bx xl xr yl yh ms wt pf nr sl cl hu uu pd ro rc))) (QX2_size dC dI cI cJ cZ q sz pg ps nf np nq ns po pt rf rl bx xl xr yl yh ms wt pf nr sl cl hu uu pd ro rc K) 0 0 (AF q 21 sz) := by
  refine met_of [.ref (q 1), .int v1] (by decide +kernel) rfl (Nat.le_of_ble_eq_true rfl) ?_
  intro p e s m below meth c ls hsz C hK ha hN hl hP
  subst hsz
  obtain ⟨hx, hb, hr, hml, hown, hts, hlk⟩ := id C
  have hl : lv_has ls 2 [(0, .ref (q 1)), (1, .int v1)] := hl
  refine w_go (Pw := fun H => va_P (dC, dI) vwCl (WC q cI cJ cZ pg ps nf np nq ns po pt rf rl bx xl xr yl yh ms wt pf nr sl cl hu uu pd ro rc) H) (A := AF q 21 s.heap.size) (fun H locs hP hS => ?_) hP
  unfold wX2_size at h
  refine lv_aload_n hx hb dX2_size_0 rfl (lv_at hl 0 rfl) ?_
  refine va_get (D := (dC, dI)) (ci := 2) (v := .ref (q 7)) (C := RX2) (T := TX2) (N := 9) hx hb hts iwX2_size_X2 hown hK hP 1 rfl rfl 4 (by decide) (hts _ fwX2_size_25) (fun _ h9 => h9) rfl dX2_size_1 ?_
  refine lv_iload_n hx hb dX2_size_4 rfl (lv_at hl 1 rfl) ?_
  obtain ⟨b1, h⟩ := h
  refine va_iald (D := (dC, dI)) hx hb hK hP 7 0 rfl rfl b1 dX2_size_5 ?_
  refine lv_aload_n hx hb dX2_size_6 rfl (lv_at hl 0 rfl) ?_
  refine va_get (D := (dC, dI)) (ci := 2) (v := .ref (q 6)) (C := RX2) (T := TX2) (N := 9) hx hb hts iwX2_size_X2 hown hK hP 1 rfl rfl 3 (by decide) (hts _ fwX2_size_22) (fun _ h9 => h9) rfl dX2_size_7 ?_
  refine lv_iload_n hx hb dX2_size_10 rfl (lv_at hl 1 rfl) ?_
  obtain ⟨b2, h⟩ := h
  refine va_iald (D := (dC, dI)) hx hb hK hP 6 0 rfl rfl b2 dX2_size_11 ?_
  refine lv_isub hx hb dX2_size_12 ?_
  refine lv_i2l hx hb dX2_size_13 rfl ?_
  refine lv_aload_n hx hb dX2_size_14 rfl (lv_at hl 0 rfl) ?_
  refine va_get (D := (dC, dI)) (ci := 2) (v := .ref (q 9)) (C := RX2) (T := TX2) (N := 9) hx hb hts iwX2_size_X2 hown hK hP 1 rfl rfl 6 (by decide) (hts _ fwX2_size_31) (fun _ h9 => h9) rfl dX2_size_15 ?_
  refine lv_iload_n hx hb dX2_size_18 rfl (lv_at hl 1 rfl) ?_
  obtain ⟨b3, h⟩ := h
  refine va_iald (D := (dC, dI)) hx hb hK hP 9 0 rfl rfl b3 dX2_size_19 ?_
  refine lv_aload_n hx hb dX2_size_20 rfl (lv_at hl 0 rfl) ?_
  refine va_get (D := (dC, dI)) (ci := 2) (v := .ref (q 8)) (C := RX2) (T := TX2) (N := 9) hx hb hts iwX2_size_X2 hown hK hP 1 rfl rfl 5 (by decide) (hts _ fwX2_size_28) (fun _ h9 => h9) rfl dX2_size_21 ?_
  refine lv_iload_n hx hb dX2_size_24 rfl (lv_at hl 1 rfl) ?_
  obtain ⟨b4, h⟩ := h
  refine va_iald (D := (dC, dI)) hx hb hK hP 8 0 rfl rfl b4 dX2_size_25 ?_
  refine lv_isub hx hb dX2_size_26 ?_
  refine lv_i2l hx hb dX2_size_27 rfl ?_
  refine lv_lmul hx hb dX2_size_28 ?_
  exact rt_l () hx hb hr hlk h (fun t ht => by rw [ht]; exact hP) hS dX2_size_29

theorem mwX2_gap_a : Cond.methodLink RX2 55 Lib.Math.max.name ∈ wsX2_gap := by decide +kernel
theorem mwX2_gap_b : Cond.static Lib.Math.max.name ∈ wsX2_gap := by decide +kernel
theorem mwX2_gap_c : Cond.initialized "java/lang/Math" ∈ wsX2_gap := by decide +kernel
theorem mwX2_gap_d : Cond.code Lib.Math.max.name Lib.Math.max.code 2 (some .int) ∈ wsX2_gap := by decide +kernel
def wX2_gap  (v0 : Int32) (v1 : Int32) (v2 : Int32) (v3 : Int32) (K : Int64 → Prop) : Prop := K (((if 0 < (if (v2 - v1) < (v0 - v3) then (v0 - v3) else (v2 - v1)) then (if (v2 - v1) < (v0 - v3) then (v0 - v3) else (v2 - v1)) else 0) : Int32).toInt64) 
set_option maxHeartbeats 4000000 in
set_option maxRecDepth 100000 in
theorem ktX2_gap (l : Launch) (sz : Nat) (v0 : Int32) (v1 : Int32) (v2 : Int32) (v3 : Int32) {K : Int64 → Prop} (h : wX2_gap v0 v1 v2 v3 K) : Met l yX2_gap wsX2_gap { frames := 1, cells := 0, slots := 0, locals := 24 } (va_Pc [.int v0, .int v1, .int v2, .int v3] (pz sz)) (va_Ql (fun (r : Int64) (_ : Unit) => K r) (fun _ _ => True) (fun _ => False)) 0 0 (fun _ => False) := by
  refine met_pz [.int v0, .int v1, .int v2, .int v3] (by decide +kernel) rfl (Nat.le_of_ble_eq_true rfl) ?_
  intro p e s m below meth c ls C hl
  obtain ⟨hx, hb, hr, hml, hown, hts, hlk⟩ := id C
  have hl : lv_has ls 4 [(0, .int v0), (1, .int v1), (2, .int v2), (3, .int v3)] := hl
  refine w_go (Pw := fun _ => True) (A := fun _ => False) (fun H locs _ hS => ?_) trivial
  unfold wX2_gap at h
  refine lv_iconst (v := 0) hx hb dX2_gap_0 (by decide) ?_
  refine lv_iload_n hx hb dX2_gap_1 rfl (lv_at hl 2 rfl) ?_
  refine lv_iload_n hx hb dX2_gap_2 rfl (lv_at hl 1 rfl) ?_
  refine lv_isub hx hb dX2_gap_3 ?_
  refine lv_iload_n hx hb dX2_gap_4 rfl (lv_at hl 0 rfl) ?_
  refine lv_iload_n hx hb dX2_gap_5 rfl (lv_at hl 3 rfl) ?_
  refine lv_isub hx hb dX2_gap_6 ?_
  refine va_mmax hx hb (hml.trans hl.1.symm) hown (hts _ mwX2_gap_a) (hts _ mwX2_gap_b) (hts _ mwX2_gap_c) (hts _ mwX2_gap_d) (Nat.le_of_ble_eq_true rfl) (Nat.le_of_ble_eq_true rfl) (Nat.le_refl _) (Nat.le_refl _) dX2_gap_7 ?_
  refine va_mmax hx hb (hml.trans hl.1.symm) hown (hts _ mwX2_gap_a) (hts _ mwX2_gap_b) (hts _ mwX2_gap_c) (hts _ mwX2_gap_d) (Nat.le_of_ble_eq_true rfl) (Nat.le_of_ble_eq_true rfl) (Nat.le_refl _) (Nat.le_refl _) dX2_gap_10 ?_
  refine lv_i2l hx hb dX2_gap_13 rfl ?_
  exact rt_l () hx hb hr hlk h (fun _ _ => trivial) hS dX2_gap_14

theorem fwX2_tooNear_22 : Cond.fieldLink RX2 22 "MaskParts$Plan" "left" "[I" ∈ wsX2_tooNear := by decide +kernel
set_option maxRecDepth 20000 in
theorem iwX2_tooNear_X2 : ∀ w ∈ wsX20, w ∈ wsX2_tooNear := by decide +kernel
theorem fwX2_tooNear_25 : Cond.fieldLink RX2 25 "MaskParts$Plan" "right" "[I" ∈ wsX2_tooNear := by decide +kernel
theorem fwX2_tooNear_28 : Cond.fieldLink RX2 28 "MaskParts$Plan" "low" "[I" ∈ wsX2_tooNear := by decide +kernel
theorem fwX2_tooNear_31 : Cond.fieldLink RX2 31 "MaskParts$Plan" "high" "[I" ∈ wsX2_tooNear := by decide +kernel
theorem fwX2_tooNear_9 : Cond.fieldLink RX2 9 "MaskParts$Plan" "leastGap" "I" ∈ wsX2_tooNear := by decide +kernel
abbrev QX2_tooNear (dC : Nat → ClassId) (dI : Nat → Nat → Nat) (cI cJ cZ : ClassId) (q : Nat → Nat) (sz : Nat) (pg : Int32) (ps : Int32) (nf : Int32) (np : Int32) (nq : Int32) (ns : Int32) (po : Int32) (pt : Int32) (rf : Int32) (rl : Int32) (bx : (Nat → Int32)) (xl : (Nat → Int32)) (xr : (Nat → Int32)) (yl : (Nat → Int32)) (yh : (Nat → Int32)) (ms : (Nat → Int32)) (wt : (Nat → Int32)) (pf : (Nat → Int32)) (nr : (Nat → Int64)) (sl : (Nat → Int32)) (cl : (Nat → Int32)) (hu : (Nat → Int32)) (uu : (Nat → Int32)) (pd : (Nat → Int64)) (ro : (Nat → Int32)) (rc : (Nat → Int64)) (K : Int32 → Prop) : Array Value → State → Outcome → State → Prop := va_Qi (fun (r : Int32) (u : Unit) => K r) (fun (u : Unit) t => va_P (dC, dI) vwCl (WC q cI cJ cZ pg ps nf np nq ns po pt rf rl bx xl xr yl yh ms wt pf nr sl cl hu uu pd ro rc) t.heap) (AF q 21 sz)
def wX2_tooNear (pg : Int32) (xl : (Nat → Int32)) (xr : (Nat → Int32)) (yl : (Nat → Int32)) (yh : (Nat → Int32)) (v1 : Int32) (v2 : Int32) (K : Int32 → Prop) : Prop := (vp_in v1 40 ∧ (vp_in v1 40 ∧ (vp_in v2 40 ∧ (vp_in v2 40 ∧ (wX2_gap ((xl v1.toNatClampNeg)) ((xr v1.toNatClampNeg)) ((xl v2.toNatClampNeg)) ((xr v2.toNatClampNeg)) (fun r5 : Int64 => (vp_in v1 40 ∧ (vp_in v1 40 ∧ (vp_in v2 40 ∧ (vp_in v2 40 ∧ (wX2_gap ((yl v1.toNatClampNeg)) ((yh v1.toNatClampNeg)) ((yl v2.toNatClampNeg)) ((yh v2.toNatClampNeg)) (fun r11 : Int64 => ((0 ≤ (lg_cmp (((r5 * r5) + (r11 * r11))) ((pg.toInt64 * pg.toInt64))) → K 0 ) ∧ (¬ (0 ≤ (lg_cmp (((r5 * r5) + (r11 * r11))) ((pg.toInt64 * pg.toInt64)))) → K 1 ))))))))))))))
set_option maxHeartbeats 4000000 in
set_option maxRecDepth 100000 in
theorem ktX2_tooNear (l : Launch) (dC : Nat → ClassId) (dI : Nat → Nat → Nat) (q : Nat → Nat) (cI cJ cZ : ClassId) (sz : Nat) (pg : Int32) (ps : Int32) (nf : Int32) (np : Int32) (nq : Int32) (ns : Int32) (po : Int32) (pt : Int32) (rf : Int32) (rl : Int32) (bx : (Nat → Int32)) (xl : (Nat → Int32)) (xr : (Nat → Int32)) (yl : (Nat → Int32)) (yh : (Nat → Int32)) (ms : (Nat → Int32)) (wt : (Nat → Int32)) (pf : (Nat → Int32)) (nr : (Nat → Int64)) (sl : (Nat → Int32)) (cl : (Nat → Int32)) (hu : (Nat → Int32)) (uu : (Nat → Int32)) (pd : (Nat → Int64)) (ro : (Nat → Int32)) (rc : (Nat → Int64)) (v1 : Int32) (v2 : Int32) {K : Int32 → Prop} (h : wX2_tooNear pg xl xr yl yh v1 v2 K) : Met l yX2_tooNear wsX2_tooNear { frames := 2, cells := 0, slots := 0, locals := 47 } (va_Pc [.ref (q 1), .int v1, .int v2] (wd dC dI cI cJ cZ q 21 sz (WC q cI cJ cZ pg ps nf np nq ns po pt rf rl bx xl xr yl yh ms wt pf nr sl cl hu uu pd ro rc))) (QX2_tooNear dC dI cI cJ cZ q sz pg ps nf np nq ns po pt rf rl bx xl xr yl yh ms wt pf nr sl cl hu uu pd ro rc K) 0 0 (AF q 21 sz) := by
  refine met_of [.ref (q 1), .int v1, .int v2] (by decide +kernel) rfl (Nat.le_of_ble_eq_true rfl) ?_
  intro p e s m below meth c ls hsz C hK ha hN hl hP
  subst hsz
  obtain ⟨hx, hb, hr, hml, hown, hts, hlk⟩ := id C
  have hl : lv_has ls 7 [(0, .ref (q 1)), (1, .int v1), (2, .int v2)] := hl
  refine w_go (Pw := fun H => va_P (dC, dI) vwCl (WC q cI cJ cZ pg ps nf np nq ns po pt rf rl bx xl xr yl yh ms wt pf nr sl cl hu uu pd ro rc) H) (A := AF q 21 s.heap.size) (fun H locs hP hS => ?_) hP
  unfold wX2_tooNear at h
  refine lv_aload_n hx hb dX2_tooNear_0 rfl (lv_at hl 0 rfl) ?_
  refine va_get (D := (dC, dI)) (ci := 2) (v := .ref (q 6)) (C := RX2) (T := TX2) (N := 9) hx hb hts iwX2_tooNear_X2 hown hK hP 1 rfl rfl 3 (by decide) (hts _ fwX2_tooNear_22) (fun _ h9 => h9) rfl dX2_tooNear_1 ?_
  refine lv_iload_n hx hb dX2_tooNear_4 rfl (lv_at hl 1 rfl) ?_
  obtain ⟨b1, h⟩ := h
  refine va_iald (D := (dC, dI)) hx hb hK hP 6 0 rfl rfl b1 dX2_tooNear_5 ?_
  refine lv_aload_n hx hb dX2_tooNear_6 rfl (lv_at hl 0 rfl) ?_
  refine va_get (D := (dC, dI)) (ci := 2) (v := .ref (q 7)) (C := RX2) (T := TX2) (N := 9) hx hb hts iwX2_tooNear_X2 hown hK hP 1 rfl rfl 4 (by decide) (hts _ fwX2_tooNear_25) (fun _ h9 => h9) rfl dX2_tooNear_7 ?_
  refine lv_iload_n hx hb dX2_tooNear_10 rfl (lv_at hl 1 rfl) ?_
  obtain ⟨b2, h⟩ := h
  refine va_iald (D := (dC, dI)) hx hb hK hP 7 0 rfl rfl b2 dX2_tooNear_11 ?_
  refine lv_aload_n hx hb dX2_tooNear_12 rfl (lv_at hl 0 rfl) ?_
  refine va_get (D := (dC, dI)) (ci := 2) (v := .ref (q 6)) (C := RX2) (T := TX2) (N := 9) hx hb hts iwX2_tooNear_X2 hown hK hP 1 rfl rfl 3 (by decide) (hts _ fwX2_tooNear_22) (fun _ h9 => h9) rfl dX2_tooNear_13 ?_
  refine lv_iload_n hx hb dX2_tooNear_16 rfl (lv_at hl 2 rfl) ?_
  obtain ⟨b3, h⟩ := h
  refine va_iald (D := (dC, dI)) hx hb hK hP 6 0 rfl rfl b3 dX2_tooNear_17 ?_
  refine lv_aload_n hx hb dX2_tooNear_18 rfl (lv_at hl 0 rfl) ?_
  refine va_get (D := (dC, dI)) (ci := 2) (v := .ref (q 7)) (C := RX2) (T := TX2) (N := 9) hx hb hts iwX2_tooNear_X2 hown hK hP 1 rfl rfl 4 (by decide) (hts _ fwX2_tooNear_25) (fun _ h9 => h9) rfl dX2_tooNear_19 ?_
  refine lv_iload_n hx hb dX2_tooNear_22 rfl (lv_at hl 2 rfl) ?_
  obtain ⟨b4, h⟩ := h
  refine va_iald (D := (dC, dI)) hx hb hK hP 7 0 rfl rfl b4 dX2_tooNear_23 ?_
  refine cl_pl (va_runS (As := [.int ((xl v1.toNatClampNeg)), .int ((xr v1.toNatClampNeg)), .int ((xl v2.toNatClampNeg)), .int ((xr v2.toNatClampNeg))]) (rest := []) ⟨hx, hb, hml, hown, hts⟩ (ktX2_gap l H.size ((xl v1.toNatClampNeg)) ((xr v1.toNatClampNeg)) ((xl v2.toNatClampNeg)) ((xr v2.toNatClampNeg)) h) (va_cwS 4 hts gX2_tooNear_X2_gap rfl rfl rfl (by decide +kernel) ⟨Nat.le_of_ble_eq_true rfl, Nat.le_of_ble_eq_true rfl⟩) ⟨pz.blind, fun U hU _ => ⟨rfl, pz.at hU⟩⟩ rfl rfl hl.1 rfl (lv_room (Nat.le_of_ble_eq_true rfl)) dX2_tooNear_24 ⟨Nat.le_of_ble_eq_true rfl, Nat.le_of_ble_eq_true rfl⟩) hP hS (fun r5 _ H locs h hP hS => ?_)
  refine lv_lstore_n (lv' := [(3, .long r5), (0, .ref (q 1)), (1, .int v1), (2, .int v2)]) hx hb dX2_tooNear_27 rfl hl (by decide) rfl (fun ls hl => ?_)
  refine lv_aload_n hx hb dX2_tooNear_28 rfl (lv_at hl 1 rfl) ?_
  refine va_get (D := (dC, dI)) (ci := 2) (v := .ref (q 8)) (C := RX2) (T := TX2) (N := 9) hx hb hts iwX2_tooNear_X2 hown hK hP 1 rfl rfl 5 (by decide) (hts _ fwX2_tooNear_28) (fun _ h9 => h9) rfl dX2_tooNear_29 ?_
  refine lv_iload_n hx hb dX2_tooNear_32 rfl (lv_at hl 2 rfl) ?_
  obtain ⟨b7, h⟩ := h
  refine va_iald (D := (dC, dI)) hx hb hK hP 8 0 rfl rfl b7 dX2_tooNear_33 ?_
  refine lv_aload_n hx hb dX2_tooNear_34 rfl (lv_at hl 1 rfl) ?_
  refine va_get (D := (dC, dI)) (ci := 2) (v := .ref (q 9)) (C := RX2) (T := TX2) (N := 9) hx hb hts iwX2_tooNear_X2 hown hK hP 1 rfl rfl 6 (by decide) (hts _ fwX2_tooNear_31) (fun _ h9 => h9) rfl dX2_tooNear_35 ?_
  refine lv_iload_n hx hb dX2_tooNear_38 rfl (lv_at hl 2 rfl) ?_
  obtain ⟨b8, h⟩ := h
  refine va_iald (D := (dC, dI)) hx hb hK hP 9 0 rfl rfl b8 dX2_tooNear_39 ?_
  refine lv_aload_n hx hb dX2_tooNear_40 rfl (lv_at hl 1 rfl) ?_
  refine va_get (D := (dC, dI)) (ci := 2) (v := .ref (q 8)) (C := RX2) (T := TX2) (N := 9) hx hb hts iwX2_tooNear_X2 hown hK hP 1 rfl rfl 5 (by decide) (hts _ fwX2_tooNear_28) (fun _ h9 => h9) rfl dX2_tooNear_41 ?_
  refine lv_iload_n hx hb dX2_tooNear_44 rfl (lv_at hl 3 rfl) ?_
  obtain ⟨b9, h⟩ := h
  refine va_iald (D := (dC, dI)) hx hb hK hP 8 0 rfl rfl b9 dX2_tooNear_45 ?_
  refine lv_aload_n hx hb dX2_tooNear_46 rfl (lv_at hl 1 rfl) ?_
  refine va_get (D := (dC, dI)) (ci := 2) (v := .ref (q 9)) (C := RX2) (T := TX2) (N := 9) hx hb hts iwX2_tooNear_X2 hown hK hP 1 rfl rfl 6 (by decide) (hts _ fwX2_tooNear_31) (fun _ h9 => h9) rfl dX2_tooNear_47 ?_
  refine lv_iload_n hx hb dX2_tooNear_50 rfl (lv_at hl 3 rfl) ?_
  obtain ⟨b10, h⟩ := h
  refine va_iald (D := (dC, dI)) hx hb hK hP 9 0 rfl rfl b10 dX2_tooNear_51 ?_
  refine cl_pl (va_runS (As := [.int ((yl v1.toNatClampNeg)), .int ((yh v1.toNatClampNeg)), .int ((yl v2.toNatClampNeg)), .int ((yh v2.toNatClampNeg))]) (rest := []) ⟨hx, hb, hml, hown, hts⟩ (ktX2_gap l H.size ((yl v1.toNatClampNeg)) ((yh v1.toNatClampNeg)) ((yl v2.toNatClampNeg)) ((yh v2.toNatClampNeg)) h) (va_cwS 4 hts gX2_tooNear_X2_gap rfl rfl rfl (by decide +kernel) ⟨Nat.le_of_ble_eq_true rfl, Nat.le_of_ble_eq_true rfl⟩) ⟨pz.blind, fun U hU _ => ⟨rfl, pz.at hU⟩⟩ rfl rfl hl.1 rfl (lv_room (Nat.le_of_ble_eq_true rfl)) dX2_tooNear_52 ⟨Nat.le_of_ble_eq_true rfl, Nat.le_of_ble_eq_true rfl⟩) hP hS (fun r11 _ H locs h hP hS => ?_)
  refine lv_lstore (lv' := [(5, .long r11), (3, .long r5), (0, .ref (q 1)), (1, .int v1), (2, .int v2)]) hx hb dX2_tooNear_55 hl (by decide) rfl (fun ls hl => ?_)
  refine lv_lload_n hx hb dX2_tooNear_57 rfl (lv_at hl 1 rfl) ?_
  refine lv_lload_n hx hb dX2_tooNear_58 rfl (lv_at hl 1 rfl) ?_
  refine lv_lmul hx hb dX2_tooNear_59 ?_
  refine lv_lload hx hb dX2_tooNear_60 (lv_at hl 0 rfl) ?_
  refine lv_lload hx hb dX2_tooNear_62 (lv_at hl 0 rfl) ?_
  refine lv_lmul hx hb dX2_tooNear_64 ?_
  refine lv_ladd hx hb dX2_tooNear_65 ?_
  refine lv_aload_n hx hb dX2_tooNear_66 rfl (lv_at hl 2 rfl) ?_
  refine va_get (D := (dC, dI)) (ci := 2) (v := .int pg) (C := RX2) (T := TX2) (N := 9) hx hb hts iwX2_tooNear_X2 hown hK hP 1 rfl rfl 0 (by decide) (hts _ fwX2_tooNear_9) (fun _ h9 => h9) rfl dX2_tooNear_67 ?_
  refine lv_i2l hx hb dX2_tooNear_70 rfl ?_
  refine lv_aload_n hx hb dX2_tooNear_71 rfl (lv_at hl 2 rfl) ?_
  refine va_get (D := (dC, dI)) (ci := 2) (v := .int pg) (C := RX2) (T := TX2) (N := 9) hx hb hts iwX2_tooNear_X2 hown hK hP 1 rfl rfl 0 (by decide) (hts _ fwX2_tooNear_9) (fun _ h9 => h9) rfl dX2_tooNear_72 ?_
  refine lv_i2l hx hb dX2_tooNear_75 rfl ?_
  refine lv_lmul hx hb dX2_tooNear_76 ?_
  refine W.lcmp hx hb dX2_tooNear_77 ?_
  refine lv_if_ge (tgt := 85) hx hb dX2_tooNear_78 (by decide) (fun c13 => ?_) (fun c13 => ?_)
  · have h := h.1 c13
    refine lv_iconst (v := 0) hx hb dX2_tooNear_85 (by decide) ?_
    exact rt_z () hx hb hr hlk (by decide) h (fun t ht => by rw [ht]; exact hP) hS dX2_tooNear_86
  · have h := h.2 c13
    refine lv_iconst (v := 1) hx hb dX2_tooNear_81 (by decide) ?_
    refine lv_goto (tgt := 86) hx hb dX2_tooNear_82 (by decide) ?_
    exact rt_z () hx hb hr hlk (by decide) h (fun t ht => by rw [ht]; exact hP) hS dX2_tooNear_86

def wX4_bit  (v0 : Int32) (K : Int64 → Prop) : Prop := K (((1 : Int64) <<< (v0.toInt64 &&& 63))) 
set_option maxHeartbeats 4000000 in
set_option maxRecDepth 100000 in
theorem ktX4_bit (l : Launch) (sz : Nat) (v0 : Int32) {K : Int64 → Prop} (h : wX4_bit v0 K) : Met l yX4_bit wsX4_bit { frames := 0, cells := 0, slots := 0, locals := 0 } (va_Pc [.int v0] (pz sz)) (va_Ql (fun (r : Int64) (_ : Unit) => K r) (fun _ _ => True) (fun _ => False)) 0 0 (fun _ => False) := by
  refine met_pz [.int v0] (by decide +kernel) rfl (Nat.le_of_ble_eq_true rfl) ?_
  intro p e s m below meth c ls C hl
  obtain ⟨hx, hb, hr, hml, hown, hts, hlk⟩ := id C
  have hl : lv_has ls 1 [(0, .int v0)] := hl
  refine w_go (Pw := fun _ => True) (A := fun _ => False) (fun H locs _ hS => ?_) trivial
  unfold wX4_bit at h
  refine lv_lconst (v := 1) hx hb dX4_bit_0 (by decide) ?_
  refine lv_iload_n hx hb dX4_bit_1 rfl (lv_at hl 0 rfl) ?_
  refine lv_lshl hx hb dX4_bit_2 rfl ?_
  exact rt_l () hx hb hr hlk h (fun _ _ => trivial) hS dX4_bit_3

def wX4_isSpan  (v0 : Int32) (v1 : Int32) (K : Int32 → Prop) : Prop := ((v0 < (-10000) → K 0 ) ∧ (¬ (v0 < (-10000)) → ((10000 < v1 → K 0 ) ∧ (¬ (10000 < v1) → ((v1 ≤ v0 → K 0 ) ∧ (¬ (v1 ≤ v0) → K 1 ))))))
set_option maxHeartbeats 4000000 in
set_option maxRecDepth 100000 in
theorem ktX4_isSpan (l : Launch) (sz : Nat) (v0 : Int32) (v1 : Int32) {K : Int32 → Prop} (h : wX4_isSpan v0 v1 K) : Met l yX4_isSpan wsX4_isSpan { frames := 0, cells := 0, slots := 0, locals := 0 } (va_Pc [.int v0, .int v1] (pz sz)) (va_Qi (fun (r : Int32) (_ : Unit) => K r) (fun _ _ => True) (fun _ => False)) 0 0 (fun _ => False) := by
  refine met_pz [.int v0, .int v1] (by decide +kernel) rfl (Nat.le_of_ble_eq_true rfl) ?_
  intro p e s m below meth c ls C hl
  obtain ⟨hx, hb, hr, hml, hown, hts, hlk⟩ := id C
  have hl : lv_has ls 2 [(0, .int v0), (1, .int v1)] := hl
  refine w_go (Pw := fun _ => True) (A := fun _ => False) (fun H locs _ hS => ?_) trivial
  unfold wX4_isSpan at h
  refine lv_iload_n hx hb dX4_isSpan_0 rfl (lv_at hl 0 rfl) ?_
  refine lv_sipush (v := (-10000)) hx hb dX4_isSpan_1 (by decide) ?_
  refine lv_icmp_lt (tgt := 23) hx hb dX4_isSpan_4 (by decide) (fun c1 => ?_) (fun c1 => ?_)
  · have h := h.1 c1
    refine lv_iconst (v := 0) hx hb dX4_isSpan_23 (by decide) ?_
    exact rt_z () hx hb hr hlk (by decide) h (fun _ _ => trivial) hS dX4_isSpan_24
  · have h := h.2 c1
    refine lv_iload_n hx hb dX4_isSpan_7 rfl (lv_at hl 1 rfl) ?_
    refine lv_sipush (v := 10000) hx hb dX4_isSpan_8 (by decide) ?_
    refine lv_icmp_gt (tgt := 23) hx hb dX4_isSpan_11 (by decide) (fun c2 => ?_) (fun c2 => ?_)
    · have h := h.1 c2
      refine lv_iconst (v := 0) hx hb dX4_isSpan_23 (by decide) ?_
      exact rt_z () hx hb hr hlk (by decide) h (fun _ _ => trivial) hS dX4_isSpan_24
    · have h := h.2 c2
      refine lv_iload_n hx hb dX4_isSpan_14 rfl (lv_at hl 0 rfl) ?_
      refine lv_iload_n hx hb dX4_isSpan_15 rfl (lv_at hl 1 rfl) ?_
      refine lv_icmp_ge (tgt := 23) hx hb dX4_isSpan_16 (by decide) (fun c3 => ?_) (fun c3 => ?_)
      · have h := h.1 c3
        refine lv_iconst (v := 0) hx hb dX4_isSpan_23 (by decide) ?_
        exact rt_z () hx hb hr hlk (by decide) h (fun _ _ => trivial) hS dX4_isSpan_24
      · have h := h.2 c3
        refine lv_iconst (v := 1) hx hb dX4_isSpan_19 (by decide) ?_
        refine lv_goto (tgt := 24) hx hb dX4_isSpan_20 (by decide) ?_
        exact rt_z () hx hb hr hlk (by decide) h (fun _ _ => trivial) hS dX4_isSpan_24

def wX4_isColour  (v0 : Int32) (K : Int32 → Prop) : Prop := ((v0 < 0 → K 0 ) ∧ (¬ (v0 < 0) → ((4 ≤ v0 → K 0 ) ∧ (¬ (4 ≤ v0) → K 1 ))))
set_option maxHeartbeats 4000000 in
set_option maxRecDepth 100000 in
theorem ktX4_isColour (l : Launch) (sz : Nat) (v0 : Int32) {K : Int32 → Prop} (h : wX4_isColour v0 K) : Met l yX4_isColour wsX4_isColour { frames := 0, cells := 0, slots := 0, locals := 0 } (va_Pc [.int v0] (pz sz)) (va_Qi (fun (r : Int32) (_ : Unit) => K r) (fun _ _ => True) (fun _ => False)) 0 0 (fun _ => False) := by
  refine met_pz [.int v0] (by decide +kernel) rfl (Nat.le_of_ble_eq_true rfl) ?_
  intro p e s m below meth c ls C hl
  obtain ⟨hx, hb, hr, hml, hown, hts, hlk⟩ := id C
  have hl : lv_has ls 1 [(0, .int v0)] := hl
  refine w_go (Pw := fun _ => True) (A := fun _ => False) (fun H locs _ hS => ?_) trivial
  unfold wX4_isColour at h
  refine lv_iload_n hx hb dX4_isColour_0 rfl (lv_at hl 0 rfl) ?_
  refine lv_if_lt (tgt := 13) hx hb dX4_isColour_1 (by decide) (fun c1 => ?_) (fun c1 => ?_)
  · have h := h.1 c1
    refine lv_iconst (v := 0) hx hb dX4_isColour_13 (by decide) ?_
    exact rt_z () hx hb hr hlk (by decide) h (fun _ _ => trivial) hS dX4_isColour_14
  · have h := h.2 c1
    refine lv_iload_n hx hb dX4_isColour_4 rfl (lv_at hl 0 rfl) ?_
    refine lv_iconst (v := 4) hx hb dX4_isColour_5 (by decide) ?_
    refine lv_icmp_ge (tgt := 13) hx hb dX4_isColour_6 (by decide) (fun c2 => ?_) (fun c2 => ?_)
    · have h := h.1 c2
      refine lv_iconst (v := 0) hx hb dX4_isColour_13 (by decide) ?_
      exact rt_z () hx hb hr hlk (by decide) h (fun _ _ => trivial) hS dX4_isColour_14
    · have h := h.2 c2
      refine lv_iconst (v := 1) hx hb dX4_isColour_9 (by decide) ?_
      refine lv_goto (tgt := 14) hx hb dX4_isColour_10 (by decide) ?_
      exact rt_z () hx hb hr hlk (by decide) h (fun _ _ => trivial) hS dX4_isColour_14
