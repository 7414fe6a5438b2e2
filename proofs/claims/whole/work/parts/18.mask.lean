theorem fwX4_forgetFindings_21 : Cond.fieldLink RX4 21 "MaskParts" "net" "LMaskParts$Net;" ∈ wsX4_forgetFindings := by decide +kernel
set_option maxRecDepth 20000 in
theorem iwX4_forgetFindings_X4 : ∀ w ∈ wsX40, w ∈ wsX4_forgetFindings := by decide +kernel
theorem fwX4_forgetFindings_168 : Cond.fieldLink RX4 168 "MaskParts$Net" "fresh" "Z" ∈ wsX4_forgetFindings := by decide +kernel
set_option maxRecDepth 20000 in
theorem iwX4_forgetFindings_X0 : ∀ w ∈ wsX00, w ∈ wsX4_forgetFindings := by decide +kernel
theorem fwX4_forgetFindings_37 : Cond.fieldLink RX4 37 "MaskParts" "oddRing" "LMaskParts$Ring;" ∈ wsX4_forgetFindings := by decide +kernel
theorem fwX4_forgetFindings_172 : Cond.fieldLink RX4 172 "MaskParts$Ring" "fresh" "Z" ∈ wsX4_forgetFindings := by decide +kernel
set_option maxRecDepth 20000 in
theorem iwX4_forgetFindings_X3 : ∀ w ∈ wsX30, w ∈ wsX4_forgetFindings := by decide +kernel
theorem fwX4_forgetFindings_30 : Cond.fieldLink RX4 30 "MaskParts" "painter" "LMaskParts$Painter;" ∈ wsX4_forgetFindings := by decide +kernel
abbrev QX4_forgetFindings (dC : Nat → ClassId) (dI : Nat → Nat → Nat) (cI cJ cZ : ClassId) (q : Nat → Nat) (sz : Nat) (pg : Int32) (ps : Int32) (np : Int32) (nq : Int32) (ns : Int32) (rl : Int32) (bx : (Nat → Int32)) (xl : (Nat → Int32)) (xr : (Nat → Int32)) (yl : (Nat → Int32)) (yh : (Nat → Int32)) (ms : (Nat → Int32)) (wt : (Nat → Int32)) (pf : (Nat → Int32)) (nr : (Nat → Int64)) (sl : (Nat → Int32)) (cl : (Nat → Int32)) (hu : (Nat → Int32)) (uu : (Nat → Int32)) (pd : (Nat → Int64)) (ro : (Nat → Int32)) (rc : (Nat → Int64)) (K : (Int32 × Int32 × Int32 × Int32) → Prop) : Array Value → State → Outcome → State → Prop := va_Qv (fun (u : Int32 × Int32 × Int32 × Int32) => K u) (fun (u : Int32 × Int32 × Int32 × Int32) t => va_P (dC, dI) vwCl (WC q cI cJ cZ pg ps u.1 np nq ns u.2.1 u.2.2.1 u.2.2.2 rl bx xl xr yl yh ms wt pf nr sl cl hu uu pd ro rc) t.heap) (AF q 21 sz)
def wX4_forgetFindings (nf : Int32) (po : Int32) (pt : Int32) (rf : Int32)  (K : (Int32 × Int32 × Int32 × Int32) → Prop) : Prop := (wX1_clear po pt  (fun (u2 : Int32 × Int32) => K (0, u2.1, u2.2, 0)))
set_option maxHeartbeats 4000000 in
set_option maxRecDepth 100000 in
theorem ktX4_forgetFindings (l : Launch) (dC : Nat → ClassId) (dI : Nat → Nat → Nat) (q : Nat → Nat) (cI cJ cZ : ClassId) (sz : Nat) (pg : Int32) (ps : Int32) (nf : Int32) (np : Int32) (nq : Int32) (ns : Int32) (po : Int32) (pt : Int32) (rf : Int32) (rl : Int32) (bx : (Nat → Int32)) (xl : (Nat → Int32)) (xr : (Nat → Int32)) (yl : (Nat → Int32)) (yh : (Nat → Int32)) (ms : (Nat → Int32)) (wt : (Nat → Int32)) (pf : (Nat → Int32)) (nr : (Nat → Int64)) (sl : (Nat → Int32)) (cl : (Nat → Int32)) (hu : (Nat → Int32)) (uu : (Nat → Int32)) (pd : (Nat → Int64)) (ro : (Nat → Int32)) (rc : (Nat → Int64))  {K : (Int32 × Int32 × Int32 × Int32) → Prop} (h : wX4_forgetFindings nf po pt rf K) : Met l yX4_forgetFindings wsX4_forgetFindings { frames := 1, cells := 0, slots := 0, locals := 20 } (va_Pc [.ref (q 0)] (wd dC dI cI cJ cZ q 21 sz (WC q cI cJ cZ pg ps nf np nq ns po pt rf rl bx xl xr yl yh ms wt pf nr sl cl hu uu pd ro rc))) (QX4_forgetFindings dC dI cI cJ cZ q sz pg ps np nq ns rl bx xl xr yl yh ms wt pf nr sl cl hu uu pd ro rc K) 0 0 (AF q 21 sz) := by
  refine met_of [.ref (q 0)] (by decide +kernel) rfl (Nat.le_of_ble_eq_true rfl) ?_
  intro p e s m below meth c ls hsz C hK ha hN hl hP
  subst hsz
  obtain ⟨hx, hb, hr, hml, hown, hts, hlk⟩ := id C
  have hl : lv_has ls 1 [(0, .ref (q 0))] := hl
  refine w_go (Pw := fun H => va_P (dC, dI) vwCl (WC q cI cJ cZ pg ps nf np nq ns po pt rf rl bx xl xr yl yh ms wt pf nr sl cl hu uu pd ro rc) H) (A := AF q 21 s.heap.size) (fun H locs hP hS => ?_) hP
  unfold wX4_forgetFindings at h
  refine lv_aload_n hx hb dX4_forgetFindings_0 rfl (lv_at hl 0 rfl) ?_
  refine va_get (D := (dC, dI)) (ci := 4) (v := .ref (q 2)) (C := RX4) (T := TX4) (N := 4) hx hb hts iwX4_forgetFindings_X4 hown hK hP 0 rfl rfl 1 (by decide) (hts _ fwX4_forgetFindings_21) (fun _ h9 => h9) rfl dX4_forgetFindings_1 ?_
  refine lv_iconst (v := 0) hx hb dX4_forgetFindings_4 (by decide) ?_
  refine va_put (D := (dC, dI)) (ci := 0) (v := .int 0) (ty := .boolean) (C := RX0) (T := TX0) (N := 9) hx hb hts iwX4_forgetFindings_X0 tyX0 tyX0_ok nmX0 hown hK hP (d_WC ha) hS 2 rfl rfl 1 (by decide) (hts _ fwX4_forgetFindings_168) (fun _ h9 => h9) rfl (by decide +kernel) rfl rfl (Nat.le_of_ble_eq_true rfl) dX4_forgetFindings_5 (fun H locs hP _ hS => ?_)
  have hP : va_P (dC, dI) vwCl (WC q cI cJ cZ pg ps 0 np nq ns po pt rf rl bx xl xr yl yh ms wt pf nr sl cl hu uu pd ro rc) H := hP
  refine lv_aload_n hx hb dX4_forgetFindings_8 rfl (lv_at hl 0 rfl) ?_
  refine va_get (D := (dC, dI)) (ci := 4) (v := .ref (q 4)) (C := RX4) (T := TX4) (N := 4) hx hb hts iwX4_forgetFindings_X4 hown hK hP 0 rfl rfl 3 (by decide) (hts _ fwX4_forgetFindings_37) (fun _ h9 => h9) rfl dX4_forgetFindings_9 ?_
  refine lv_iconst (v := 0) hx hb dX4_forgetFindings_12 (by decide) ?_
  refine va_put (D := (dC, dI)) (ci := 3) (v := .int 0) (ty := .boolean) (C := RX3) (T := TX3) (N := 5) hx hb hts iwX4_forgetFindings_X3 tyX3 tyX3_ok nmX3 hown hK hP (d_WC ha) hS 4 rfl rfl 1 (by decide) (hts _ fwX4_forgetFindings_172) (fun _ h9 => h9) rfl (by decide +kernel) rfl rfl (Nat.le_of_ble_eq_true rfl) dX4_forgetFindings_13 (fun H locs hP _ hS => ?_)
  have hP : va_P (dC, dI) vwCl (WC q cI cJ cZ pg ps 0 np nq ns po pt 0 rl bx xl xr yl yh ms wt pf nr sl cl hu uu pd ro rc) H := hP
  refine lv_aload_n hx hb dX4_forgetFindings_16 rfl (lv_at hl 0 rfl) ?_
  refine va_get (D := (dC, dI)) (ci := 4) (v := .ref (q 3)) (C := RX4) (T := TX4) (N := 4) hx hb hts iwX4_forgetFindings_X4 hown hK hP 0 rfl rfl 2 (by decide) (hts _ fwX4_forgetFindings_30) (fun _ h9 => h9) rfl dX4_forgetFindings_17 ?_
  refine cl_v (va_runV (As := []) (rest := []) ⟨hx, hb, hml, hown, hts⟩ (ktX1_clear l dC dI q cI cJ cZ H.size pg ps 0 np nq ns po pt 0 rl bx xl xr yl yh ms wt pf nr sl cl hu uu pd ro rc  h) (cwV 0 hts gX4_forgetFindings_X1_clear rfl rfl rfl (by decide +kernel) ⟨Nat.le_of_ble_eq_true rfl, Nat.le_of_ble_eq_true rfl⟩) ⟨wd.blind, va_recv hK hP (ci := 1) (q0 := 3) rfl rfl, fun U hU hW => ⟨rfl, wd.at hP hK ha hN hU hW⟩⟩ rfl rfl hl.1 rfl (lv_room (Nat.le_of_ble_eq_true rfl)) dX4_forgetFindings_20 ⟨Nat.le_of_ble_eq_true rfl, Nat.le_of_ble_eq_true rfl⟩) hS (fun u2 H locs h hP hS => ?_)
  have hP : va_P (dC, dI) vwCl (WC q cI cJ cZ pg ps 0 np nq ns u2.1 u2.2 0 rl bx xl xr yl yh ms wt pf nr sl cl hu uu pd ro rc) H := hP
  exact rt_v (0, u2.1, u2.2, 0) hx hb hr hlk h (fun t ht => by rw [ht]; exact hP) hS dX4_forgetFindings_23

theorem fwX4_sizeOf_12 : Cond.fieldLink RX4 12 "MaskParts" "plan" "LMaskParts$Plan;" ∈ wsX4_sizeOf := by decide +kernel
set_option maxRecDepth 20000 in
theorem iwX4_sizeOf_X4 : ∀ w ∈ wsX40, w ∈ wsX4_sizeOf := by decide +kernel
theorem fwX4_sizeOf_78 : Cond.fieldLink RX4 78 "MaskParts$Plan" "boxes" "[I" ∈ wsX4_sizeOf := by decide +kernel
set_option maxRecDepth 20000 in
theorem iwX4_sizeOf_X2 : ∀ w ∈ wsX20, w ∈ wsX4_sizeOf := by decide +kernel
theorem fwX4_sizeOf_30 : Cond.fieldLink RX4 30 "MaskParts" "painter" "LMaskParts$Painter;" ∈ wsX4_sizeOf := by decide +kernel
theorem fwX4_sizeOf_131 : Cond.fieldLink RX4 131 "MaskParts$Painter" "hue" "[I" ∈ wsX4_sizeOf := by decide +kernel
set_option maxRecDepth 20000 in
theorem iwX4_sizeOf_X1 : ∀ w ∈ wsX10, w ∈ wsX4_sizeOf := by decide +kernel
theorem fwX4_sizeOf_21 : Cond.fieldLink RX4 21 "MaskParts" "net" "LMaskParts$Net;" ∈ wsX4_sizeOf := by decide +kernel
theorem fwX4_sizeOf_107 : Cond.fieldLink RX4 107 "MaskParts$Net" "partOf" "[I" ∈ wsX4_sizeOf := by decide +kernel
set_option maxRecDepth 20000 in
theorem iwX4_sizeOf_X0 : ∀ w ∈ wsX00, w ∈ wsX4_sizeOf := by decide +kernel
theorem fwX4_sizeOf_55 : Cond.fieldLink RX4 55 "MaskParts$Plan" "shapes" "I" ∈ wsX4_sizeOf := by decide +kernel
abbrev QX4_sizeOf (dC : Nat → ClassId) (dI : Nat → Nat → Nat) (cI cJ cZ : ClassId) (q : Nat → Nat) (sz : Nat) (pg : Int32) (ps : Int32) (nf : Int32) (np : Int32) (nq : Int32) (ns : Int32) (po : Int32) (pt : Int32) (rf : Int32) (rl : Int32) (bx : (Nat → Int32)) (xl : (Nat → Int32)) (xr : (Nat → Int32)) (yl : (Nat → Int32)) (yh : (Nat → Int32)) (ms : (Nat → Int32)) (wt : (Nat → Int32)) (pf : (Nat → Int32)) (nr : (Nat → Int64)) (sl : (Nat → Int32)) (cl : (Nat → Int32)) (hu : (Nat → Int32)) (uu : (Nat → Int32)) (pd : (Nat → Int64)) (ro : (Nat → Int32)) (rc : (Nat → Int64)) (K : Int64 → Prop) : Array Value → State → Outcome → State → Prop := va_Ql (fun (r : Int64) (u : Unit) => K r) (fun (u : Unit) t => va_P (dC, dI) vwCl (WC q cI cJ cZ pg ps nf np nq ns po pt rf rl bx xl xr yl yh ms wt pf nr sl cl hu uu pd ro rc) t.heap) (AF q 21 sz)
def bkX4_sizeOf_78 (ps : Int32) (bx : (Nat → Int32)) (xl : (Nat → Int32)) (xr : (Nat → Int32)) (yl : (Nat → Int32)) (yh : (Nat → Int32)) (pf : (Nat → Int32)) (hu : (Nat → Int32)) (K : Int64 → Prop) (k20 : Int32 → Int64 → Int32 → Int32 → Prop) (v1 : Int32) (v2 : Int64) (v4 : Int32) (v5 : Int32) : Prop := (∀ i1 : Int32, i1 = v5 + 1 → k20 v1 v2 v4 i1)
set_option maxHeartbeats 4000000 in
set_option maxRecDepth 100000 in
theorem mX4_sizeOf_78 {p : Program} {l : Launch} {e : Env} {s : State} {m : MethodId} {av : Array Value} {below : List Frame} {meth : Method} {c : Code} {dC : Nat → ClassId} {dI : Nat → Nat → Nat} {cI cJ cZ : ClassId} {q : Nat → Nat} {K : Int64 → Prop} {k20 : Int32 → Int64 → Int32 → Int32 → Prop} (pg : Int32) (ps : Int32) (nf : Int32) (np : Int32) (nq : Int32) (ns : Int32) (po : Int32) (pt : Int32) (rf : Int32) (rl : Int32) (bx : (Nat → Int32)) (xl : (Nat → Int32)) (xr : (Nat → Int32)) (yl : (Nat → Int32)) (yh : (Nat → Int32)) (ms : (Nat → Int32)) (wt : (Nat → Int32)) (pf : (Nat → Int32)) (nr : (Nat → Int64)) (sl : (Nat → Int32)) (cl : (Nat → Int32)) (hu : (Nat → Int32)) (uu : (Nat → Int32)) (pd : (Nat → Int64)) (ro : (Nat → Int32)) (rc : (Nat → Int64)) (C : CX p s m av meth c cX4_sizeOf 7 (some .long) RX4 wsX4_sizeOf) (hK : va_K (dC, dI) vwCl (TY cI cJ cZ) s) (ha : apart q 21) (hN : NX s) (hk20 : ∀ (v1 : Int32) (v2 : Int64) (v4 : Int32) (v5 : Int32) (ls : Array Slot) (H : Heap) (locs : List Loc), k20 v1 v2 v4 v5 → lv_has ls 7 [(0, .ref (q 0)), (1, .int v1), (2, .long v2), (4, .int v4), (5, .int v5)] → va_P (dC, dI) vwCl (WC q cI cJ cZ pg ps nf np nq ns po pt rf rl bx xl xr yl yh ms wt pf nr sl cl hu uu pd ro rc) H → va_S (AF q 21 s.heap.size) s.heap H locs → W p l e { frames := 1, cells := 0, slots := 0, locals := 21 } s m av below meth c H locs 0 0 (MQ below (QX4_sizeOf dC dI cI cJ cZ q s.heap.size pg ps nf np nq ns po pt rf rl bx xl xr yl yh ms wt pf nr sl cl hu uu pd ro rc K) av s 0 0 (AF q 21 s.heap.size)) (F0 m 20 ls [])) : ∀ (v1 : Int32) (v2 : Int64) (v4 : Int32) (v5 : Int32) (ls : Array Slot) (H : Heap) (locs : List Loc), bkX4_sizeOf_78 ps bx xl xr yl yh pf hu K k20 v1 v2 v4 v5 → lv_has ls 7 [(0, .ref (q 0)), (1, .int v1), (2, .long v2), (4, .int v4), (5, .int v5)] → va_P (dC, dI) vwCl (WC q cI cJ cZ pg ps nf np nq ns po pt rf rl bx xl xr yl yh ms wt pf nr sl cl hu uu pd ro rc) H → va_S (AF q 21 s.heap.size) s.heap H locs → W p l e { frames := 1, cells := 0, slots := 0, locals := 21 } s m av below meth c H locs 0 0 (MQ below (QX4_sizeOf dC dI cI cJ cZ q s.heap.size pg ps nf np nq ns po pt rf rl bx xl xr yl yh ms wt pf nr sl cl hu uu pd ro rc K) av s 0 0 (AF q 21 s.heap.size)) (F0 m 78 ls []) := by
  obtain ⟨hx, hb, hr, hml, hown, hts, hlk⟩ := id C
  intro v1 v2 v4 v5 ls H locs h hl hP hS
  unfold bkX4_sizeOf_78 at h
  obtain ⟨i1, ei1⟩ : ∃ y : Int32, y = v5 + 1 := ⟨_, rfl⟩
  refine lv_iinc (v := i1) (lv' := [(5, .int i1), (0, .ref (q 0)), (1, .int v1), (2, .long v2), (4, .int v4)]) hx hb dX4_sizeOf_78 hl (k := 4) rfl (by rw [ei1]; rfl) (by decide) rfl (fun ls hl => ?_)
  have h := h i1 ei1
  refine lv_goto (tgt := 20) hx hb dX4_sizeOf_81 (by decide) ?_
  exact hk20 v1 v2 v4 i1 ls H locs h (lv_sub hl [1, 2, 3, 4, 0] rfl) hP hS
def lpX4_sizeOf_20 (ps : Int32) (bx : (Nat → Int32)) (xl : (Nat → Int32)) (xr : (Nat → Int32)) (yl : (Nat → Int32)) (yh : (Nat → Int32)) (pf : (Nat → Int32)) (hu : (Nat → Int32)) (K : Int64 → Prop) (k84 : Int32 → Int64 → Int32 → Prop) : Nat → Int32 → Int64 → Int32 → Int32 → Prop
  | 0, _, _, _, _ => False
  | n + 1, v1, v2, v4, v5 => (vp_in v4 10 ∧ (((bx v4.toNatClampNeg) ≤ v5 → k84 v1 v2 v4) ∧ (¬ ((bx v4.toNatClampNeg) ≤ v5) → (wX2_slot v4 v5 (fun r4 : Int32 => (vp_in r4 40 ∧ (vp_in ((pf r4.toNatClampNeg)) 40 ∧ ((¬ (hu ((pf r4.toNatClampNeg) : Int32).toNatClampNeg) = v1 → bkX4_sizeOf_78 ps bx xl xr yl yh pf hu K (fun v1 v2 v4 v5 => lpX4_sizeOf_20 ps bx xl xr yl yh pf hu K k84 n v1 v2 v4 v5) v1 v2 v4 v5) ∧ ((hu ((pf r4.toNatClampNeg) : Int32).toNatClampNeg) = v1 → (wX2_size xl xr yl yh r4 (fun (r9 : Int64) => (∀ j11 : Int64, j11 = (v2 + r9) → bkX4_sizeOf_78 ps bx xl xr yl yh pf hu K (fun v1 v2 v4 v5 => lpX4_sizeOf_20 ps bx xl xr yl yh pf hu K k84 n v1 v2 v4 v5) v1 j11 v4 v5))))))))))))
set_option maxHeartbeats 4000000 in
set_option maxRecDepth 100000 in
theorem mX4_sizeOf_20 {p : Program} {l : Launch} {e : Env} {s : State} {m : MethodId} {av : Array Value} {below : List Frame} {meth : Method} {c : Code} {dC : Nat → ClassId} {dI : Nat → Nat → Nat} {cI cJ cZ : ClassId} {q : Nat → Nat} {K : Int64 → Prop} {k84 : Int32 → Int64 → Int32 → Prop} (pg : Int32) (ps : Int32) (nf : Int32) (np : Int32) (nq : Int32) (ns : Int32) (po : Int32) (pt : Int32) (rf : Int32) (rl : Int32) (bx : (Nat → Int32)) (xl : (Nat → Int32)) (xr : (Nat → Int32)) (yl : (Nat → Int32)) (yh : (Nat → Int32)) (ms : (Nat → Int32)) (wt : (Nat → Int32)) (pf : (Nat → Int32)) (nr : (Nat → Int64)) (sl : (Nat → Int32)) (cl : (Nat → Int32)) (hu : (Nat → Int32)) (uu : (Nat → Int32)) (pd : (Nat → Int64)) (ro : (Nat → Int32)) (rc : (Nat → Int64)) (C : CX p s m av meth c cX4_sizeOf 7 (some .long) RX4 wsX4_sizeOf) (hK : va_K (dC, dI) vwCl (TY cI cJ cZ) s) (ha : apart q 21) (hN : NX s) (hk84 : ∀ (v1 : Int32) (v2 : Int64) (v4 : Int32) (ls : Array Slot) (H : Heap) (locs : List Loc), k84 v1 v2 v4 → lv_has ls 7 [(0, .ref (q 0)), (1, .int v1), (2, .long v2), (4, .int v4)] → va_P (dC, dI) vwCl (WC q cI cJ cZ pg ps nf np nq ns po pt rf rl bx xl xr yl yh ms wt pf nr sl cl hu uu pd ro rc) H → va_S (AF q 21 s.heap.size) s.heap H locs → W p l e { frames := 1, cells := 0, slots := 0, locals := 21 } s m av below meth c H locs 0 0 (MQ below (QX4_sizeOf dC dI cI cJ cZ q s.heap.size pg ps nf np nq ns po pt rf rl bx xl xr yl yh ms wt pf nr sl cl hu uu pd ro rc K) av s 0 0 (AF q 21 s.heap.size)) (F0 m 84 ls [])) : ∀ (n : Nat) (v1 : Int32) (v2 : Int64) (v4 : Int32) (v5 : Int32) (ls : Array Slot) (H : Heap) (locs : List Loc), lpX4_sizeOf_20 ps bx xl xr yl yh pf hu K k84 n v1 v2 v4 v5 → lv_has ls 7 [(0, .ref (q 0)), (1, .int v1), (2, .long v2), (4, .int v4), (5, .int v5)] → va_P (dC, dI) vwCl (WC q cI cJ cZ pg ps nf np nq ns po pt rf rl bx xl xr yl yh ms wt pf nr sl cl hu uu pd ro rc) H → va_S (AF q 21 s.heap.size) s.heap H locs → W p l e { frames := 1, cells := 0, slots := 0, locals := 21 } s m av below meth c H locs 0 0 (MQ below (QX4_sizeOf dC dI cI cJ cZ q s.heap.size pg ps nf np nq ns po pt rf rl bx xl xr yl yh ms wt pf nr sl cl hu uu pd ro rc K) av s 0 0 (AF q 21 s.heap.size)) (F0 m 20 ls []) := by
  obtain ⟨hx, hb, hr, hml, hown, hts, hlk⟩ := id C
  intro n
  induction n with
  | zero =>
    intro v1 v2 v4 v5 ls H locs h
    exact h.elim
  | succ n ih =>
    intro v1 v2 v4 v5 ls H locs h hl hP hS
    rw [lpX4_sizeOf_20.eq_2] at h
    refine lv_iload hx hb dX4_sizeOf_20 (lv_at hl 4 rfl) ?_
    refine lv_aload_n hx hb dX4_sizeOf_22 rfl (lv_at hl 0 rfl) ?_
    refine va_get (D := (dC, dI)) (ci := 4) (v := .ref (q 1)) (C := RX4) (T := TX4) (N := 4) hx hb hts iwX4_sizeOf_X4 hown hK hP 0 rfl rfl 0 (by decide) (hts _ fwX4_sizeOf_12) (fun _ h9 => h9) rfl dX4_sizeOf_23 ?_
    refine va_get (D := (dC, dI)) (ci := 2) (v := .ref (q 5)) (C := RX2) (T := TX2) (N := 9) hx hb hts iwX4_sizeOf_X2 hown hK hP 1 rfl rfl 2 (by decide) (hts _ fwX4_sizeOf_78) (fun _ h9 => h9) rfl dX4_sizeOf_26 ?_
    refine lv_iload hx hb dX4_sizeOf_29 (lv_at hl 3 rfl) ?_
    obtain ⟨b2, h⟩ := h
    refine va_iald (D := (dC, dI)) hx hb hK hP 5 0 rfl rfl b2 dX4_sizeOf_31 ?_
    refine lv_icmp_ge (tgt := 84) hx hb dX4_sizeOf_32 (by decide) (fun c3 => ?_) (fun c3 => ?_)
    · have h := h.1 c3
      exact hk84 v1 v2 v4 ls H locs h (lv_sub hl [0, 1, 2, 3] rfl) hP hS
    · have h := h.2 c3
      refine lv_iload hx hb dX4_sizeOf_35 (lv_at hl 3 rfl) ?_
      refine lv_iload hx hb dX4_sizeOf_37 (lv_at hl 4 rfl) ?_
      refine cl_pi (va_runS (As := [.int v4, .int v5]) (rest := []) ⟨hx, hb, hml, hown, hts⟩ (ktX2_slot l H.size v4 v5 h) (va_cwS 2 hts gX4_sizeOf_X2_slot rfl rfl rfl (by decide +kernel) ⟨Nat.le_of_ble_eq_true rfl, Nat.le_of_ble_eq_true rfl⟩) ⟨pz.blind, fun U hU _ => ⟨rfl, pz.at hU⟩⟩ rfl rfl hl.1 rfl (lv_room (Nat.le_of_ble_eq_true rfl)) dX4_sizeOf_39 ⟨Nat.le_of_ble_eq_true rfl, Nat.le_of_ble_eq_true rfl⟩) hP hS (fun r4 _ H locs h hP hS => ?_)
      refine lv_istore (lv' := [(6, .int r4), (0, .ref (q 0)), (1, .int v1), (2, .long v2), (4, .int v4), (5, .int v5)]) hx hb dX4_sizeOf_42 hl (by decide) rfl (fun ls hl => ?_)
      refine lv_aload_n hx hb dX4_sizeOf_44 rfl (lv_at hl 1 rfl) ?_
      refine va_get (D := (dC, dI)) (ci := 4) (v := .ref (q 3)) (C := RX4) (T := TX4) (N := 4) hx hb hts iwX4_sizeOf_X4 hown hK hP 0 rfl rfl 2 (by decide) (hts _ fwX4_sizeOf_30) (fun _ h9 => h9) rfl dX4_sizeOf_45 ?_
      refine va_get (D := (dC, dI)) (ci := 1) (v := .ref (q 16)) (C := RX1) (T := TX1) (N := 6) hx hb hts iwX4_sizeOf_X1 hown hK hP 3 rfl rfl 3 (by decide) (hts _ fwX4_sizeOf_131) (fun _ h9 => h9) rfl dX4_sizeOf_48 ?_
      refine lv_aload_n hx hb dX4_sizeOf_51 rfl (lv_at hl 1 rfl) ?_
      refine va_get (D := (dC, dI)) (ci := 4) (v := .ref (q 2)) (C := RX4) (T := TX4) (N := 4) hx hb hts iwX4_sizeOf_X4 hown hK hP 0 rfl rfl 1 (by decide) (hts _ fwX4_sizeOf_21) (fun _ h9 => h9) rfl dX4_sizeOf_52 ?_
      refine va_get (D := (dC, dI)) (ci := 0) (v := .ref (q 12)) (C := RX0) (T := TX0) (N := 9) hx hb hts iwX4_sizeOf_X0 hown hK hP 2 rfl rfl 5 (by decide) (hts _ fwX4_sizeOf_107) (fun _ h9 => h9) rfl dX4_sizeOf_55 ?_
      refine lv_iload hx hb dX4_sizeOf_58 (lv_at hl 0 rfl) ?_
      obtain ⟨b6, h⟩ := h
      refine va_iald (D := (dC, dI)) hx hb hK hP 12 0 rfl rfl b6 dX4_sizeOf_60 ?_
      obtain ⟨b7, h⟩ := h
      refine va_iald (D := (dC, dI)) hx hb hK hP 16 0 rfl rfl b7 dX4_sizeOf_61 ?_
      refine lv_iload_n hx hb dX4_sizeOf_62 rfl (lv_at hl 2 rfl) ?_
      refine lv_icmp_ne (tgt := 78) hx hb dX4_sizeOf_63 (by decide) (fun c8 => ?_) (fun c8 => ?_)
      · have h := h.1 c8
        exact mX4_sizeOf_78 pg ps nf np nq ns po pt rf rl bx xl xr yl yh ms wt pf nr sl cl hu uu pd ro rc C hK ha hN (fun v1 v2 v4 v5 ls H locs h hl hP hS => ih v1 v2 v4 v5 ls H locs h hl hP hS) v1 v2 v4 v5 ls H locs h (lv_sub hl [1, 2, 3, 4, 5] rfl) hP hS
      · have h := h.2 c8
        refine lv_lload_n hx hb dX4_sizeOf_66 rfl (lv_at hl 3 rfl) ?_
        refine lv_aload_n hx hb dX4_sizeOf_67 rfl (lv_at hl 1 rfl) ?_
        refine va_get (D := (dC, dI)) (ci := 4) (v := .ref (q 1)) (C := RX4) (T := TX4) (N := 4) hx hb hts iwX4_sizeOf_X4 hown hK hP 0 rfl rfl 0 (by decide) (hts _ fwX4_sizeOf_12) (fun _ h9 => h9) rfl dX4_sizeOf_68 ?_
        refine lv_iload hx hb dX4_sizeOf_71 (lv_at hl 0 rfl) ?_
        refine cl_l (va_runV (As := [.int r4]) (rest := [.long v2]) ⟨hx, hb, hml, hown, hts⟩ (ktX2_size l dC dI q cI cJ cZ H.size pg ps nf np nq ns po pt rf rl bx xl xr yl yh ms wt pf nr sl cl hu uu pd ro rc r4 h) (cwV 1 hts gX4_sizeOf_X2_size rfl rfl rfl (by decide +kernel) ⟨Nat.le_of_ble_eq_true rfl, Nat.le_of_ble_eq_true rfl⟩) ⟨wd.blind, va_recv hK hP (ci := 2) (q0 := 1) rfl rfl, fun U hU hW => ⟨rfl, wd.at hP hK ha hN hU hW⟩⟩ rfl rfl hl.1 rfl (lv_room (Nat.le_of_ble_eq_true rfl)) dX4_sizeOf_73 ⟨Nat.le_of_ble_eq_true rfl, Nat.le_of_ble_eq_true rfl⟩) hS (fun r9 _ H locs h hP hS => ?_)
        have hP : va_P (dC, dI) vwCl (WC q cI cJ cZ pg ps nf np nq ns po pt rf rl bx xl xr yl yh ms wt pf nr sl cl hu uu pd ro rc) H := hP
        refine lv_ladd hx hb dX4_sizeOf_76 ?_
        refine lv_topl (fun j11 ej11 => ?_)
        have h := h j11 ej11
        refine lv_lstore_n (lv' := [(2, .long j11), (6, .int r4), (0, .ref (q 0)), (1, .int v1), (4, .int v4), (5, .int v5)]) hx hb dX4_sizeOf_77 rfl hl (by decide) rfl (fun ls hl => ?_)
        exact mX4_sizeOf_78 pg ps nf np nq ns po pt rf rl bx xl xr yl yh ms wt pf nr sl cl hu uu pd ro rc C hK ha hN (fun v1 v2 v4 v5 ls H locs h hl hP hS => ih v1 v2 v4 v5 ls H locs h hl hP hS) v1 j11 v4 v5 ls H locs h (lv_sub hl [2, 3, 0, 4, 5] rfl) hP hS
def lpX4_sizeOf_5 (ps : Int32) (bx : (Nat → Int32)) (xl : (Nat → Int32)) (xr : (Nat → Int32)) (yl : (Nat → Int32)) (yh : (Nat → Int32)) (pf : (Nat → Int32)) (hu : (Nat → Int32)) (K : Int64 → Prop) (k90 : Int64 → Prop) : Nat → Int32 → Int64 → Int32 → Prop
  | 0, _, _, _ => False
  | n + 1, v1, v2, v4 => ((ps ≤ v4 → k90 v2) ∧ (¬ (ps ≤ v4) → (∃ z20, lpX4_sizeOf_20 ps bx xl xr yl yh pf hu K (fun (v1 : Int32) (v2 : Int64) (v4 : Int32) => (∀ i13 : Int32, i13 = v4 + 1 → lpX4_sizeOf_5 ps bx xl xr yl yh pf hu K k90 n v1 v2 i13)) z20 v1 v2 v4 0)))
set_option maxHeartbeats 4000000 in
set_option maxRecDepth 100000 in
theorem mX4_sizeOf_5 {p : Program} {l : Launch} {e : Env} {s : State} {m : MethodId} {av : Array Value} {below : List Frame} {meth : Method} {c : Code} {dC : Nat → ClassId} {dI : Nat → Nat → Nat} {cI cJ cZ : ClassId} {q : Nat → Nat} {K : Int64 → Prop} {k90 : Int64 → Prop} (pg : Int32) (ps : Int32) (nf : Int32) (np : Int32) (nq : Int32) (ns : Int32) (po : Int32) (pt : Int32) (rf : Int32) (rl : Int32) (bx : (Nat → Int32)) (xl : (Nat → Int32)) (xr : (Nat → Int32)) (yl : (Nat → Int32)) (yh : (Nat → Int32)) (ms : (Nat → Int32)) (wt : (Nat → Int32)) (pf : (Nat → Int32)) (nr : (Nat → Int64)) (sl : (Nat → Int32)) (cl : (Nat → Int32)) (hu : (Nat → Int32)) (uu : (Nat → Int32)) (pd : (Nat → Int64)) (ro : (Nat → Int32)) (rc : (Nat → Int64)) (C : CX p s m av meth c cX4_sizeOf 7 (some .long) RX4 wsX4_sizeOf) (hK : va_K (dC, dI) vwCl (TY cI cJ cZ) s) (ha : apart q 21) (hN : NX s) (hk90 : ∀ (v2 : Int64) (ls : Array Slot) (H : Heap) (locs : List Loc), k90 v2 → lv_has ls 7 [(2, .long v2)] → va_P (dC, dI) vwCl (WC q cI cJ cZ pg ps nf np nq ns po pt rf rl bx xl xr yl yh ms wt pf nr sl cl hu uu pd ro rc) H → va_S (AF q 21 s.heap.size) s.heap H locs → W p l e { frames := 1, cells := 0, slots := 0, locals := 21 } s m av below meth c H locs 0 0 (MQ below (QX4_sizeOf dC dI cI cJ cZ q s.heap.size pg ps nf np nq ns po pt rf rl bx xl xr yl yh ms wt pf nr sl cl hu uu pd ro rc K) av s 0 0 (AF q 21 s.heap.size)) (F0 m 90 ls [])) : ∀ (n : Nat) (v1 : Int32) (v2 : Int64) (v4 : Int32) (ls : Array Slot) (H : Heap) (locs : List Loc), lpX4_sizeOf_5 ps bx xl xr yl yh pf hu K k90 n v1 v2 v4 → lv_has ls 7 [(0, .ref (q 0)), (1, .int v1), (2, .long v2), (4, .int v4)] → va_P (dC, dI) vwCl (WC q cI cJ cZ pg ps nf np nq ns po pt rf rl bx xl xr yl yh ms wt pf nr sl cl hu uu pd ro rc) H → va_S (AF q 21 s.heap.size) s.heap H locs → W p l e { frames := 1, cells := 0, slots := 0, locals := 21 } s m av below meth c H locs 0 0 (MQ below (QX4_sizeOf dC dI cI cJ cZ q s.heap.size pg ps nf np nq ns po pt rf rl bx xl xr yl yh ms wt pf nr sl cl hu uu pd ro rc K) av s 0 0 (AF q 21 s.heap.size)) (F0 m 5 ls []) := by
  obtain ⟨hx, hb, hr, hml, hown, hts, hlk⟩ := id C
  intro n
  induction n with
  | zero =>
    intro v1 v2 v4 ls H locs h
    exact h.elim
  | succ n ih =>
    intro v1 v2 v4 ls H locs h hl hP hS
    rw [lpX4_sizeOf_5.eq_2] at h
    refine lv_iload hx hb dX4_sizeOf_5 (lv_at hl 3 rfl) ?_
    refine lv_aload_n hx hb dX4_sizeOf_7 rfl (lv_at hl 0 rfl) ?_
    refine va_get (D := (dC, dI)) (ci := 4) (v := .ref (q 1)) (C := RX4) (T := TX4) (N := 4) hx hb hts iwX4_sizeOf_X4 hown hK hP 0 rfl rfl 0 (by decide) (hts _ fwX4_sizeOf_12) (fun _ h9 => h9) rfl dX4_sizeOf_8 ?_
    refine va_get (D := (dC, dI)) (ci := 2) (v := .int ps) (C := RX2) (T := TX2) (N := 9) hx hb hts iwX4_sizeOf_X2 hown hK hP 1 rfl rfl 1 (by decide) (hts _ fwX4_sizeOf_55) (fun _ h9 => h9) rfl dX4_sizeOf_11 ?_
    refine lv_icmp_ge (tgt := 90) hx hb dX4_sizeOf_14 (by decide) (fun c12 => ?_) (fun c12 => ?_)
    · have h := h.1 c12
      exact hk90 v2 ls H locs h (lv_sub hl [2] rfl) hP hS
    · have h := h.2 c12
      refine lv_iconst (v := 0) hx hb dX4_sizeOf_17 (by decide) ?_
      refine lv_istore (lv' := [(5, .int 0), (0, .ref (q 0)), (1, .int v1), (2, .long v2), (4, .int v4)]) hx hb dX4_sizeOf_18 hl (by decide) rfl (fun ls hl => ?_)
      obtain ⟨n9, h⟩ := h
      exact mX4_sizeOf_20 pg ps nf np nq ns po pt rf rl bx xl xr yl yh ms wt pf nr sl cl hu uu pd ro rc C hK ha hN (fun v1 v2 v4 ls H locs h hl hP hS => by
          obtain ⟨i13, ei13⟩ : ∃ y : Int32, y = v4 + 1 := ⟨_, rfl⟩
          refine lv_iinc (v := i13) (lv' := [(4, .int i13), (0, .ref (q 0)), (1, .int v1), (2, .long v2)]) hx hb dX4_sizeOf_84 hl (k := 3) rfl (by rw [ei13]; rfl) (by decide) rfl (fun ls hl => ?_)
          have h := h i13 ei13
          refine lv_goto (tgt := 5) hx hb dX4_sizeOf_87 (by decide) ?_
          exact ih v1 v2 i13 ls H locs h (lv_sub hl [1, 2, 3, 0] rfl) hP hS) n9 v1 v2 v4 0 ls H locs h (lv_sub hl [1, 2, 3, 4, 0] rfl) hP hS
def wX4_sizeOf (ps : Int32) (bx : (Nat → Int32)) (xl : (Nat → Int32)) (xr : (Nat → Int32)) (yl : (Nat → Int32)) (yh : (Nat → Int32)) (pf : (Nat → Int32)) (hu : (Nat → Int32)) (v1 : Int32) (K : Int64 → Prop) : Prop := (∃ z5, lpX4_sizeOf_5 ps bx xl xr yl yh pf hu K (fun (v2 : Int64) => K v2 ) z5 v1 0 0)
set_option maxHeartbeats 4000000 in
set_option maxRecDepth 100000 in
theorem ktX4_sizeOf (l : Launch) (dC : Nat → ClassId) (dI : Nat → Nat → Nat) (q : Nat → Nat) (cI cJ cZ : ClassId) (sz : Nat) (pg : Int32) (ps : Int32) (nf : Int32) (np : Int32) (nq : Int32) (ns : Int32) (po : Int32) (pt : Int32) (rf : Int32) (rl : Int32) (bx : (Nat → Int32)) (xl : (Nat → Int32)) (xr : (Nat → Int32)) (yl : (Nat → Int32)) (yh : (Nat → Int32)) (ms : (Nat → Int32)) (wt : (Nat → Int32)) (pf : (Nat → Int32)) (nr : (Nat → Int64)) (sl : (Nat → Int32)) (cl : (Nat → Int32)) (hu : (Nat → Int32)) (uu : (Nat → Int32)) (pd : (Nat → Int64)) (ro : (Nat → Int32)) (rc : (Nat → Int64)) (v1 : Int32) {K : Int64 → Prop} (h : wX4_sizeOf ps bx xl xr yl yh pf hu v1 K) : Met l yX4_sizeOf wsX4_sizeOf { frames := 1, cells := 0, slots := 0, locals := 21 } (va_Pc [.ref (q 0), .int v1] (wd dC dI cI cJ cZ q 21 sz (WC q cI cJ cZ pg ps nf np nq ns po pt rf rl bx xl xr yl yh ms wt pf nr sl cl hu uu pd ro rc))) (QX4_sizeOf dC dI cI cJ cZ q sz pg ps nf np nq ns po pt rf rl bx xl xr yl yh ms wt pf nr sl cl hu uu pd ro rc K) 0 0 (AF q 21 sz) := by
  refine met_of [.ref (q 0), .int v1] (by decide +kernel) rfl (Nat.le_of_ble_eq_true rfl) ?_
  intro p e s m below meth c ls hsz C hK ha hN hl hP
  subst hsz
  obtain ⟨hx, hb, hr, hml, hown, hts, hlk⟩ := id C
  have hl : lv_has ls 7 [(0, .ref (q 0)), (1, .int v1)] := hl
  refine w_go (Pw := fun H => va_P (dC, dI) vwCl (WC q cI cJ cZ pg ps nf np nq ns po pt rf rl bx xl xr yl yh ms wt pf nr sl cl hu uu pd ro rc) H) (A := AF q 21 s.heap.size) (fun H locs hP hS => ?_) hP
  unfold wX4_sizeOf at h
  refine lv_lconst (v := 0) hx hb dX4_sizeOf_0 (by decide) ?_
  refine lv_lstore_n (lv' := [(2, .long 0), (0, .ref (q 0)), (1, .int v1)]) hx hb dX4_sizeOf_1 rfl hl (by decide) rfl (fun ls hl => ?_)
  refine lv_iconst (v := 0) hx hb dX4_sizeOf_2 (by decide) ?_
  refine lv_istore (lv' := [(4, .int 0), (2, .long 0), (0, .ref (q 0)), (1, .int v1)]) hx hb dX4_sizeOf_3 hl (by decide) rfl (fun ls hl => ?_)
  obtain ⟨n9, h⟩ := h
  exact mX4_sizeOf_5 pg ps nf np nq ns po pt rf rl bx xl xr yl yh ms wt pf nr sl cl hu uu pd ro rc C hK ha hN (fun v2 ls H locs h hl hP hS => by
      refine lv_lload_n hx hb dX4_sizeOf_90 rfl (lv_at hl 0 rfl) ?_
      exact rt_l () hx hb hr hlk h (fun t ht => by rw [ht]; exact hP) hS dX4_sizeOf_91) n9 v1 0 0 ls H locs h (lv_sub hl [2, 3, 1, 0] rfl) hP hS

theorem fwX4_used_30 : Cond.fieldLink RX4 30 "MaskParts" "painter" "LMaskParts$Painter;" ∈ wsX4_used := by decide +kernel
set_option maxRecDepth 20000 in
theorem iwX4_used_X4 : ∀ w ∈ wsX40, w ∈ wsX4_used := by decide +kernel
theorem fwX4_used_128 : Cond.fieldLink RX4 128 "MaskParts$Painter" "outcome" "I" ∈ wsX4_used := by decide +kernel
set_option maxRecDepth 20000 in
theorem iwX4_used_X1 : ∀ w ∈ wsX10, w ∈ wsX4_used := by decide +kernel
abbrev QX4_used (dC : Nat → ClassId) (dI : Nat → Nat → Nat) (cI cJ cZ : ClassId) (q : Nat → Nat) (sz : Nat) (pg : Int32) (ps : Int32) (nf : Int32) (np : Int32) (nq : Int32) (ns : Int32) (po : Int32) (pt : Int32) (rf : Int32) (rl : Int32) (bx : (Nat → Int32)) (xl : (Nat → Int32)) (xr : (Nat → Int32)) (yl : (Nat → Int32)) (yh : (Nat → Int32)) (ms : (Nat → Int32)) (wt : (Nat → Int32)) (pf : (Nat → Int32)) (nr : (Nat → Int64)) (sl : (Nat → Int32)) (cl : (Nat → Int32)) (hu : (Nat → Int32)) (uu : (Nat → Int32)) (pd : (Nat → Int64)) (ro : (Nat → Int32)) (rc : (Nat → Int64)) (K : Int32 → Prop) : Array Value → State → Outcome → State → Prop := va_Qi (fun (r : Int32) (u : Unit) => K r) (fun (u : Unit) t => va_P (dC, dI) vwCl (WC q cI cJ cZ pg ps nf np nq ns po pt rf rl bx xl xr yl yh ms wt pf nr sl cl hu uu pd ro rc) t.heap) (AF q 21 sz)
def wX4_used (np : Int32) (po : Int32) (uu : (Nat → Int32))  (K : Int32 → Prop) : Prop := ((¬ po = 0 → K (-1) ) ∧ (po = 0 → (wX1_stitchesUsed np uu  (fun (r2 : Int32) => K r2 ))))
set_option maxHeartbeats 4000000 in
set_option maxRecDepth 100000 in
theorem ktX4_used (l : Launch) (dC : Nat → ClassId) (dI : Nat → Nat → Nat) (q : Nat → Nat) (cI cJ cZ : ClassId) (sz : Nat) (pg : Int32) (ps : Int32) (nf : Int32) (np : Int32) (nq : Int32) (ns : Int32) (po : Int32) (pt : Int32) (rf : Int32) (rl : Int32) (bx : (Nat → Int32)) (xl : (Nat → Int32)) (xr : (Nat → Int32)) (yl : (Nat → Int32)) (yh : (Nat → Int32)) (ms : (Nat → Int32)) (wt : (Nat → Int32)) (pf : (Nat → Int32)) (nr : (Nat → Int64)) (sl : (Nat → Int32)) (cl : (Nat → Int32)) (hu : (Nat → Int32)) (uu : (Nat → Int32)) (pd : (Nat → Int64)) (ro : (Nat → Int32)) (rc : (Nat → Int64))  {K : Int32 → Prop} (h : wX4_used np po uu K) : Met l yX4_used wsX4_used { frames := 1, cells := 0, slots := 0, locals := 20 } (va_Pc [.ref (q 0)] (wd dC dI cI cJ cZ q 21 sz (WC q cI cJ cZ pg ps nf np nq ns po pt rf rl bx xl xr yl yh ms wt pf nr sl cl hu uu pd ro rc))) (QX4_used dC dI cI cJ cZ q sz pg ps nf np nq ns po pt rf rl bx xl xr yl yh ms wt pf nr sl cl hu uu pd ro rc K) 0 0 (AF q 21 sz) := by
  refine met_of [.ref (q 0)] (by decide +kernel) rfl (Nat.le_of_ble_eq_true rfl) ?_
  intro p e s m below meth c ls hsz C hK ha hN hl hP
  subst hsz
  obtain ⟨hx, hb, hr, hml, hown, hts, hlk⟩ := id C
  have hl : lv_has ls 1 [(0, .ref (q 0))] := hl
  refine w_go (Pw := fun H => va_P (dC, dI) vwCl (WC q cI cJ cZ pg ps nf np nq ns po pt rf rl bx xl xr yl yh ms wt pf nr sl cl hu uu pd ro rc) H) (A := AF q 21 s.heap.size) (fun H locs hP hS => ?_) hP
  unfold wX4_used at h
  refine lv_aload_n hx hb dX4_used_0 rfl (lv_at hl 0 rfl) ?_
  refine va_get (D := (dC, dI)) (ci := 4) (v := .ref (q 3)) (C := RX4) (T := TX4) (N := 4) hx hb hts iwX4_used_X4 hown hK hP 0 rfl rfl 2 (by decide) (hts _ fwX4_used_30) (fun _ h9 => h9) rfl dX4_used_1 ?_
  refine va_get (D := (dC, dI)) (ci := 1) (v := .int po) (C := RX1) (T := TX1) (N := 6) hx hb hts iwX4_used_X1 hown hK hP 3 rfl rfl 1 (by decide) (hts _ fwX4_used_128) (fun _ h9 => h9) rfl dX4_used_4 ?_
  refine lv_if_ne (tgt := 20) hx hb dX4_used_7 (by decide) (fun c1 => ?_) (fun c1 => ?_)
  · have h := h.1 c1
    refine lv_iconst (v := (-1)) hx hb dX4_used_20 (by decide) ?_
    exact rt_i () hx hb hr hlk h (fun t ht => by rw [ht]; exact hP) hS dX4_used_21
  · have h := h.2 c1
    refine lv_aload_n hx hb dX4_used_10 rfl (lv_at hl 0 rfl) ?_
    refine va_get (D := (dC, dI)) (ci := 4) (v := .ref (q 3)) (C := RX4) (T := TX4) (N := 4) hx hb hts iwX4_used_X4 hown hK hP 0 rfl rfl 2 (by decide) (hts _ fwX4_used_30) (fun _ h9 => h9) rfl dX4_used_11 ?_
    refine cl_i (va_runV (As := []) (rest := []) ⟨hx, hb, hml, hown, hts⟩ (ktX1_stitchesUsed l dC dI q cI cJ cZ H.size pg ps nf np nq ns po pt rf rl bx xl xr yl yh ms wt pf nr sl cl hu uu pd ro rc  h) (cwV 0 hts gX4_used_X1_stitchesUsed rfl rfl rfl (by decide +kernel) ⟨Nat.le_of_ble_eq_true rfl, Nat.le_of_ble_eq_true rfl⟩) ⟨wd.blind, va_recv hK hP (ci := 1) (q0 := 3) rfl rfl, fun U hU hW => ⟨rfl, wd.at hP hK ha hN hU hW⟩⟩ rfl rfl hl.1 rfl (lv_room (Nat.le_of_ble_eq_true rfl)) dX4_used_14 ⟨Nat.le_of_ble_eq_true rfl, Nat.le_of_ble_eq_true rfl⟩) hS (fun r2 _ H locs h hP hS => ?_)
    have hP : va_P (dC, dI) vwCl (WC q cI cJ cZ pg ps nf np nq ns po pt rf rl bx xl xr yl yh ms wt pf nr sl cl hu uu pd ro rc) H := hP
    refine lv_goto (tgt := 21) hx hb dX4_used_17 (by decide) ?_
    exact rt_i () hx hb hr hlk h (fun t ht => by rw [ht]; exact hP) hS dX4_used_21

theorem fwX4_steps_30 : Cond.fieldLink RX4 30 "MaskParts" "painter" "LMaskParts$Painter;" ∈ wsX4_steps := by decide +kernel
set_option maxRecDepth 20000 in
theorem iwX4_steps_X4 : ∀ w ∈ wsX40, w ∈ wsX4_steps := by decide +kernel
theorem fwX4_steps_138 : Cond.fieldLink RX4 138 "MaskParts$Painter" "taken" "I" ∈ wsX4_steps := by decide +kernel
set_option maxRecDepth 20000 in
theorem iwX4_steps_X1 : ∀ w ∈ wsX10, w ∈ wsX4_steps := by decide +kernel
abbrev QX4_steps (dC : Nat → ClassId) (dI : Nat → Nat → Nat) (cI cJ cZ : ClassId) (q : Nat → Nat) (sz : Nat) (pg : Int32) (ps : Int32) (nf : Int32) (np : Int32) (nq : Int32) (ns : Int32) (po : Int32) (pt : Int32) (rf : Int32) (rl : Int32) (bx : (Nat → Int32)) (xl : (Nat → Int32)) (xr : (Nat → Int32)) (yl : (Nat → Int32)) (yh : (Nat → Int32)) (ms : (Nat → Int32)) (wt : (Nat → Int32)) (pf : (Nat → Int32)) (nr : (Nat → Int64)) (sl : (Nat → Int32)) (cl : (Nat → Int32)) (hu : (Nat → Int32)) (uu : (Nat → Int32)) (pd : (Nat → Int64)) (ro : (Nat → Int32)) (rc : (Nat → Int64)) (K : Int32 → Prop) : Array Value → State → Outcome → State → Prop := va_Qi (fun (r : Int32) (u : Unit) => K r) (fun (u : Unit) t => va_P (dC, dI) vwCl (WC q cI cJ cZ pg ps nf np nq ns po pt rf rl bx xl xr yl yh ms wt pf nr sl cl hu uu pd ro rc) t.heap) (AF q 21 sz)
def wX4_steps (pt : Int32)  (K : Int32 → Prop) : Prop := K pt 
set_option maxHeartbeats 4000000 in
set_option maxRecDepth 100000 in
theorem ktX4_steps (l : Launch) (dC : Nat → ClassId) (dI : Nat → Nat → Nat) (q : Nat → Nat) (cI cJ cZ : ClassId) (sz : Nat) (pg : Int32) (ps : Int32) (nf : Int32) (np : Int32) (nq : Int32) (ns : Int32) (po : Int32) (pt : Int32) (rf : Int32) (rl : Int32) (bx : (Nat → Int32)) (xl : (Nat → Int32)) (xr : (Nat → Int32)) (yl : (Nat → Int32)) (yh : (Nat → Int32)) (ms : (Nat → Int32)) (wt : (Nat → Int32)) (pf : (Nat → Int32)) (nr : (Nat → Int64)) (sl : (Nat → Int32)) (cl : (Nat → Int32)) (hu : (Nat → Int32)) (uu : (Nat → Int32)) (pd : (Nat → Int64)) (ro : (Nat → Int32)) (rc : (Nat → Int64))  {K : Int32 → Prop} (h : wX4_steps pt K) : Met l yX4_steps wsX4_steps { frames := 0, cells := 0, slots := 0, locals := 0 } (va_Pc [.ref (q 0)] (wd dC dI cI cJ cZ q 21 sz (WC q cI cJ cZ pg ps nf np nq ns po pt rf rl bx xl xr yl yh ms wt pf nr sl cl hu uu pd ro rc))) (QX4_steps dC dI cI cJ cZ q sz pg ps nf np nq ns po pt rf rl bx xl xr yl yh ms wt pf nr sl cl hu uu pd ro rc K) 0 0 (AF q 21 sz) := by
  refine met_of [.ref (q 0)] (by decide +kernel) rfl (Nat.le_of_ble_eq_true rfl) ?_
  intro p e s m below meth c ls hsz C hK ha hN hl hP
  subst hsz
  obtain ⟨hx, hb, hr, hml, hown, hts, hlk⟩ := id C
  have hl : lv_has ls 1 [(0, .ref (q 0))] := hl
  refine w_go (Pw := fun H => va_P (dC, dI) vwCl (WC q cI cJ cZ pg ps nf np nq ns po pt rf rl bx xl xr yl yh ms wt pf nr sl cl hu uu pd ro rc) H) (A := AF q 21 s.heap.size) (fun H locs hP hS => ?_) hP
  unfold wX4_steps at h
  refine lv_aload_n hx hb dX4_steps_0 rfl (lv_at hl 0 rfl) ?_
  refine va_get (D := (dC, dI)) (ci := 4) (v := .ref (q 3)) (C := RX4) (T := TX4) (N := 4) hx hb hts iwX4_steps_X4 hown hK hP 0 rfl rfl 2 (by decide) (hts _ fwX4_steps_30) (fun _ h9 => h9) rfl dX4_steps_1 ?_
  refine va_get (D := (dC, dI)) (ci := 1) (v := .int pt) (C := RX1) (T := TX1) (N := 6) hx hb hts iwX4_steps_X1 hown hK hP 3 rfl rfl 2 (by decide) (hts _ fwX4_steps_138) (fun _ h9 => h9) rfl dX4_steps_4 ?_
  exact rt_i () hx hb hr hlk h (fun t ht => by rw [ht]; exact hP) hS dX4_steps_7

theorem fwX4_ring_21 : Cond.fieldLink RX4 21 "MaskParts" "net" "LMaskParts$Net;" ∈ wsX4_ring := by decide +kernel
set_option maxRecDepth 20000 in
theorem iwX4_ring_X4 : ∀ w ∈ wsX40, w ∈ wsX4_ring := by decide +kernel
theorem fwX4_ring_37 : Cond.fieldLink RX4 37 "MaskParts" "oddRing" "LMaskParts$Ring;" ∈ wsX4_ring := by decide +kernel
theorem fwX4_ring_146 : Cond.fieldLink RX4 146 "MaskParts$Ring" "length" "I" ∈ wsX4_ring := by decide +kernel
set_option maxRecDepth 20000 in
theorem iwX4_ring_X3 : ∀ w ∈ wsX30, w ∈ wsX4_ring := by decide +kernel
abbrev QX4_ring (dC : Nat → ClassId) (dI : Nat → Nat → Nat) (cI cJ cZ : ClassId) (q : Nat → Nat) (sz : Nat) (pg : Int32) (ps : Int32) (po : Int32) (pt : Int32) (bx : (Nat → Int32)) (xl : (Nat → Int32)) (xr : (Nat → Int32)) (yl : (Nat → Int32)) (yh : (Nat → Int32)) (ms : (Nat → Int32)) (wt : (Nat → Int32)) (hu : (Nat → Int32)) (uu : (Nat → Int32)) (pd : (Nat → Int64)) (K : Int32 → (Int32 × Int32 × Int32 × Int32 × Int32 × Int32 × (Nat → Int32) × (Nat → Int64) × (Nat → Int32) × (Nat → Int32) × (Nat → Int32) × (Nat → Int64)) → Prop) : Array Value → State → Outcome → State → Prop := va_Qi (fun (r : Int32) (u : Int32 × Int32 × Int32 × Int32 × Int32 × Int32 × (Nat → Int32) × (Nat → Int64) × (Nat → Int32) × (Nat → Int32) × (Nat → Int32) × (Nat → Int64)) => K r u) (fun (u : Int32 × Int32 × Int32 × Int32 × Int32 × Int32 × (Nat → Int32) × (Nat → Int64) × (Nat → Int32) × (Nat → Int32) × (Nat → Int32) × (Nat → Int64)) t => va_P (dC, dI) vwCl (WC q cI cJ cZ pg ps u.1 u.2.1 u.2.2.1 u.2.2.2.1 po pt u.2.2.2.2.1 u.2.2.2.2.2.1 bx xl xr yl yh ms wt u.2.2.2.2.2.2.1 u.2.2.2.2.2.2.2.1 u.2.2.2.2.2.2.2.2.1 u.2.2.2.2.2.2.2.2.2.1 hu uu pd u.2.2.2.2.2.2.2.2.2.2.1 u.2.2.2.2.2.2.2.2.2.2.2) t.heap) (AF q 21 sz)
def wX4_ring (pg : Int32) (ps : Int32) (bx : (Nat → Int32)) (xl : (Nat → Int32)) (xr : (Nat → Int32)) (yl : (Nat → Int32)) (yh : (Nat → Int32)) (ms : (Nat → Int32)) (wt : (Nat → Int32)) (nf : Int32) (np : Int32) (nq : Int32) (ns : Int32) (rf : Int32) (rl : Int32) (pf : (Nat → Int32)) (nr : (Nat → Int64)) (sl : (Nat → Int32)) (cl : (Nat → Int32)) (ro : (Nat → Int32)) (rc : (Nat → Int64))  (K : Int32 → (Int32 × Int32 × Int32 × Int32 × Int32 × Int32 × (Nat → Int32) × (Nat → Int64) × (Nat → Int32) × (Nat → Int32) × (Nat → Int32) × (Nat → Int64)) → Prop) : Prop := (wX0_refresh pg ps bx xl xr yl yh ms wt nf np nq ns pf nr sl cl  (fun (u2 : Int32 × Int32 × Int32 × Int32 × (Nat → Int32) × (Nat → Int64) × (Nat → Int32) × (Nat → Int32)) => (wX3_refresh u2.2.1 u2.2.2.2.2.2.1 rf rl ro rc  (fun (u4 : Int32 × Int32 × (Nat → Int32) × (Nat → Int64)) => K u4.2.1 (u2.1, u2.2.1, u2.2.2.1, u2.2.2.2.1, u4.1, u4.2.1, u2.2.2.2.2.1, u2.2.2.2.2.2.1, u2.2.2.2.2.2.2.1, u2.2.2.2.2.2.2.2, u4.2.2.1, u4.2.2.2)))))
set_option maxHeartbeats 4000000 in
set_option maxRecDepth 100000 in
theorem ktX4_ring (l : Launch) (dC : Nat → ClassId) (dI : Nat → Nat → Nat) (q : Nat → Nat) (cI cJ cZ : ClassId) (sz : Nat) (pg : Int32) (ps : Int32) (nf : Int32) (np : Int32) (nq : Int32) (ns : Int32) (po : Int32) (pt : Int32) (rf : Int32) (rl : Int32) (bx : (Nat → Int32)) (xl : (Nat → Int32)) (xr : (Nat → Int32)) (yl : (Nat → Int32)) (yh : (Nat → Int32)) (ms : (Nat → Int32)) (wt : (Nat → Int32)) (pf : (Nat → Int32)) (nr : (Nat → Int64)) (sl : (Nat → Int32)) (cl : (Nat → Int32)) (hu : (Nat → Int32)) (uu : (Nat → Int32)) (pd : (Nat → Int64)) (ro : (Nat → Int32)) (rc : (Nat → Int64))  {K : Int32 → (Int32 × Int32 × Int32 × Int32 × Int32 × Int32 × (Nat → Int32) × (Nat → Int64) × (Nat → Int32) × (Nat → Int32) × (Nat → Int32) × (Nat → Int64)) → Prop} (h : wX4_ring pg ps bx xl xr yl yh ms wt nf np nq ns rf rl pf nr sl cl ro rc K) : Met l yX4_ring wsX4_ring { frames := 6, cells := 0, slots := 0, locals := 141 } (va_Pc [.ref (q 0)] (wd dC dI cI cJ cZ q 21 sz (WC q cI cJ cZ pg ps nf np nq ns po pt rf rl bx xl xr yl yh ms wt pf nr sl cl hu uu pd ro rc))) (QX4_ring dC dI cI cJ cZ q sz pg ps po pt bx xl xr yl yh ms wt hu uu pd K) 0 0 (AF q 21 sz) := by
  refine met_of [.ref (q 0)] (by decide +kernel) rfl (Nat.le_of_ble_eq_true rfl) ?_
  intro p e s m below meth c ls hsz C hK ha hN hl hP
  subst hsz
  obtain ⟨hx, hb, hr, hml, hown, hts, hlk⟩ := id C
  have hl : lv_has ls 1 [(0, .ref (q 0))] := hl
  refine w_go (Pw := fun H => va_P (dC, dI) vwCl (WC q cI cJ cZ pg ps nf np nq ns po pt rf rl bx xl xr yl yh ms wt pf nr sl cl hu uu pd ro rc) H) (A := AF q 21 s.heap.size) (fun H locs hP hS => ?_) hP
  unfold wX4_ring at h
  refine lv_aload_n hx hb dX4_ring_0 rfl (lv_at hl 0 rfl) ?_
  refine va_get (D := (dC, dI)) (ci := 4) (v := .ref (q 2)) (C := RX4) (T := TX4) (N := 4) hx hb hts iwX4_ring_X4 hown hK hP 0 rfl rfl 1 (by decide) (hts _ fwX4_ring_21) (fun _ h9 => h9) rfl dX4_ring_1 ?_
  refine cl_v (va_runV (As := []) (rest := []) ⟨hx, hb, hml, hown, hts⟩ (ktX0_refresh l dC dI q cI cJ cZ H.size pg ps nf np nq ns po pt rf rl bx xl xr yl yh ms wt pf nr sl cl hu uu pd ro rc  h) (cwV 0 hts gX4_ring_X0_refresh rfl rfl rfl (by decide +kernel) ⟨Nat.le_of_ble_eq_true rfl, Nat.le_of_ble_eq_true rfl⟩) ⟨wd.blind, va_recv hK hP (ci := 0) (q0 := 2) rfl rfl, fun U hU hW => ⟨rfl, wd.at hP hK ha hN hU hW⟩⟩ rfl rfl hl.1 rfl (lv_room (Nat.le_of_ble_eq_true rfl)) dX4_ring_4 ⟨Nat.le_of_ble_eq_true rfl, Nat.le_of_ble_eq_true rfl⟩) hS (fun u2 H locs h hP hS => ?_)
  have hP : va_P (dC, dI) vwCl (WC q cI cJ cZ pg ps u2.1 u2.2.1 u2.2.2.1 u2.2.2.2.1 po pt rf rl bx xl xr yl yh ms wt u2.2.2.2.2.1 u2.2.2.2.2.2.1 u2.2.2.2.2.2.2.1 u2.2.2.2.2.2.2.2 hu uu pd ro rc) H := hP
  refine lv_aload_n hx hb dX4_ring_7 rfl (lv_at hl 0 rfl) ?_
  refine va_get (D := (dC, dI)) (ci := 4) (v := .ref (q 4)) (C := RX4) (T := TX4) (N := 4) hx hb hts iwX4_ring_X4 hown hK hP 0 rfl rfl 3 (by decide) (hts _ fwX4_ring_37) (fun _ h9 => h9) rfl dX4_ring_8 ?_
  refine cl_v (va_runV (As := []) (rest := []) ⟨hx, hb, hml, hown, hts⟩ (ktX3_refresh l dC dI q cI cJ cZ H.size pg ps u2.1 u2.2.1 u2.2.2.1 u2.2.2.2.1 po pt rf rl bx xl xr yl yh ms wt u2.2.2.2.2.1 u2.2.2.2.2.2.1 u2.2.2.2.2.2.2.1 u2.2.2.2.2.2.2.2 hu uu pd ro rc  h) (cwV 0 hts gX4_ring_X3_refresh rfl rfl rfl (by decide +kernel) ⟨Nat.le_of_ble_eq_true rfl, Nat.le_of_ble_eq_true rfl⟩) ⟨wd.blind, va_recv hK hP (ci := 3) (q0 := 4) rfl rfl, fun U hU hW => ⟨rfl, wd.at hP hK ha hN hU hW⟩⟩ rfl rfl hl.1 rfl (lv_room (Nat.le_of_ble_eq_true rfl)) dX4_ring_11 ⟨Nat.le_of_ble_eq_true rfl, Nat.le_of_ble_eq_true rfl⟩) hS (fun u4 H locs h hP hS => ?_)
  have hP : va_P (dC, dI) vwCl (WC q cI cJ cZ pg ps u2.1 u2.2.1 u2.2.2.1 u2.2.2.2.1 po pt u4.1 u4.2.1 bx xl xr yl yh ms wt u2.2.2.2.2.1 u2.2.2.2.2.2.1 u2.2.2.2.2.2.2.1 u2.2.2.2.2.2.2.2 hu uu pd u4.2.2.1 u4.2.2.2) H := hP
  refine lv_aload_n hx hb dX4_ring_14 rfl (lv_at hl 0 rfl) ?_
  refine va_get (D := (dC, dI)) (ci := 4) (v := .ref (q 4)) (C := RX4) (T := TX4) (N := 4) hx hb hts iwX4_ring_X4 hown hK hP 0 rfl rfl 3 (by decide) (hts _ fwX4_ring_37) (fun _ h9 => h9) rfl dX4_ring_15 ?_
  refine va_get (D := (dC, dI)) (ci := 3) (v := .int u4.2.1) (C := RX3) (T := TX3) (N := 5) hx hb hts iwX4_ring_X3 hown hK hP 4 rfl rfl 2 (by decide) (hts _ fwX4_ring_146) (fun _ h9 => h9) rfl dX4_ring_18 ?_
  exact rt_i (u2.1, u2.2.1, u2.2.2.1, u2.2.2.2.1, u4.1, u4.2.1, u2.2.2.2.2.1, u2.2.2.2.2.2.1, u2.2.2.2.2.2.2.1, u2.2.2.2.2.2.2.2, u4.2.2.1, u4.2.2.2) hx hb hr hlk h (fun t ht => by rw [ht]; exact hP) hS dX4_ring_21

theorem fwX4_groups_21 : Cond.fieldLink RX4 21 "MaskParts" "net" "LMaskParts$Net;" ∈ wsX4_groups := by decide +kernel
set_option maxRecDepth 20000 in
theorem iwX4_groups_X4 : ∀ w ∈ wsX40, w ∈ wsX4_groups := by decide +kernel
abbrev QX4_groups (dC : Nat → ClassId) (dI : Nat → Nat → Nat) (cI cJ cZ : ClassId) (q : Nat → Nat) (sz : Nat) (pg : Int32) (ps : Int32) (po : Int32) (pt : Int32) (rf : Int32) (rl : Int32) (bx : (Nat → Int32)) (xl : (Nat → Int32)) (xr : (Nat → Int32)) (yl : (Nat → Int32)) (yh : (Nat → Int32)) (ms : (Nat → Int32)) (wt : (Nat → Int32)) (hu : (Nat → Int32)) (uu : (Nat → Int32)) (pd : (Nat → Int64)) (ro : (Nat → Int32)) (rc : (Nat → Int64)) (K : Int32 → (Int32 × Int32 × Int32 × Int32 × (Nat → Int32) × (Nat → Int64) × (Nat → Int32) × (Nat → Int32)) → Prop) : Array Value → State → Outcome → State → Prop := va_Qi (fun (r : Int32) (u : Int32 × Int32 × Int32 × Int32 × (Nat → Int32) × (Nat → Int64) × (Nat → Int32) × (Nat → Int32)) => K r u) (fun (u : Int32 × Int32 × Int32 × Int32 × (Nat → Int32) × (Nat → Int64) × (Nat → Int32) × (Nat → Int32)) t => va_P (dC, dI) vwCl (WC q cI cJ cZ pg ps u.1 u.2.1 u.2.2.1 u.2.2.2.1 po pt rf rl bx xl xr yl yh ms wt u.2.2.2.2.1 u.2.2.2.2.2.1 u.2.2.2.2.2.2.1 u.2.2.2.2.2.2.2 hu uu pd ro rc) t.heap) (AF q 21 sz)
def wX4_groups (pg : Int32) (ps : Int32) (bx : (Nat → Int32)) (xl : (Nat → Int32)) (xr : (Nat → Int32)) (yl : (Nat → Int32)) (yh : (Nat → Int32)) (ms : (Nat → Int32)) (wt : (Nat → Int32)) (nf : Int32) (np : Int32) (nq : Int32) (ns : Int32) (pf : (Nat → Int32)) (nr : (Nat → Int64)) (sl : (Nat → Int32)) (cl : (Nat → Int32))  (K : Int32 → (Int32 × Int32 × Int32 × Int32 × (Nat → Int32) × (Nat → Int64) × (Nat → Int32) × (Nat → Int32)) → Prop) : Prop := (wX0_refresh pg ps bx xl xr yl yh ms wt nf np nq ns pf nr sl cl  (fun (u2 : Int32 × Int32 × Int32 × Int32 × (Nat → Int32) × (Nat → Int64) × (Nat → Int32) × (Nat → Int32)) => (wX0_countGroups u2.2.1 u2.2.2.2.2.2.1 u2.2.2.2.2.2.2.1  (fun (r3 : Int32) => K r3 (u2.1, u2.2.1, u2.2.2.1, u2.2.2.2.1, u2.2.2.2.2.1, u2.2.2.2.2.2.1, u2.2.2.2.2.2.2.1, u2.2.2.2.2.2.2.2)))))
set_option maxHeartbeats 4000000 in
set_option maxRecDepth 100000 in
theorem ktX4_groups (l : Launch) (dC : Nat → ClassId) (dI : Nat → Nat → Nat) (q : Nat → Nat) (cI cJ cZ : ClassId) (sz : Nat) (pg : Int32) (ps : Int32) (nf : Int32) (np : Int32) (nq : Int32) (ns : Int32) (po : Int32) (pt : Int32) (rf : Int32) (rl : Int32) (bx : (Nat → Int32)) (xl : (Nat → Int32)) (xr : (Nat → Int32)) (yl : (Nat → Int32)) (yh : (Nat → Int32)) (ms : (Nat → Int32)) (wt : (Nat → Int32)) (pf : (Nat → Int32)) (nr : (Nat → Int64)) (sl : (Nat → Int32)) (cl : (Nat → Int32)) (hu : (Nat → Int32)) (uu : (Nat → Int32)) (pd : (Nat → Int64)) (ro : (Nat → Int32)) (rc : (Nat → Int64))  {K : Int32 → (Int32 × Int32 × Int32 × Int32 × (Nat → Int32) × (Nat → Int64) × (Nat → Int32) × (Nat → Int32)) → Prop} (h : wX4_groups pg ps bx xl xr yl yh ms wt nf np nq ns pf nr sl cl K) : Met l yX4_groups wsX4_groups { frames := 6, cells := 0, slots := 0, locals := 141 } (va_Pc [.ref (q 0)] (wd dC dI cI cJ cZ q 21 sz (WC q cI cJ cZ pg ps nf np nq ns po pt rf rl bx xl xr yl yh ms wt pf nr sl cl hu uu pd ro rc))) (QX4_groups dC dI cI cJ cZ q sz pg ps po pt rf rl bx xl xr yl yh ms wt hu uu pd ro rc K) 0 0 (AF q 21 sz) := by
  refine met_of [.ref (q 0)] (by decide +kernel) rfl (Nat.le_of_ble_eq_true rfl) ?_
  intro p e s m below meth c ls hsz C hK ha hN hl hP
  subst hsz
  obtain ⟨hx, hb, hr, hml, hown, hts, hlk⟩ := id C
  have hl : lv_has ls 1 [(0, .ref (q 0))] := hl
  refine w_go (Pw := fun H => va_P (dC, dI) vwCl (WC q cI cJ cZ pg ps nf np nq ns po pt rf rl bx xl xr yl yh ms wt pf nr sl cl hu uu pd ro rc) H) (A := AF q 21 s.heap.size) (fun H locs hP hS => ?_) hP
  unfold wX4_groups at h
  refine lv_aload_n hx hb dX4_groups_0 rfl (lv_at hl 0 rfl) ?_
  refine va_get (D := (dC, dI)) (ci := 4) (v := .ref (q 2)) (C := RX4) (T := TX4) (N := 4) hx hb hts iwX4_groups_X4 hown hK hP 0 rfl rfl 1 (by decide) (hts _ fwX4_groups_21) (fun _ h9 => h9) rfl dX4_groups_1 ?_
  refine cl_v (va_runV (As := []) (rest := []) ⟨hx, hb, hml, hown, hts⟩ (ktX0_refresh l dC dI q cI cJ cZ H.size pg ps nf np nq ns po pt rf rl bx xl xr yl yh ms wt pf nr sl cl hu uu pd ro rc  h) (cwV 0 hts gX4_groups_X0_refresh rfl rfl rfl (by decide +kernel) ⟨Nat.le_of_ble_eq_true rfl, Nat.le_of_ble_eq_true rfl⟩) ⟨wd.blind, va_recv hK hP (ci := 0) (q0 := 2) rfl rfl, fun U hU hW => ⟨rfl, wd.at hP hK ha hN hU hW⟩⟩ rfl rfl hl.1 rfl (lv_room (Nat.le_of_ble_eq_true rfl)) dX4_groups_4 ⟨Nat.le_of_ble_eq_true rfl, Nat.le_of_ble_eq_true rfl⟩) hS (fun u2 H locs h hP hS => ?_)
  have hP : va_P (dC, dI) vwCl (WC q cI cJ cZ pg ps u2.1 u2.2.1 u2.2.2.1 u2.2.2.2.1 po pt rf rl bx xl xr yl yh ms wt u2.2.2.2.2.1 u2.2.2.2.2.2.1 u2.2.2.2.2.2.2.1 u2.2.2.2.2.2.2.2 hu uu pd ro rc) H := hP
  refine lv_aload_n hx hb dX4_groups_7 rfl (lv_at hl 0 rfl) ?_
  refine va_get (D := (dC, dI)) (ci := 4) (v := .ref (q 2)) (C := RX4) (T := TX4) (N := 4) hx hb hts iwX4_groups_X4 hown hK hP 0 rfl rfl 1 (by decide) (hts _ fwX4_groups_21) (fun _ h9 => h9) rfl dX4_groups_8 ?_
  refine cl_i (va_runV (As := []) (rest := []) ⟨hx, hb, hml, hown, hts⟩ (ktX0_countGroups l dC dI q cI cJ cZ H.size pg ps u2.1 u2.2.1 u2.2.2.1 u2.2.2.2.1 po pt rf rl bx xl xr yl yh ms wt u2.2.2.2.2.1 u2.2.2.2.2.2.1 u2.2.2.2.2.2.2.1 u2.2.2.2.2.2.2.2 hu uu pd ro rc  h) (cwV 0 hts gX4_groups_X0_countGroups rfl rfl rfl (by decide +kernel) ⟨Nat.le_of_ble_eq_true rfl, Nat.le_of_ble_eq_true rfl⟩) ⟨wd.blind, va_recv hK hP (ci := 0) (q0 := 2) rfl rfl, fun U hU hW => ⟨rfl, wd.at hP hK ha hN hU hW⟩⟩ rfl rfl hl.1 rfl (lv_room (Nat.le_of_ble_eq_true rfl)) dX4_groups_11 ⟨Nat.le_of_ble_eq_true rfl, Nat.le_of_ble_eq_true rfl⟩) hS (fun r3 _ H locs h hP hS => ?_)
  have hP : va_P (dC, dI) vwCl (WC q cI cJ cZ pg ps u2.1 u2.2.1 u2.2.2.1 u2.2.2.2.1 po pt rf rl bx xl xr yl yh ms wt u2.2.2.2.2.1 u2.2.2.2.2.2.1 u2.2.2.2.2.2.2.1 u2.2.2.2.2.2.2.2 hu uu pd ro rc) H := hP
  exact rt_i (u2.1, u2.2.1, u2.2.2.1, u2.2.2.2.1, u2.2.2.2.2.1, u2.2.2.2.2.2.1, u2.2.2.2.2.2.2.1, u2.2.2.2.2.2.2.2) hx hb hr hlk h (fun t ht => by rw [ht]; exact hP) hS dX4_groups_14

theorem fwX4_needSlot_12 : Cond.fieldLink RX4 12 "MaskParts" "plan" "LMaskParts$Plan;" ∈ wsX4_needSlot := by decide +kernel
set_option maxRecDepth 20000 in
theorem iwX4_needSlot_X4 : ∀ w ∈ wsX40, w ∈ wsX4_needSlot := by decide +kernel
theorem xkX4_needSlot_67 : Cond.classLink RX4 67 "java/lang/IndexOutOfBoundsException" ∈ wsX4_needSlot := by decide +kernel
theorem xiX4_needSlot_67 : Cond.initialized "java/lang/IndexOutOfBoundsException" ∈ wsX4_needSlot := by decide +kernel
set_option maxRecDepth 20000 in
theorem xgX4_needSlot_71 : ∀ w ∈ (vx_atS RX4 71 "java/lang/IndexOutOfBoundsException" NM).filter goodWord, w ∈ wsX4_needSlot := by decide +kernel
theorem fwX4_needSlot_78 : Cond.fieldLink RX4 78 "MaskParts$Plan" "boxes" "[I" ∈ wsX4_needSlot := by decide +kernel
set_option maxRecDepth 20000 in
theorem iwX4_needSlot_X2 : ∀ w ∈ wsX20, w ∈ wsX4_needSlot := by decide +kernel
abbrev QX4_needSlot (dC : Nat → ClassId) (dI : Nat → Nat → Nat) (cI cJ cZ : ClassId) (q : Nat → Nat) (sz : Nat) (pg : Int32) (ps : Int32) (nf : Int32) (np : Int32) (nq : Int32) (ns : Int32) (po : Int32) (pt : Int32) (rf : Int32) (rl : Int32) (bx : (Nat → Int32)) (xl : (Nat → Int32)) (xr : (Nat → Int32)) (yl : (Nat → Int32)) (yh : (Nat → Int32)) (ms : (Nat → Int32)) (wt : (Nat → Int32)) (pf : (Nat → Int32)) (nr : (Nat → Int64)) (sl : (Nat → Int32)) (cl : (Nat → Int32)) (hu : (Nat → Int32)) (uu : (Nat → Int32)) (pd : (Nat → Int64)) (ro : (Nat → Int32)) (rc : (Nat → Int64)) (K : Int32 → Prop) : Array Value → State → Outcome → State → Prop := va_Qi (fun (r : Int32) (u : Unit) => K r) (fun (u : Unit) t => va_P (dC, dI) vwCl (WC q cI cJ cZ pg ps nf np nq ns po pt rf rl bx xl xr yl yh ms wt pf nr sl cl hu uu pd ro rc) t.heap) (AF q 21 sz)
abbrev XCX4_needSlot (dC : Nat → ClassId) (dI : Nat → Nat → Nat) (cI cJ cZ : ClassId) (q : Nat → Nat) (sz : Nat) (pg : Int32) (ps : Int32) (nf : Int32) (np : Int32) (nq : Int32) (ns : Int32) (po : Int32) (pt : Int32) (rf : Int32) (rl : Int32) (bx : (Nat → Int32)) (xl : (Nat → Int32)) (xr : (Nat → Int32)) (yl : (Nat → Int32)) (yh : (Nat → Int32)) (ms : (Nat → Int32)) (wt : (Nat → Int32)) (pf : (Nat → Int32)) (nr : (Nat → Int64)) (sl : (Nat → Int32)) (cl : (Nat → Int32)) (hu : (Nat → Int32)) (uu : (Nat → Int32)) (pd : (Nat → Int64)) (ro : (Nat → Int32)) (rc : (Nat → Int64)) (KX : String → Prop) : String → State → State → Prop := XX (dC, dI) q 21 sz (fun E (_ : Unit) => KX E) (fun (u : Unit) => WC q cI cJ cZ pg ps nf np nq ns po pt rf rl bx xl xr yl yh ms wt pf nr sl cl hu uu pd ro rc)
def wX4_needSlot (ps : Int32) (bx : (Nat → Int32)) (v1 : Int32) (v2 : Int32) (K : Int32 → Prop) (KX : String → Prop) : Prop := (wX2_hasShape ps v1 (fun (r1 : Int32) => ((r1 = 0 → KX "java/lang/IndexOutOfBoundsException") ∧ (¬ (r1 = 0) → ((v2 < 0 → KX "java/lang/IndexOutOfBoundsException") ∧ (¬ (v2 < 0) → (vp_in v1 10 ∧ ((v2 < (bx v1.toNatClampNeg) → (wX2_slot v1 v2 (fun r7 : Int32 => K r7 ))) ∧ (¬ (v2 < (bx v1.toNatClampNeg)) → KX "java/lang/IndexOutOfBoundsException")))))))))
set_option maxHeartbeats 4000000 in
set_option maxRecDepth 100000 in
theorem ktX4_needSlot (l : Launch) (hlt : l.stackTraces = false) (dC : Nat → ClassId) (dI : Nat → Nat → Nat) (q : Nat → Nat) (cI cJ cZ : ClassId) (sz : Nat) (pg : Int32) (ps : Int32) (nf : Int32) (np : Int32) (nq : Int32) (ns : Int32) (po : Int32) (pt : Int32) (rf : Int32) (rl : Int32) (bx : (Nat → Int32)) (xl : (Nat → Int32)) (xr : (Nat → Int32)) (yl : (Nat → Int32)) (yh : (Nat → Int32)) (ms : (Nat → Int32)) (wt : (Nat → Int32)) (pf : (Nat → Int32)) (nr : (Nat → Int64)) (sl : (Nat → Int32)) (cl : (Nat → Int32)) (hu : (Nat → Int32)) (uu : (Nat → Int32)) (pd : (Nat → Int64)) (ro : (Nat → Int32)) (rc : (Nat → Int64)) (v1 : Int32) (v2 : Int32) {K : Int32 → Prop} {KX : String → Prop} (h : wX4_needSlot ps bx v1 v2 K KX) : vx_Met l yX4_needSlot wsX4_needSlot { frames := 6, cells := 1, slots := 6, locals := 92 } (va_Pc [.ref (q 0), .int v1, .int v2] (wx dC dI cI cJ cZ q 21 sz (WC q cI cJ cZ pg ps nf np nq ns po pt rf rl bx xl xr yl yh ms wt pf nr sl cl hu uu pd ro rc))) (QX4_needSlot dC dI cI cJ cZ q sz pg ps nf np nq ns po pt rf rl bx xl xr yl yh ms wt pf nr sl cl hu uu pd ro rc K) (XCX4_needSlot dC dI cI cJ cZ q sz pg ps nf np nq ns po pt rf rl bx xl xr yl yh ms wt pf nr sl cl hu uu pd ro rc KX) 1 6 (AF q 21 sz) := by
  refine xmet_of [.ref (q 0), .int v1, .int v2] (by decide +kernel) rfl (Nat.le_of_ble_eq_true rfl) ?_
  intro p e s m below meth c ls hsz C hT hK ha hN hE hl hP
  subst hsz
  obtain ⟨hx, hb, hr, hml, hown, hts, hlk⟩ := id C
  have hl : lv_has ls 3 [(0, .ref (q 0)), (1, .int v1), (2, .int v2)] := hl
  refine w_go (Pw := fun H => va_P (dC, dI) vwCl (WC q cI cJ cZ pg ps nf np nq ns po pt rf rl bx xl xr yl yh ms wt pf nr sl cl hu uu pd ro rc) H) (A := AF q 21 s.heap.size) (fun H locs hP hS => ?_) hP
  unfold wX4_needSlot at h
  refine lv_aload_n hx hb dX4_needSlot_0 rfl (lv_at hl 0 rfl) ?_
  refine va_get (D := (dC, dI)) (ci := 4) (v := .ref (q 1)) (C := RX4) (T := TX4) (N := 4) hx hb hts iwX4_needSlot_X4 hown hK hP 0 rfl rfl 0 (by decide) (hts _ fwX4_needSlot_12) (fun _ h9 => h9) rfl dX4_needSlot_1 ?_
  refine lv_iload_n hx hb dX4_needSlot_4 rfl (lv_at hl 1 rfl) ?_
  refine cl_i (va_runV (As := [.int v1]) (rest := []) ⟨hx, hb, hml, hown, hts⟩ (ktX2_hasShape l dC dI q cI cJ cZ H.size pg ps nf np nq ns po pt rf rl bx xl xr yl yh ms wt pf nr sl cl hu uu pd ro rc v1 h) (cwV 1 hts gX4_needSlot_X2_hasShape rfl rfl rfl (by decide +kernel) ⟨Nat.le_of_ble_eq_true rfl, Nat.le_of_ble_eq_true rfl⟩) ⟨wd.blind, va_recv hK hP (ci := 2) (q0 := 1) rfl rfl, fun U hU hW => ⟨rfl, wd.at hP hK ha hN hU hW⟩⟩ rfl rfl hl.1 rfl (lv_room (Nat.le_of_ble_eq_true rfl)) dX4_needSlot_5 ⟨Nat.le_of_ble_eq_true rfl, Nat.le_of_ble_eq_true rfl⟩) hS (fun r1 _ H locs h hP hS => ?_)
  have hP : va_P (dC, dI) vwCl (WC q cI cJ cZ pg ps nf np nq ns po pt rf rl bx xl xr yl yh ms wt pf nr sl cl hu uu pd ro rc) H := hP
  refine lv_if_eq (tgt := 28) hx hb dX4_needSlot_8 (by decide) (fun c3 => ?_) (fun c3 => ?_)
  · have h := h.1 c3
    exact xthrow hlt hx hb hown hts hT (hl.1.trans hml.symm) hlk hE hS (by decide +kernel) xkX4_needSlot_67 xiX4_needSlot_67 (text := "no such box") (by decide +kernel) xgX4_needSlot_71 xbad_71 xot_71 dX4_needSlot_28 dX4_needSlot_31 dX4_needSlot_32 dX4_needSlot_34 dX4_needSlot_37 (Nat.le_of_ble_eq_true rfl) (Nat.le_of_ble_eq_true rfl) (Nat.le_of_ble_eq_true rfl) (Nat.le_of_ble_eq_true rfl) (Nat.le_of_ble_eq_true rfl) (Nat.le_of_ble_eq_true rfl) () h hP
  · have h := h.2 c3
    refine lv_iload_n hx hb dX4_needSlot_11 rfl (lv_at hl 2 rfl) ?_
    refine lv_if_lt (tgt := 28) hx hb dX4_needSlot_12 (by decide) (fun c4 => ?_) (fun c4 => ?_)
    · have h := h.1 c4
      exact xthrow hlt hx hb hown hts hT (hl.1.trans hml.symm) hlk hE hS (by decide +kernel) xkX4_needSlot_67 xiX4_needSlot_67 (text := "no such box") (by decide +kernel) xgX4_needSlot_71 xbad_71 xot_71 dX4_needSlot_28 dX4_needSlot_31 dX4_needSlot_32 dX4_needSlot_34 dX4_needSlot_37 (Nat.le_of_ble_eq_true rfl) (Nat.le_of_ble_eq_true rfl) (Nat.le_of_ble_eq_true rfl) (Nat.le_of_ble_eq_true rfl) (Nat.le_of_ble_eq_true rfl) (Nat.le_of_ble_eq_true rfl) () h hP
    · have h := h.2 c4
      refine lv_iload_n hx hb dX4_needSlot_15 rfl (lv_at hl 2 rfl) ?_
      refine lv_aload_n hx hb dX4_needSlot_16 rfl (lv_at hl 0 rfl) ?_
      refine va_get (D := (dC, dI)) (ci := 4) (v := .ref (q 1)) (C := RX4) (T := TX4) (N := 4) hx hb hts iwX4_needSlot_X4 hown hK hP 0 rfl rfl 0 (by decide) (hts _ fwX4_needSlot_12) (fun _ h9 => h9) rfl dX4_needSlot_17 ?_
      refine va_get (D := (dC, dI)) (ci := 2) (v := .ref (q 5)) (C := RX2) (T := TX2) (N := 9) hx hb hts iwX4_needSlot_X2 hown hK hP 1 rfl rfl 2 (by decide) (hts _ fwX4_needSlot_78) (fun _ h9 => h9) rfl dX4_needSlot_20 ?_
      refine lv_iload_n hx hb dX4_needSlot_23 rfl (lv_at hl 1 rfl) ?_
      obtain ⟨b5, h⟩ := h
      refine va_iald (D := (dC, dI)) hx hb hK hP 5 0 rfl rfl b5 dX4_needSlot_24 ?_
      refine lv_icmp_lt (tgt := 38) hx hb dX4_needSlot_25 (by decide) (fun c6 => ?_) (fun c6 => ?_)
      · have h := h.1 c6
        refine lv_iload_n hx hb dX4_needSlot_38 rfl (lv_at hl 1 rfl) ?_
        refine lv_iload_n hx hb dX4_needSlot_39 rfl (lv_at hl 2 rfl) ?_
        refine cl_pi (va_runS (As := [.int v1, .int v2]) (rest := []) ⟨hx, hb, hml, hown, hts⟩ (ktX2_slot l H.size v1 v2 h) (va_cwS 2 hts gX4_needSlot_X2_slot rfl rfl rfl (by decide +kernel) ⟨Nat.le_of_ble_eq_true rfl, Nat.le_of_ble_eq_true rfl⟩) ⟨pz.blind, fun U hU _ => ⟨rfl, pz.at hU⟩⟩ rfl rfl hl.1 rfl (lv_room (Nat.le_of_ble_eq_true rfl)) dX4_needSlot_40 ⟨Nat.le_of_ble_eq_true rfl, Nat.le_of_ble_eq_true rfl⟩) hP hS (fun r7 _ H locs h hP hS => ?_)
        refine W.widen (k := 1) (n := 6) (by decide) (by decide) ?_
        exact vx_ret (rt_i () hx hb hr hlk h (fun t ht => by rw [ht]; exact hP) hS dX4_needSlot_43)
      · have h := h.2 c6
        exact xthrow hlt hx hb hown hts hT (hl.1.trans hml.symm) hlk hE hS (by decide +kernel) xkX4_needSlot_67 xiX4_needSlot_67 (text := "no such box") (by decide +kernel) xgX4_needSlot_71 xbad_71 xot_71 dX4_needSlot_28 dX4_needSlot_31 dX4_needSlot_32 dX4_needSlot_34 dX4_needSlot_37 (Nat.le_of_ble_eq_true rfl) (Nat.le_of_ble_eq_true rfl) (Nat.le_of_ble_eq_true rfl) (Nat.le_of_ble_eq_true rfl) (Nat.le_of_ble_eq_true rfl) (Nat.le_of_ble_eq_true rfl) () h hP

theorem xkX4_distance_41 : Cond.classLink RX4 41 "java/lang/IllegalArgumentException" ∈ wsX4_distance := by decide +kernel
theorem xiX4_distance_41 : Cond.initialized "java/lang/IllegalArgumentException" ∈ wsX4_distance := by decide +kernel
set_option maxRecDepth 20000 in
theorem xgX4_distance_45 : ∀ w ∈ (vx_atS RX4 45 "java/lang/IllegalArgumentException" NM).filter goodWord, w ∈ wsX4_distance := by decide +kernel
theorem fwX4_distance_12 : Cond.fieldLink RX4 12 "MaskParts" "plan" "LMaskParts$Plan;" ∈ wsX4_distance := by decide +kernel
set_option maxRecDepth 20000 in
theorem iwX4_distance_X4 : ∀ w ∈ wsX40, w ∈ wsX4_distance := by decide +kernel
theorem fwX4_distance_48 : Cond.fieldLink RX4 48 "MaskParts$Plan" "leastGap" "I" ∈ wsX4_distance := by decide +kernel
set_option maxRecDepth 20000 in
theorem iwX4_distance_X2 : ∀ w ∈ wsX20, w ∈ wsX4_distance := by decide +kernel
abbrev QX4_distance (dC : Nat → ClassId) (dI : Nat → Nat → Nat) (cI cJ cZ : ClassId) (q : Nat → Nat) (sz : Nat) (ps : Int32) (np : Int32) (nq : Int32) (ns : Int32) (rl : Int32) (bx : (Nat → Int32)) (xl : (Nat → Int32)) (xr : (Nat → Int32)) (yl : (Nat → Int32)) (yh : (Nat → Int32)) (ms : (Nat → Int32)) (wt : (Nat → Int32)) (pf : (Nat → Int32)) (nr : (Nat → Int64)) (sl : (Nat → Int32)) (cl : (Nat → Int32)) (hu : (Nat → Int32)) (uu : (Nat → Int32)) (pd : (Nat → Int64)) (ro : (Nat → Int32)) (rc : (Nat → Int64)) (K : Int32 → (Int32 × Int32 × Int32 × Int32 × Int32) → Prop) : Array Value → State → Outcome → State → Prop := va_Qi (fun (r : Int32) (u : Int32 × Int32 × Int32 × Int32 × Int32) => K r u) (fun (u : Int32 × Int32 × Int32 × Int32 × Int32) t => va_P (dC, dI) vwCl (WC q cI cJ cZ u.1 ps u.2.1 np nq ns u.2.2.1 u.2.2.2.1 u.2.2.2.2 rl bx xl xr yl yh ms wt pf nr sl cl hu uu pd ro rc) t.heap) (AF q 21 sz)
abbrev XCX4_distance (dC : Nat → ClassId) (dI : Nat → Nat → Nat) (cI cJ cZ : ClassId) (q : Nat → Nat) (sz : Nat) (ps : Int32) (np : Int32) (nq : Int32) (ns : Int32) (rl : Int32) (bx : (Nat → Int32)) (xl : (Nat → Int32)) (xr : (Nat → Int32)) (yl : (Nat → Int32)) (yh : (Nat → Int32)) (ms : (Nat → Int32)) (wt : (Nat → Int32)) (pf : (Nat → Int32)) (nr : (Nat → Int64)) (sl : (Nat → Int32)) (cl : (Nat → Int32)) (hu : (Nat → Int32)) (uu : (Nat → Int32)) (pd : (Nat → Int64)) (ro : (Nat → Int32)) (rc : (Nat → Int64)) (KX : String → (Int32 × Int32 × Int32 × Int32 × Int32) → Prop) : String → State → State → Prop := XX (dC, dI) q 21 sz KX (fun (u : Int32 × Int32 × Int32 × Int32 × Int32) => WC q cI cJ cZ u.1 ps u.2.1 np nq ns u.2.2.1 u.2.2.2.1 u.2.2.2.2 rl bx xl xr yl yh ms wt pf nr sl cl hu uu pd ro rc)
def wX4_distance (pg : Int32) (nf : Int32) (po : Int32) (pt : Int32) (rf : Int32) (v1 : Int32) (K : Int32 → (Int32 × Int32 × Int32 × Int32 × Int32) → Prop) (KX : String → (Int32 × Int32 × Int32 × Int32 × Int32) → Prop) : Prop := ((v1 < 1 → KX "java/lang/IllegalArgumentException" (pg, nf, po, pt, rf)) ∧ (¬ (v1 < 1) → ((v1 ≤ 1000 → (wX4_forgetFindings nf po pt rf  (fun (u4 : Int32 × Int32 × Int32 × Int32) => K pg (v1, u4.1, u4.2.1, u4.2.2.1, u4.2.2.2)))) ∧ (¬ (v1 ≤ 1000) → KX "java/lang/IllegalArgumentException" (pg, nf, po, pt, rf)))))
set_option maxHeartbeats 4000000 in
set_option maxRecDepth 100000 in
theorem ktX4_distance (l : Launch) (hlt : l.stackTraces = false) (dC : Nat → ClassId) (dI : Nat → Nat → Nat) (q : Nat → Nat) (cI cJ cZ : ClassId) (sz : Nat) (pg : Int32) (ps : Int32) (nf : Int32) (np : Int32) (nq : Int32) (ns : Int32) (po : Int32) (pt : Int32) (rf : Int32) (rl : Int32) (bx : (Nat → Int32)) (xl : (Nat → Int32)) (xr : (Nat → Int32)) (yl : (Nat → Int32)) (yh : (Nat → Int32)) (ms : (Nat → Int32)) (wt : (Nat → Int32)) (pf : (Nat → Int32)) (nr : (Nat → Int64)) (sl : (Nat → Int32)) (cl : (Nat → Int32)) (hu : (Nat → Int32)) (uu : (Nat → Int32)) (pd : (Nat → Int64)) (ro : (Nat → Int32)) (rc : (Nat → Int64)) (v1 : Int32) {K : Int32 → (Int32 × Int32 × Int32 × Int32 × Int32) → Prop} {KX : String → (Int32 × Int32 × Int32 × Int32 × Int32) → Prop} (h : wX4_distance pg nf po pt rf v1 K KX) : vx_Met l yX4_distance wsX4_distance { frames := 6, cells := 1, slots := 6, locals := 92 } (va_Pc [.ref (q 0), .int v1] (wx dC dI cI cJ cZ q 21 sz (WC q cI cJ cZ pg ps nf np nq ns po pt rf rl bx xl xr yl yh ms wt pf nr sl cl hu uu pd ro rc))) (QX4_distance dC dI cI cJ cZ q sz ps np nq ns rl bx xl xr yl yh ms wt pf nr sl cl hu uu pd ro rc K) (XCX4_distance dC dI cI cJ cZ q sz ps np nq ns rl bx xl xr yl yh ms wt pf nr sl cl hu uu pd ro rc KX) 1 6 (AF q 21 sz) := by
  refine xmet_of [.ref (q 0), .int v1] (by decide +kernel) rfl (Nat.le_of_ble_eq_true rfl) ?_
  intro p e s m below meth c ls hsz C hT hK ha hN hE hl hP
  subst hsz
  obtain ⟨hx, hb, hr, hml, hown, hts, hlk⟩ := id C
  have hl : lv_has ls 3 [(0, .ref (q 0)), (1, .int v1)] := hl
  refine w_go (Pw := fun H => va_P (dC, dI) vwCl (WC q cI cJ cZ pg ps nf np nq ns po pt rf rl bx xl xr yl yh ms wt pf nr sl cl hu uu pd ro rc) H) (A := AF q 21 s.heap.size) (fun H locs hP hS => ?_) hP
  unfold wX4_distance at h
  refine lv_iload_n hx hb dX4_distance_0 rfl (lv_at hl 1 rfl) ?_
  refine lv_iconst (v := 1) hx hb dX4_distance_1 (by decide) ?_
  refine lv_icmp_lt (tgt := 12) hx hb dX4_distance_2 (by decide) (fun c1 => ?_) (fun c1 => ?_)
  · have h := h.1 c1
    exact xthrow hlt hx hb hown hts hT (hl.1.trans hml.symm) hlk hE hS (by decide +kernel) xkX4_distance_41 xiX4_distance_41 (text := "no such distance") (by decide +kernel) xgX4_distance_45 xbad_45 xot_45 dX4_distance_12 dX4_distance_15 dX4_distance_16 dX4_distance_18 dX4_distance_21 (Nat.le_of_ble_eq_true rfl) (Nat.le_of_ble_eq_true rfl) (Nat.le_of_ble_eq_true rfl) (Nat.le_of_ble_eq_true rfl) (Nat.le_of_ble_eq_true rfl) (Nat.le_of_ble_eq_true rfl) (pg, nf, po, pt, rf) h hP
  · have h := h.2 c1
    refine lv_iload_n hx hb dX4_distance_5 rfl (lv_at hl 1 rfl) ?_
    refine lv_sipush (v := 1000) hx hb dX4_distance_6 (by decide) ?_
    refine lv_icmp_le (tgt := 22) hx hb dX4_distance_9 (by decide) (fun c2 => ?_) (fun c2 => ?_)
    · have h := h.1 c2
      refine lv_aload_n hx hb dX4_distance_22 rfl (lv_at hl 0 rfl) ?_
      refine va_get (D := (dC, dI)) (ci := 4) (v := .ref (q 1)) (C := RX4) (T := TX4) (N := 4) hx hb hts iwX4_distance_X4 hown hK hP 0 rfl rfl 0 (by decide) (hts _ fwX4_distance_12) (fun _ h9 => h9) rfl dX4_distance_23 ?_
      refine va_get (D := (dC, dI)) (ci := 2) (v := .int pg) (C := RX2) (T := TX2) (N := 9) hx hb hts iwX4_distance_X2 hown hK hP 1 rfl rfl 0 (by decide) (hts _ fwX4_distance_48) (fun _ h9 => h9) rfl dX4_distance_26 ?_
      refine lv_istore_n (lv' := [(2, .int pg), (0, .ref (q 0)), (1, .int v1)]) hx hb dX4_distance_29 rfl hl (by decide) rfl (fun ls hl => ?_)
      refine lv_aload_n hx hb dX4_distance_30 rfl (lv_at hl 1 rfl) ?_
      refine va_get (D := (dC, dI)) (ci := 4) (v := .ref (q 1)) (C := RX4) (T := TX4) (N := 4) hx hb hts iwX4_distance_X4 hown hK hP 0 rfl rfl 0 (by decide) (hts _ fwX4_distance_12) (fun _ h9 => h9) rfl dX4_distance_31 ?_
      refine lv_iload_n hx hb dX4_distance_34 rfl (lv_at hl 2 rfl) ?_
      refine va_put (D := (dC, dI)) (ci := 2) (v := .int v1) (ty := .int) (C := RX2) (T := TX2) (N := 9) hx hb hts iwX4_distance_X2 tyX2 tyX2_ok nmX2 hown hK hP (d_WC ha) hS 1 rfl rfl 0 (by decide) (hts _ fwX4_distance_48) (fun _ h9 => h9) rfl (by decide +kernel) rfl rfl (Nat.le_of_ble_eq_true rfl) dX4_distance_35 (fun H locs hP _ hS => ?_)
      have hP : va_P (dC, dI) vwCl (WC q cI cJ cZ v1 ps nf np nq ns po pt rf rl bx xl xr yl yh ms wt pf nr sl cl hu uu pd ro rc) H := hP
      refine lv_aload_n hx hb dX4_distance_38 rfl (lv_at hl 1 rfl) ?_
      refine cl_v (va_runV (As := []) (rest := []) ⟨hx, hb, hml, hown, hts⟩ (ktX4_forgetFindings l dC dI q cI cJ cZ H.size v1 ps nf np nq ns po pt rf rl bx xl xr yl yh ms wt pf nr sl cl hu uu pd ro rc  h) (cwV 0 hts gX4_distance_X4_forgetFindings rfl rfl rfl (by decide +kernel) ⟨Nat.le_of_ble_eq_true rfl, Nat.le_of_ble_eq_true rfl⟩) ⟨wd.blind, va_recv hK hP (ci := 4) (q0 := 0) rfl rfl, fun U hU hW => ⟨rfl, wd.at hP hK ha hN hU hW⟩⟩ rfl rfl hl.1 rfl (lv_room (Nat.le_of_ble_eq_true rfl)) dX4_distance_39 ⟨Nat.le_of_ble_eq_true rfl, Nat.le_of_ble_eq_true rfl⟩) hS (fun u4 H locs h hP hS => ?_)
      have hP : va_P (dC, dI) vwCl (WC q cI cJ cZ v1 ps u4.1 np nq ns u4.2.1 u4.2.2.1 u4.2.2.2 rl bx xl xr yl yh ms wt pf nr sl cl hu uu pd ro rc) H := hP
      refine lv_iload_n hx hb dX4_distance_42 rfl (lv_at hl 0 rfl) ?_
      refine W.widen (k := 1) (n := 6) (by decide) (by decide) ?_
      exact vx_ret (rt_i (v1, u4.1, u4.2.1, u4.2.2.1, u4.2.2.2) hx hb hr hlk h (fun t ht => by rw [ht]; exact hP) hS dX4_distance_43)
    · have h := h.2 c2
      exact xthrow hlt hx hb hown hts hT (hl.1.trans hml.symm) hlk hE hS (by decide +kernel) xkX4_distance_41 xiX4_distance_41 (text := "no such distance") (by decide +kernel) xgX4_distance_45 xbad_45 xot_45 dX4_distance_12 dX4_distance_15 dX4_distance_16 dX4_distance_18 dX4_distance_21 (Nat.le_of_ble_eq_true rfl) (Nat.le_of_ble_eq_true rfl) (Nat.le_of_ble_eq_true rfl) (Nat.le_of_ble_eq_true rfl) (Nat.le_of_ble_eq_true rfl) (Nat.le_of_ble_eq_true rfl) (pg, nf, po, pt, rf) h hP

theorem fwX4_shape_12 : Cond.fieldLink RX4 12 "MaskParts" "plan" "LMaskParts$Plan;" ∈ wsX4_shape := by decide +kernel
set_option maxRecDepth 20000 in
theorem iwX4_shape_X4 : ∀ w ∈ wsX40, w ∈ wsX4_shape := by decide +kernel
theorem fwX4_shape_55 : Cond.fieldLink RX4 55 "MaskParts$Plan" "shapes" "I" ∈ wsX4_shape := by decide +kernel
set_option maxRecDepth 20000 in
theorem iwX4_shape_X2 : ∀ w ∈ wsX20, w ∈ wsX4_shape := by decide +kernel
theorem xkX4_shape_58 : Cond.classLink RX4 58 "java/lang/IllegalStateException" ∈ wsX4_shape := by decide +kernel
theorem xiX4_shape_58 : Cond.initialized "java/lang/IllegalStateException" ∈ wsX4_shape := by decide +kernel
set_option maxRecDepth 20000 in
theorem xgX4_shape_62 : ∀ w ∈ (vx_atS RX4 62 "java/lang/IllegalStateException" NM).filter goodWord, w ∈ wsX4_shape := by decide +kernel
abbrev QX4_shape (dC : Nat → ClassId) (dI : Nat → Nat → Nat) (cI cJ cZ : ClassId) (q : Nat → Nat) (sz : Nat) (pg : Int32) (np : Int32) (nq : Int32) (ns : Int32) (rl : Int32) (bx : (Nat → Int32)) (xl : (Nat → Int32)) (xr : (Nat → Int32)) (yl : (Nat → Int32)) (yh : (Nat → Int32)) (ms : (Nat → Int32)) (wt : (Nat → Int32)) (pf : (Nat → Int32)) (nr : (Nat → Int64)) (sl : (Nat → Int32)) (cl : (Nat → Int32)) (hu : (Nat → Int32)) (uu : (Nat → Int32)) (pd : (Nat → Int64)) (ro : (Nat → Int32)) (rc : (Nat → Int64)) (K : Int32 → (Int32 × Int32 × Int32 × Int32 × Int32) → Prop) : Array Value → State → Outcome → State → Prop := va_Qi (fun (r : Int32) (u : Int32 × Int32 × Int32 × Int32 × Int32) => K r u) (fun (u : Int32 × Int32 × Int32 × Int32 × Int32) t => va_P (dC, dI) vwCl (WC q cI cJ cZ pg u.1 u.2.1 np nq ns u.2.2.1 u.2.2.2.1 u.2.2.2.2 rl bx xl xr yl yh ms wt pf nr sl cl hu uu pd ro rc) t.heap) (AF q 21 sz)
abbrev XCX4_shape (dC : Nat → ClassId) (dI : Nat → Nat → Nat) (cI cJ cZ : ClassId) (q : Nat → Nat) (sz : Nat) (pg : Int32) (np : Int32) (nq : Int32) (ns : Int32) (rl : Int32) (bx : (Nat → Int32)) (xl : (Nat → Int32)) (xr : (Nat → Int32)) (yl : (Nat → Int32)) (yh : (Nat → Int32)) (ms : (Nat → Int32)) (wt : (Nat → Int32)) (pf : (Nat → Int32)) (nr : (Nat → Int64)) (sl : (Nat → Int32)) (cl : (Nat → Int32)) (hu : (Nat → Int32)) (uu : (Nat → Int32)) (pd : (Nat → Int64)) (ro : (Nat → Int32)) (rc : (Nat → Int64)) (KX : String → (Int32 × Int32 × Int32 × Int32 × Int32) → Prop) : String → State → State → Prop := XX (dC, dI) q 21 sz KX (fun (u : Int32 × Int32 × Int32 × Int32 × Int32) => WC q cI cJ cZ pg u.1 u.2.1 np nq ns u.2.2.1 u.2.2.2.1 u.2.2.2.2 rl bx xl xr yl yh ms wt pf nr sl cl hu uu pd ro rc)
def wX4_shape (ps : Int32) (nf : Int32) (po : Int32) (pt : Int32) (rf : Int32)  (K : Int32 → (Int32 × Int32 × Int32 × Int32 × Int32) → Prop) (KX : String → (Int32 × Int32 × Int32 × Int32 × Int32) → Prop) : Prop := ((ps < 10 → (∀ i2 : Int32, i2 = (ps + 1) → (wX4_forgetFindings nf po pt rf  (fun (u4 : Int32 × Int32 × Int32 × Int32) => K ((i2 - 1)) (i2, u4.1, u4.2.1, u4.2.2.1, u4.2.2.2))))) ∧ (¬ (ps < 10) → KX "java/lang/IllegalStateException" (ps, nf, po, pt, rf)))
set_option maxHeartbeats 4000000 in
set_option maxRecDepth 100000 in
theorem ktX4_shape (l : Launch) (hlt : l.stackTraces = false) (dC : Nat → ClassId) (dI : Nat → Nat → Nat) (q : Nat → Nat) (cI cJ cZ : ClassId) (sz : Nat) (pg : Int32) (ps : Int32) (nf : Int32) (np : Int32) (nq : Int32) (ns : Int32) (po : Int32) (pt : Int32) (rf : Int32) (rl : Int32) (bx : (Nat → Int32)) (xl : (Nat → Int32)) (xr : (Nat → Int32)) (yl : (Nat → Int32)) (yh : (Nat → Int32)) (ms : (Nat → Int32)) (wt : (Nat → Int32)) (pf : (Nat → Int32)) (nr : (Nat → Int64)) (sl : (Nat → Int32)) (cl : (Nat → Int32)) (hu : (Nat → Int32)) (uu : (Nat → Int32)) (pd : (Nat → Int64)) (ro : (Nat → Int32)) (rc : (Nat → Int64))  {K : Int32 → (Int32 × Int32 × Int32 × Int32 × Int32) → Prop} {KX : String → (Int32 × Int32 × Int32 × Int32 × Int32) → Prop} (h : wX4_shape ps nf po pt rf K KX) : vx_Met l yX4_shape wsX4_shape { frames := 6, cells := 1, slots := 6, locals := 92 } (va_Pc [.ref (q 0)] (wx dC dI cI cJ cZ q 21 sz (WC q cI cJ cZ pg ps nf np nq ns po pt rf rl bx xl xr yl yh ms wt pf nr sl cl hu uu pd ro rc))) (QX4_shape dC dI cI cJ cZ q sz pg np nq ns rl bx xl xr yl yh ms wt pf nr sl cl hu uu pd ro rc K) (XCX4_shape dC dI cI cJ cZ q sz pg np nq ns rl bx xl xr yl yh ms wt pf nr sl cl hu uu pd ro rc KX) 1 6 (AF q 21 sz) := by
  refine xmet_of [.ref (q 0)] (by decide +kernel) rfl (Nat.le_of_ble_eq_true rfl) ?_
  intro p e s m below meth c ls hsz C hT hK ha hN hE hl hP
  subst hsz
  obtain ⟨hx, hb, hr, hml, hown, hts, hlk⟩ := id C
  have hl : lv_has ls 1 [(0, .ref (q 0))] := hl
  refine w_go (Pw := fun H => va_P (dC, dI) vwCl (WC q cI cJ cZ pg ps nf np nq ns po pt rf rl bx xl xr yl yh ms wt pf nr sl cl hu uu pd ro rc) H) (A := AF q 21 s.heap.size) (fun H locs hP hS => ?_) hP
  unfold wX4_shape at h
  refine lv_aload_n hx hb dX4_shape_0 rfl (lv_at hl 0 rfl) ?_
  refine va_get (D := (dC, dI)) (ci := 4) (v := .ref (q 1)) (C := RX4) (T := TX4) (N := 4) hx hb hts iwX4_shape_X4 hown hK hP 0 rfl rfl 0 (by decide) (hts _ fwX4_shape_12) (fun _ h9 => h9) rfl dX4_shape_1 ?_
  refine va_get (D := (dC, dI)) (ci := 2) (v := .int ps) (C := RX2) (T := TX2) (N := 9) hx hb hts iwX4_shape_X2 hown hK hP 1 rfl rfl 1 (by decide) (hts _ fwX4_shape_55) (fun _ h9 => h9) rfl dX4_shape_4 ?_
  refine lv_bipush (v := 10) hx hb dX4_shape_7 (by decide) ?_
  refine lv_icmp_lt (tgt := 22) hx hb dX4_shape_9 (by decide) (fun c1 => ?_) (fun c1 => ?_)
  · have h := h.1 c1
    refine lv_aload_n hx hb dX4_shape_22 rfl (lv_at hl 0 rfl) ?_
    refine va_get (D := (dC, dI)) (ci := 4) (v := .ref (q 1)) (C := RX4) (T := TX4) (N := 4) hx hb hts iwX4_shape_X4 hown hK hP 0 rfl rfl 0 (by decide) (hts _ fwX4_shape_12) (fun _ h9 => h9) rfl dX4_shape_23 ?_
    refine lv_dup hx hb dX4_shape_26 rfl ?_
    refine va_get (D := (dC, dI)) (ci := 2) (v := .int ps) (C := RX2) (T := TX2) (N := 9) hx hb hts iwX4_shape_X2 hown hK hP 1 rfl rfl 1 (by decide) (hts _ fwX4_shape_55) (fun _ h9 => h9) rfl dX4_shape_27 ?_
    refine lv_iconst (v := 1) hx hb dX4_shape_30 (by decide) ?_
    refine lv_iadd hx hb dX4_shape_31 ?_
    refine lv_topi (fun i2 ei2 => ?_)
    have h := h i2 ei2
    refine va_put (D := (dC, dI)) (ci := 2) (v := .int i2) (ty := .int) (C := RX2) (T := TX2) (N := 9) hx hb hts iwX4_shape_X2 tyX2 tyX2_ok nmX2 hown hK hP (d_WC ha) hS 1 rfl rfl 1 (by decide) (hts _ fwX4_shape_55) (fun _ h9 => h9) rfl (by decide +kernel) rfl rfl (Nat.le_of_ble_eq_true rfl) dX4_shape_32 (fun H locs hP _ hS => ?_)
    have hP : va_P (dC, dI) vwCl (WC q cI cJ cZ pg i2 nf np nq ns po pt rf rl bx xl xr yl yh ms wt pf nr sl cl hu uu pd ro rc) H := hP
    refine lv_aload_n hx hb dX4_shape_35 rfl (lv_at hl 0 rfl) ?_
    refine cl_v (va_runV (As := []) (rest := []) ⟨hx, hb, hml, hown, hts⟩ (ktX4_forgetFindings l dC dI q cI cJ cZ H.size pg i2 nf np nq ns po pt rf rl bx xl xr yl yh ms wt pf nr sl cl hu uu pd ro rc  h) (cwV 0 hts gX4_shape_X4_forgetFindings rfl rfl rfl (by decide +kernel) ⟨Nat.le_of_ble_eq_true rfl, Nat.le_of_ble_eq_true rfl⟩) ⟨wd.blind, va_recv hK hP (ci := 4) (q0 := 0) rfl rfl, fun U hU hW => ⟨rfl, wd.at hP hK ha hN hU hW⟩⟩ rfl rfl hl.1 rfl (lv_room (Nat.le_of_ble_eq_true rfl)) dX4_shape_36 ⟨Nat.le_of_ble_eq_true rfl, Nat.le_of_ble_eq_true rfl⟩) hS (fun u4 H locs h hP hS => ?_)
    have hP : va_P (dC, dI) vwCl (WC q cI cJ cZ pg i2 u4.1 np nq ns u4.2.1 u4.2.2.1 u4.2.2.2 rl bx xl xr yl yh ms wt pf nr sl cl hu uu pd ro rc) H := hP
    refine lv_aload_n hx hb dX4_shape_39 rfl (lv_at hl 0 rfl) ?_
    refine va_get (D := (dC, dI)) (ci := 4) (v := .ref (q 1)) (C := RX4) (T := TX4) (N := 4) hx hb hts iwX4_shape_X4 hown hK hP 0 rfl rfl 0 (by decide) (hts _ fwX4_shape_12) (fun _ h9 => h9) rfl dX4_shape_40 ?_
    refine va_get (D := (dC, dI)) (ci := 2) (v := .int i2) (C := RX2) (T := TX2) (N := 9) hx hb hts iwX4_shape_X2 hown hK hP 1 rfl rfl 1 (by decide) (hts _ fwX4_shape_55) (fun _ h9 => h9) rfl dX4_shape_43 ?_
    refine lv_iconst (v := 1) hx hb dX4_shape_46 (by decide) ?_
    refine lv_isub hx hb dX4_shape_47 ?_
    refine W.widen (k := 1) (n := 6) (by decide) (by decide) ?_
    exact vx_ret (rt_i (i2, u4.1, u4.2.1, u4.2.2.1, u4.2.2.2) hx hb hr hlk h (fun t ht => by rw [ht]; exact hP) hS dX4_shape_48)
  · have h := h.2 c1
    exact xthrow hlt hx hb hown hts hT (hl.1.trans hml.symm) hlk hE hS (by decide +kernel) xkX4_shape_58 xiX4_shape_58 (text := "too many shapes") (by decide +kernel) xgX4_shape_62 xbad_62 xot_62 dX4_shape_12 dX4_shape_15 dX4_shape_16 dX4_shape_18 dX4_shape_21 (Nat.le_of_ble_eq_true rfl) (Nat.le_of_ble_eq_true rfl) (Nat.le_of_ble_eq_true rfl) (Nat.le_of_ble_eq_true rfl) (Nat.le_of_ble_eq_true rfl) (Nat.le_of_ble_eq_true rfl) (ps, nf, po, pt, rf) h hP

theorem fwX4_box_12 : Cond.fieldLink RX4 12 "MaskParts" "plan" "LMaskParts$Plan;" ∈ wsX4_box := by decide +kernel
set_option maxRecDepth 20000 in
theorem iwX4_box_X4 : ∀ w ∈ wsX40, w ∈ wsX4_box := by decide +kernel
theorem xkX4_box_41 : Cond.classLink RX4 41 "java/lang/IllegalArgumentException" ∈ wsX4_box := by decide +kernel
theorem xiX4_box_41 : Cond.initialized "java/lang/IllegalArgumentException" ∈ wsX4_box := by decide +kernel
set_option maxRecDepth 20000 in
theorem xgX4_box_45 : ∀ w ∈ (vx_atS RX4 45 "java/lang/IllegalArgumentException" NM).filter goodWord, w ∈ wsX4_box := by decide +kernel
theorem fwX4_box_78 : Cond.fieldLink RX4 78 "MaskParts$Plan" "boxes" "[I" ∈ wsX4_box := by decide +kernel
set_option maxRecDepth 20000 in
theorem iwX4_box_X2 : ∀ w ∈ wsX20, w ∈ wsX4_box := by decide +kernel
theorem xkX4_box_58 : Cond.classLink RX4 58 "java/lang/IllegalStateException" ∈ wsX4_box := by decide +kernel
theorem xiX4_box_58 : Cond.initialized "java/lang/IllegalStateException" ∈ wsX4_box := by decide +kernel
set_option maxRecDepth 20000 in
theorem xgX4_box_62 : ∀ w ∈ (vx_atS RX4 62 "java/lang/IllegalStateException" NM).filter goodWord, w ∈ wsX4_box := by decide +kernel
theorem xkX4_box_67 : Cond.classLink RX4 67 "java/lang/IndexOutOfBoundsException" ∈ wsX4_box := by decide +kernel
theorem xiX4_box_67 : Cond.initialized "java/lang/IndexOutOfBoundsException" ∈ wsX4_box := by decide +kernel
set_option maxRecDepth 20000 in
theorem xgX4_box_71 : ∀ w ∈ (vx_atS RX4 71 "java/lang/IndexOutOfBoundsException" NM).filter goodWord, w ∈ wsX4_box := by decide +kernel
abbrev QX4_box (dC : Nat → ClassId) (dI : Nat → Nat → Nat) (cI cJ cZ : ClassId) (q : Nat → Nat) (sz : Nat) (pg : Int32) (ps : Int32) (np : Int32) (nq : Int32) (ns : Int32) (rl : Int32) (ms : (Nat → Int32)) (wt : (Nat → Int32)) (pf : (Nat → Int32)) (nr : (Nat → Int64)) (sl : (Nat → Int32)) (cl : (Nat → Int32)) (hu : (Nat → Int32)) (uu : (Nat → Int32)) (pd : (Nat → Int64)) (ro : (Nat → Int32)) (rc : (Nat → Int64)) (K : Int32 → (Int32 × Int32 × Int32 × Int32 × (Nat → Int32) × (Nat → Int32) × (Nat → Int32) × (Nat → Int32) × (Nat → Int32)) → Prop) : Array Value → State → Outcome → State → Prop := va_Qi (fun (r : Int32) (u : Int32 × Int32 × Int32 × Int32 × (Nat → Int32) × (Nat → Int32) × (Nat → Int32) × (Nat → Int32) × (Nat → Int32)) => K r u) (fun (u : Int32 × Int32 × Int32 × Int32 × (Nat → Int32) × (Nat → Int32) × (Nat → Int32) × (Nat → Int32) × (Nat → Int32)) t => va_P (dC, dI) vwCl (WC q cI cJ cZ pg ps u.1 np nq ns u.2.1 u.2.2.1 u.2.2.2.1 rl u.2.2.2.2.1 u.2.2.2.2.2.1 u.2.2.2.2.2.2.1 u.2.2.2.2.2.2.2.1 u.2.2.2.2.2.2.2.2 ms wt pf nr sl cl hu uu pd ro rc) t.heap) (AF q 21 sz)
abbrev XCX4_box (dC : Nat → ClassId) (dI : Nat → Nat → Nat) (cI cJ cZ : ClassId) (q : Nat → Nat) (sz : Nat) (pg : Int32) (ps : Int32) (np : Int32) (nq : Int32) (ns : Int32) (rl : Int32) (ms : (Nat → Int32)) (wt : (Nat → Int32)) (pf : (Nat → Int32)) (nr : (Nat → Int64)) (sl : (Nat → Int32)) (cl : (Nat → Int32)) (hu : (Nat → Int32)) (uu : (Nat → Int32)) (pd : (Nat → Int64)) (ro : (Nat → Int32)) (rc : (Nat → Int64)) (KX : String → (Int32 × Int32 × Int32 × Int32 × (Nat → Int32) × (Nat → Int32) × (Nat → Int32) × (Nat → Int32) × (Nat → Int32)) → Prop) : String → State → State → Prop := XX (dC, dI) q 21 sz KX (fun (u : Int32 × Int32 × Int32 × Int32 × (Nat → Int32) × (Nat → Int32) × (Nat → Int32) × (Nat → Int32) × (Nat → Int32)) => WC q cI cJ cZ pg ps u.1 np nq ns u.2.1 u.2.2.1 u.2.2.2.1 rl u.2.2.2.2.1 u.2.2.2.2.2.1 u.2.2.2.2.2.2.1 u.2.2.2.2.2.2.2.1 u.2.2.2.2.2.2.2.2 ms wt pf nr sl cl hu uu pd ro rc)
def wX4_box (ps : Int32) (nf : Int32) (po : Int32) (pt : Int32) (rf : Int32) (bx : (Nat → Int32)) (xl : (Nat → Int32)) (xr : (Nat → Int32)) (yl : (Nat → Int32)) (yh : (Nat → Int32)) (v1 : Int32) (v2 : Int32) (v3 : Int32) (v4 : Int32) (v5 : Int32) (K : Int32 → (Int32 × Int32 × Int32 × Int32 × (Nat → Int32) × (Nat → Int32) × (Nat → Int32) × (Nat → Int32) × (Nat → Int32)) → Prop) (KX : String → (Int32 × Int32 × Int32 × Int32 × (Nat → Int32) × (Nat → Int32) × (Nat → Int32) × (Nat → Int32) × (Nat → Int32)) → Prop) : Prop := (wX2_hasShape ps v1 (fun (r1 : Int32) => ((¬ r1 = 0 → (wX4_isSpan v2 v4 (fun r4 : Int32 => ((r4 = 0 → KX "java/lang/IllegalArgumentException" (nf, po, pt, rf, bx, xl, xr, yl, yh)) ∧ (¬ (r4 = 0) → (wX4_isSpan v3 v5 (fun r7 : Int32 => ((¬ r7 = 0 → (vp_in v1 10 ∧ (((bx v1.toNatClampNeg) < 4 → (wX2_addBox bx xl xr yl yh v1 v2 v3 v4 v5 (fun (u13 : (Nat → Int32) × (Nat → Int32) × (Nat → Int32) × (Nat → Int32) × (Nat → Int32)) => (wX4_forgetFindings nf po pt rf  (fun (u15 : Int32 × Int32 × Int32 × Int32) => (vp_in v1 10 ∧ K ((u13.1 v1.toNatClampNeg)) (u15.1, u15.2.1, u15.2.2.1, u15.2.2.2, u13.1, u13.2.1, u13.2.2.1, u13.2.2.2.1, u13.2.2.2.2))))))) ∧ (¬ ((bx v1.toNatClampNeg) < 4) → KX "java/lang/IllegalStateException" (nf, po, pt, rf, bx, xl, xr, yl, yh))))) ∧ (r7 = 0 → KX "java/lang/IllegalArgumentException" (nf, po, pt, rf, bx, xl, xr, yl, yh)))))))))) ∧ (r1 = 0 → KX "java/lang/IndexOutOfBoundsException" (nf, po, pt, rf, bx, xl, xr, yl, yh)))))
set_option maxHeartbeats 4000000 in
set_option maxRecDepth 100000 in
theorem ktX4_box (l : Launch) (hlt : l.stackTraces = false) (dC : Nat → ClassId) (dI : Nat → Nat → Nat) (q : Nat → Nat) (cI cJ cZ : ClassId) (sz : Nat) (pg : Int32) (ps : Int32) (nf : Int32) (np : Int32) (nq : Int32) (ns : Int32) (po : Int32) (pt : Int32) (rf : Int32) (rl : Int32) (bx : (Nat → Int32)) (xl : (Nat → Int32)) (xr : (Nat → Int32)) (yl : (Nat → Int32)) (yh : (Nat → Int32)) (ms : (Nat → Int32)) (wt : (Nat → Int32)) (pf : (Nat → Int32)) (nr : (Nat → Int64)) (sl : (Nat → Int32)) (cl : (Nat → Int32)) (hu : (Nat → Int32)) (uu : (Nat → Int32)) (pd : (Nat → Int64)) (ro : (Nat → Int32)) (rc : (Nat → Int64)) (v1 : Int32) (v2 : Int32) (v3 : Int32) (v4 : Int32) (v5 : Int32) {K : Int32 → (Int32 × Int32 × Int32 × Int32 × (Nat → Int32) × (Nat → Int32) × (Nat → Int32) × (Nat → Int32) × (Nat → Int32)) → Prop} {KX : String → (Int32 × Int32 × Int32 × Int32 × (Nat → Int32) × (Nat → Int32) × (Nat → Int32) × (Nat → Int32) × (Nat → Int32)) → Prop} (h : wX4_box ps nf po pt rf bx xl xr yl yh v1 v2 v3 v4 v5 K KX) : vx_Met l yX4_box wsX4_box { frames := 6, cells := 1, slots := 6, locals := 92 } (va_Pc [.ref (q 0), .int v1, .int v2, .int v3, .int v4, .int v5] (wx dC dI cI cJ cZ q 21 sz (WC q cI cJ cZ pg ps nf np nq ns po pt rf rl bx xl xr yl yh ms wt pf nr sl cl hu uu pd ro rc))) (QX4_box dC dI cI cJ cZ q sz pg ps np nq ns rl ms wt pf nr sl cl hu uu pd ro rc K) (XCX4_box dC dI cI cJ cZ q sz pg ps np nq ns rl ms wt pf nr sl cl hu uu pd ro rc KX) 1 6 (AF q 21 sz) := by
  refine xmet_of [.ref (q 0), .int v1, .int v2, .int v3, .int v4, .int v5] (by decide +kernel) rfl (Nat.le_of_ble_eq_true rfl) ?_
  intro p e s m below meth c ls hsz C hT hK ha hN hE hl hP
  subst hsz
  obtain ⟨hx, hb, hr, hml, hown, hts, hlk⟩ := id C
  have hl : lv_has ls 6 [(0, .ref (q 0)), (1, .int v1), (2, .int v2), (3, .int v3), (4, .int v4), (5, .int v5)] := hl
  refine w_go (Pw := fun H => va_P (dC, dI) vwCl (WC q cI cJ cZ pg ps nf np nq ns po pt rf rl bx xl xr yl yh ms wt pf nr sl cl hu uu pd ro rc) H) (A := AF q 21 s.heap.size) (fun H locs hP hS => ?_) hP
  unfold wX4_box at h
  refine lv_aload_n hx hb dX4_box_0 rfl (lv_at hl 0 rfl) ?_
  refine va_get (D := (dC, dI)) (ci := 4) (v := .ref (q 1)) (C := RX4) (T := TX4) (N := 4) hx hb hts iwX4_box_X4 hown hK hP 0 rfl rfl 0 (by decide) (hts _ fwX4_box_12) (fun _ h9 => h9) rfl dX4_box_1 ?_
  refine lv_iload_n hx hb dX4_box_4 rfl (lv_at hl 1 rfl) ?_
  refine cl_i (va_runV (As := [.int v1]) (rest := []) ⟨hx, hb, hml, hown, hts⟩ (ktX2_hasShape l dC dI q cI cJ cZ H.size pg ps nf np nq ns po pt rf rl bx xl xr yl yh ms wt pf nr sl cl hu uu pd ro rc v1 h) (cwV 1 hts gX4_box_X2_hasShape rfl rfl rfl (by decide +kernel) ⟨Nat.le_of_ble_eq_true rfl, Nat.le_of_ble_eq_true rfl⟩) ⟨wd.blind, va_recv hK hP (ci := 2) (q0 := 1) rfl rfl, fun U hU hW => ⟨rfl, wd.at hP hK ha hN hU hW⟩⟩ rfl rfl hl.1 rfl (lv_room (Nat.le_of_ble_eq_true rfl)) dX4_box_5 ⟨Nat.le_of_ble_eq_true rfl, Nat.le_of_ble_eq_true rfl⟩) hS (fun r1 _ H locs h hP hS => ?_)
  have hP : va_P (dC, dI) vwCl (WC q cI cJ cZ pg ps nf np nq ns po pt rf rl bx xl xr yl yh ms wt pf nr sl cl hu uu pd ro rc) H := hP
  refine lv_if_ne (tgt := 21) hx hb dX4_box_8 (by decide) (fun c3 => ?_) (fun c3 => ?_)
  · have h := h.1 c3
    refine lv_iload_n hx hb dX4_box_21 rfl (lv_at hl 2 rfl) ?_
    refine lv_iload hx hb dX4_box_22 (lv_at hl 4 rfl) ?_
    refine cl_pi (va_runS (As := [.int v2, .int v4]) (rest := []) ⟨hx, hb, hml, hown, hts⟩ (ktX4_isSpan l H.size v2 v4 h) (va_cwS 2 hts gX4_box_X4_isSpan rfl rfl rfl (by decide +kernel) ⟨Nat.le_of_ble_eq_true rfl, Nat.le_of_ble_eq_true rfl⟩) ⟨pz.blind, fun U hU _ => ⟨rfl, pz.at hU⟩⟩ rfl rfl hl.1 rfl (lv_room (Nat.le_of_ble_eq_true rfl)) dX4_box_24 ⟨Nat.le_of_ble_eq_true rfl, Nat.le_of_ble_eq_true rfl⟩) hP hS (fun r4 _ H locs h hP hS => ?_)
    refine lv_if_eq (tgt := 39) hx hb dX4_box_27 (by decide) (fun c6 => ?_) (fun c6 => ?_)
    · have h := h.1 c6
      exact xthrow hlt hx hb hown hts hT (hl.1.trans hml.symm) hlk hE hS (by decide +kernel) xkX4_box_41 xiX4_box_41 (text := "no such box") (by decide +kernel) xgX4_box_45 xbad_45 xot_45 dX4_box_39 dX4_box_42 dX4_box_43 dX4_box_45 dX4_box_48 (Nat.le_of_ble_eq_true rfl) (Nat.le_of_ble_eq_true rfl) (Nat.le_of_ble_eq_true rfl) (Nat.le_of_ble_eq_true rfl) (Nat.le_of_ble_eq_true rfl) (Nat.le_of_ble_eq_true rfl) (nf, po, pt, rf, bx, xl, xr, yl, yh) h hP
    · have h := h.2 c6
      refine lv_iload_n hx hb dX4_box_30 rfl (lv_at hl 3 rfl) ?_
      refine lv_iload hx hb dX4_box_31 (lv_at hl 5 rfl) ?_
      refine cl_pi (va_runS (As := [.int v3, .int v5]) (rest := []) ⟨hx, hb, hml, hown, hts⟩ (ktX4_isSpan l H.size v3 v5 h) (va_cwS 2 hts gX4_box_X4_isSpan rfl rfl rfl (by decide +kernel) ⟨Nat.le_of_ble_eq_true rfl, Nat.le_of_ble_eq_true rfl⟩) ⟨pz.blind, fun U hU _ => ⟨rfl, pz.at hU⟩⟩ rfl rfl hl.1 rfl (lv_room (Nat.le_of_ble_eq_true rfl)) dX4_box_33 ⟨Nat.le_of_ble_eq_true rfl, Nat.le_of_ble_eq_true rfl⟩) hP hS (fun r7 _ H locs h hP hS => ?_)
      refine lv_if_ne (tgt := 49) hx hb dX4_box_36 (by decide) (fun c9 => ?_) (fun c9 => ?_)
      · have h := h.1 c9
        refine lv_aload_n hx hb dX4_box_49 rfl (lv_at hl 0 rfl) ?_
        refine va_get (D := (dC, dI)) (ci := 4) (v := .ref (q 1)) (C := RX4) (T := TX4) (N := 4) hx hb hts iwX4_box_X4 hown hK hP 0 rfl rfl 0 (by decide) (hts _ fwX4_box_12) (fun _ h9 => h9) rfl dX4_box_50 ?_
        refine va_get (D := (dC, dI)) (ci := 2) (v := .ref (q 5)) (C := RX2) (T := TX2) (N := 9) hx hb hts iwX4_box_X2 hown hK hP 1 rfl rfl 2 (by decide) (hts _ fwX4_box_78) (fun _ h9 => h9) rfl dX4_box_53 ?_
        refine lv_iload_n hx hb dX4_box_56 rfl (lv_at hl 1 rfl) ?_
        obtain ⟨b10, h⟩ := h
        refine va_iald (D := (dC, dI)) hx hb hK hP 5 0 rfl rfl b10 dX4_box_57 ?_
        refine lv_iconst (v := 4) hx hb dX4_box_58 (by decide) ?_
        refine lv_icmp_lt (tgt := 72) hx hb dX4_box_59 (by decide) (fun c11 => ?_) (fun c11 => ?_)
        · have h := h.1 c11
          refine lv_aload_n hx hb dX4_box_72 rfl (lv_at hl 0 rfl) ?_
          refine va_get (D := (dC, dI)) (ci := 4) (v := .ref (q 1)) (C := RX4) (T := TX4) (N := 4) hx hb hts iwX4_box_X4 hown hK hP 0 rfl rfl 0 (by decide) (hts _ fwX4_box_12) (fun _ h9 => h9) rfl dX4_box_73 ?_
          refine lv_iload_n hx hb dX4_box_76 rfl (lv_at hl 1 rfl) ?_
          refine lv_iload_n hx hb dX4_box_77 rfl (lv_at hl 2 rfl) ?_
          refine lv_iload_n hx hb dX4_box_78 rfl (lv_at hl 3 rfl) ?_
          refine lv_iload hx hb dX4_box_79 (lv_at hl 4 rfl) ?_
          refine lv_iload hx hb dX4_box_81 (lv_at hl 5 rfl) ?_
          refine cl_v (va_runV (As := [.int v1, .int v2, .int v3, .int v4, .int v5]) (rest := []) ⟨hx, hb, hml, hown, hts⟩ (ktX2_addBox l dC dI q cI cJ cZ H.size pg ps nf np nq ns po pt rf rl bx xl xr yl yh ms wt pf nr sl cl hu uu pd ro rc v1 v2 v3 v4 v5 h) (cwV 5 hts gX4_box_X2_addBox rfl rfl rfl (by decide +kernel) ⟨Nat.le_of_ble_eq_true rfl, Nat.le_of_ble_eq_true rfl⟩) ⟨wd.blind, va_recv hK hP (ci := 2) (q0 := 1) rfl rfl, fun U hU hW => ⟨rfl, wd.at hP hK ha hN hU hW⟩⟩ rfl rfl hl.1 rfl (lv_room (Nat.le_of_ble_eq_true rfl)) dX4_box_83 ⟨Nat.le_of_ble_eq_true rfl, Nat.le_of_ble_eq_true rfl⟩) hS (fun u13 H locs h hP hS => ?_)
          have hP : va_P (dC, dI) vwCl (WC q cI cJ cZ pg ps nf np nq ns po pt rf rl u13.1 u13.2.1 u13.2.2.1 u13.2.2.2.1 u13.2.2.2.2 ms wt pf nr sl cl hu uu pd ro rc) H := hP
          refine lv_aload_n hx hb dX4_box_86 rfl (lv_at hl 0 rfl) ?_
          refine cl_v (va_runV (As := []) (rest := []) ⟨hx, hb, hml, hown, hts⟩ (ktX4_forgetFindings l dC dI q cI cJ cZ H.size pg ps nf np nq ns po pt rf rl u13.1 u13.2.1 u13.2.2.1 u13.2.2.2.1 u13.2.2.2.2 ms wt pf nr sl cl hu uu pd ro rc  h) (cwV 0 hts gX4_box_X4_forgetFindings rfl rfl rfl (by decide +kernel) ⟨Nat.le_of_ble_eq_true rfl, Nat.le_of_ble_eq_true rfl⟩) ⟨wd.blind, va_recv hK hP (ci := 4) (q0 := 0) rfl rfl, fun U hU hW => ⟨rfl, wd.at hP hK ha hN hU hW⟩⟩ rfl rfl hl.1 rfl (lv_room (Nat.le_of_ble_eq_true rfl)) dX4_box_87 ⟨Nat.le_of_ble_eq_true rfl, Nat.le_of_ble_eq_true rfl⟩) hS (fun u15 H locs h hP hS => ?_)
          have hP : va_P (dC, dI) vwCl (WC q cI cJ cZ pg ps u15.1 np nq ns u15.2.1 u15.2.2.1 u15.2.2.2 rl u13.1 u13.2.1 u13.2.2.1 u13.2.2.2.1 u13.2.2.2.2 ms wt pf nr sl cl hu uu pd ro rc) H := hP
          refine lv_aload_n hx hb dX4_box_90 rfl (lv_at hl 0 rfl) ?_
          refine va_get (D := (dC, dI)) (ci := 4) (v := .ref (q 1)) (C := RX4) (T := TX4) (N := 4) hx hb hts iwX4_box_X4 hown hK hP 0 rfl rfl 0 (by decide) (hts _ fwX4_box_12) (fun _ h9 => h9) rfl dX4_box_91 ?_
          refine va_get (D := (dC, dI)) (ci := 2) (v := .ref (q 5)) (C := RX2) (T := TX2) (N := 9) hx hb hts iwX4_box_X2 hown hK hP 1 rfl rfl 2 (by decide) (hts _ fwX4_box_78) (fun _ h9 => h9) rfl dX4_box_94 ?_
          refine lv_iload_n hx hb dX4_box_97 rfl (lv_at hl 1 rfl) ?_
          obtain ⟨b16, h⟩ := h
          refine va_iald (D := (dC, dI)) hx hb hK hP 5 0 rfl rfl b16 dX4_box_98 ?_
          refine W.widen (k := 1) (n := 6) (by decide) (by decide) ?_
          exact vx_ret (rt_i (u15.1, u15.2.1, u15.2.2.1, u15.2.2.2, u13.1, u13.2.1, u13.2.2.1, u13.2.2.2.1, u13.2.2.2.2) hx hb hr hlk h (fun t ht => by rw [ht]; exact hP) hS dX4_box_99)
        · have h := h.2 c11
          exact xthrow hlt hx hb hown hts hT (hl.1.trans hml.symm) hlk hE hS (by decide +kernel) xkX4_box_58 xiX4_box_58 (text := "too many boxes") (by decide +kernel) xgX4_box_62 xbad_62 xot_62 dX4_box_62 dX4_box_65 dX4_box_66 dX4_box_68 dX4_box_71 (Nat.le_of_ble_eq_true rfl) (Nat.le_of_ble_eq_true rfl) (Nat.le_of_ble_eq_true rfl) (Nat.le_of_ble_eq_true rfl) (Nat.le_of_ble_eq_true rfl) (Nat.le_of_ble_eq_true rfl) (nf, po, pt, rf, bx, xl, xr, yl, yh) h hP
      · have h := h.2 c9
        exact xthrow hlt hx hb hown hts hT (hl.1.trans hml.symm) hlk hE hS (by decide +kernel) xkX4_box_41 xiX4_box_41 (text := "no such box") (by decide +kernel) xgX4_box_45 xbad_45 xot_45 dX4_box_39 dX4_box_42 dX4_box_43 dX4_box_45 dX4_box_48 (Nat.le_of_ble_eq_true rfl) (Nat.le_of_ble_eq_true rfl) (Nat.le_of_ble_eq_true rfl) (Nat.le_of_ble_eq_true rfl) (Nat.le_of_ble_eq_true rfl) (Nat.le_of_ble_eq_true rfl) (nf, po, pt, rf, bx, xl, xr, yl, yh) h hP
  · have h := h.2 c3
    exact xthrow hlt hx hb hown hts hT (hl.1.trans hml.symm) hlk hE hS (by decide +kernel) xkX4_box_67 xiX4_box_67 (text := "no such shape") (by decide +kernel) xgX4_box_71 xbad_71 xot_71 dX4_box_11 dX4_box_14 dX4_box_15 dX4_box_17 dX4_box_20 (Nat.le_of_ble_eq_true rfl) (Nat.le_of_ble_eq_true rfl) (Nat.le_of_ble_eq_true rfl) (Nat.le_of_ble_eq_true rfl) (Nat.le_of_ble_eq_true rfl) (Nat.le_of_ble_eq_true rfl) (nf, po, pt, rf, bx, xl, xr, yl, yh) h hP

theorem fwX4_stitch_12 : Cond.fieldLink RX4 12 "MaskParts" "plan" "LMaskParts$Plan;" ∈ wsX4_stitch := by decide +kernel
set_option maxRecDepth 20000 in
theorem iwX4_stitch_X4 : ∀ w ∈ wsX40, w ∈ wsX4_stitch := by decide +kernel
theorem fwX4_stitch_92 : Cond.fieldLink RX4 92 "MaskParts$Plan" "mayStitch" "[Z" ∈ wsX4_stitch := by decide +kernel
set_option maxRecDepth 20000 in
theorem iwX4_stitch_X2 : ∀ w ∈ wsX20, w ∈ wsX4_stitch := by decide +kernel
abbrev QX4_stitch (dC : Nat → ClassId) (dI : Nat → Nat → Nat) (cI cJ cZ : ClassId) (q : Nat → Nat) (sz : Nat) (pg : Int32) (ps : Int32) (np : Int32) (nq : Int32) (ns : Int32) (rl : Int32) (bx : (Nat → Int32)) (xl : (Nat → Int32)) (xr : (Nat → Int32)) (yl : (Nat → Int32)) (yh : (Nat → Int32)) (wt : (Nat → Int32)) (pf : (Nat → Int32)) (nr : (Nat → Int64)) (sl : (Nat → Int32)) (cl : (Nat → Int32)) (hu : (Nat → Int32)) (uu : (Nat → Int32)) (pd : (Nat → Int64)) (ro : (Nat → Int32)) (rc : (Nat → Int64)) (K : Int32 → (Int32 × Int32 × Int32 × Int32 × (Nat → Int32)) → Prop) : Array Value → State → Outcome → State → Prop := va_Qi (fun (r : Int32) (u : Int32 × Int32 × Int32 × Int32 × (Nat → Int32)) => K r u) (fun (u : Int32 × Int32 × Int32 × Int32 × (Nat → Int32)) t => va_P (dC, dI) vwCl (WC q cI cJ cZ pg ps u.1 np nq ns u.2.1 u.2.2.1 u.2.2.2.1 rl bx xl xr yl yh u.2.2.2.2 wt pf nr sl cl hu uu pd ro rc) t.heap) (AF q 21 sz)
abbrev XCX4_stitch (dC : Nat → ClassId) (dI : Nat → Nat → Nat) (cI cJ cZ : ClassId) (q : Nat → Nat) (sz : Nat) (pg : Int32) (ps : Int32) (np : Int32) (nq : Int32) (ns : Int32) (rl : Int32) (bx : (Nat → Int32)) (xl : (Nat → Int32)) (xr : (Nat → Int32)) (yl : (Nat → Int32)) (yh : (Nat → Int32)) (wt : (Nat → Int32)) (pf : (Nat → Int32)) (nr : (Nat → Int64)) (sl : (Nat → Int32)) (cl : (Nat → Int32)) (hu : (Nat → Int32)) (uu : (Nat → Int32)) (pd : (Nat → Int64)) (ro : (Nat → Int32)) (rc : (Nat → Int64)) (KX : String → (Int32 × Int32 × Int32 × Int32 × (Nat → Int32)) → Prop) : String → State → State → Prop := XX (dC, dI) q 21 sz KX (fun (u : Int32 × Int32 × Int32 × Int32 × (Nat → Int32)) => WC q cI cJ cZ pg ps u.1 np nq ns u.2.1 u.2.2.1 u.2.2.2.1 rl bx xl xr yl yh u.2.2.2.2 wt pf nr sl cl hu uu pd ro rc)
def wX4_stitch (ps : Int32) (bx : (Nat → Int32)) (nf : Int32) (po : Int32) (pt : Int32) (rf : Int32) (ms : (Nat → Int32)) (v1 : Int32) (v2 : Int32) (v3 : Int32) (K : Int32 → (Int32 × Int32 × Int32 × Int32 × (Nat → Int32)) → Prop) (KX : String → (Int32 × Int32 × Int32 × Int32 × (Nat → Int32)) → Prop) : Prop := (wX4_needSlot ps bx v1 v2 (fun (r1 : Int32) => (vp_in r1 40 ∧ (∀ i4 : Int32, i4 = (ms r1.toNatClampNeg) → (vp_in r1 40 ∧ (∀ f6 : (Nat → Int32), f6 = upd ms r1.toNatClampNeg (vp_nar .boolean v3) → (wX4_forgetFindings nf po pt rf  (fun (u8 : Int32 × Int32 × Int32 × Int32) => (narrow .boolean (.int i4) = .int i4 ∧ K i4 (u8.1, u8.2.1, u8.2.2.1, u8.2.2.2, f6))))))))) (fun (E : String) => KX E (nf, po, pt, rf, ms)))
set_option maxHeartbeats 4000000 in
set_option maxRecDepth 100000 in
theorem ktX4_stitch (l : Launch) (hlt : l.stackTraces = false) (dC : Nat → ClassId) (dI : Nat → Nat → Nat) (q : Nat → Nat) (cI cJ cZ : ClassId) (sz : Nat) (pg : Int32) (ps : Int32) (nf : Int32) (np : Int32) (nq : Int32) (ns : Int32) (po : Int32) (pt : Int32) (rf : Int32) (rl : Int32) (bx : (Nat → Int32)) (xl : (Nat → Int32)) (xr : (Nat → Int32)) (yl : (Nat → Int32)) (yh : (Nat → Int32)) (ms : (Nat → Int32)) (wt : (Nat → Int32)) (pf : (Nat → Int32)) (nr : (Nat → Int64)) (sl : (Nat → Int32)) (cl : (Nat → Int32)) (hu : (Nat → Int32)) (uu : (Nat → Int32)) (pd : (Nat → Int64)) (ro : (Nat → Int32)) (rc : (Nat → Int64)) (v1 : Int32) (v2 : Int32) (v3 : Int32) {K : Int32 → (Int32 × Int32 × Int32 × Int32 × (Nat → Int32)) → Prop} {KX : String → (Int32 × Int32 × Int32 × Int32 × (Nat → Int32)) → Prop} (h : wX4_stitch ps bx nf po pt rf ms v1 v2 v3 K KX) : vx_Met l yX4_stitch wsX4_stitch { frames := 7, cells := 1, slots := 6, locals := 114 } (va_Pc [.ref (q 0), .int v1, .int v2, .int v3] (wx dC dI cI cJ cZ q 21 sz (WC q cI cJ cZ pg ps nf np nq ns po pt rf rl bx xl xr yl yh ms wt pf nr sl cl hu uu pd ro rc))) (QX4_stitch dC dI cI cJ cZ q sz pg ps np nq ns rl bx xl xr yl yh wt pf nr sl cl hu uu pd ro rc K) (XCX4_stitch dC dI cI cJ cZ q sz pg ps np nq ns rl bx xl xr yl yh wt pf nr sl cl hu uu pd ro rc KX) 1 6 (AF q 21 sz) := by
  refine xmet_of [.ref (q 0), .int v1, .int v2, .int v3] (by decide +kernel) rfl (Nat.le_of_ble_eq_true rfl) ?_
  intro p e s m below meth c ls hsz C hT hK ha hN hE hl hP
  subst hsz
  obtain ⟨hx, hb, hr, hml, hown, hts, hlk⟩ := id C
  have hl : lv_has ls 6 [(0, .ref (q 0)), (1, .int v1), (2, .int v2), (3, .int v3)] := hl
  refine w_go (Pw := fun H => va_P (dC, dI) vwCl (WC q cI cJ cZ pg ps nf np nq ns po pt rf rl bx xl xr yl yh ms wt pf nr sl cl hu uu pd ro rc) H) (A := AF q 21 s.heap.size) (fun H locs hP hS => ?_) hP
  unfold wX4_stitch at h
  refine lv_aload_n hx hb dX4_stitch_0 rfl (lv_at hl 0 rfl) ?_
  refine lv_iload_n hx hb dX4_stitch_1 rfl (lv_at hl 1 rfl) ?_
  refine lv_iload_n hx hb dX4_stitch_2 rfl (lv_at hl 2 rfl) ?_
  refine xc_i (vx_runV (As := [.int v1, .int v2]) (rest := []) ⟨hx, hb, hml, hown, hts⟩ (ktX4_needSlot l hlt dC dI q cI cJ cZ H.size pg ps nf np nq ns po pt rf rl bx xl xr yl yh ms wt pf nr sl cl hu uu pd ro rc v1 v2 h) (cwV 2 hts gX4_stitch_X4_needSlot rfl rfl rfl (by decide +kernel) ⟨Nat.le_of_ble_eq_true rfl, Nat.le_of_ble_eq_true rfl⟩) ⟨wx.blind, va_recv hK hP (ci := 4) (q0 := 0) rfl rfl, fun U hU hW => ⟨rfl, wx.at hP hK ha hN hE hS hU hW⟩⟩ rfl rfl hl.1 rfl (lv_room (Nat.le_of_ble_eq_true rfl)) dX4_stitch_3 ⟨Nat.le_of_ble_eq_true rfl, Nat.le_of_ble_eq_true rfl⟩) hS (fun E ce q9 _ H locs h hP hS hce hcv hcl => xpass hT hlk hS hce hcv hcl (Nat.le_of_ble_eq_true rfl) (Nat.le_of_ble_eq_true rfl) (nf, po, pt, rf, ms) h hP) (fun r1 _ H locs h hP hS => ?_)
  have hP : va_P (dC, dI) vwCl (WC q cI cJ cZ pg ps nf np nq ns po pt rf rl bx xl xr yl yh ms wt pf nr sl cl hu uu pd ro rc) H := hP
  refine lv_istore (lv' := [(4, .int r1), (0, .ref (q 0)), (1, .int v1), (2, .int v2), (3, .int v3)]) hx hb dX4_stitch_6 hl (by decide) rfl (fun ls hl => ?_)
  refine lv_aload_n hx hb dX4_stitch_8 rfl (lv_at hl 1 rfl) ?_
  refine va_get (D := (dC, dI)) (ci := 4) (v := .ref (q 1)) (C := RX4) (T := TX4) (N := 4) hx hb hts iwX4_stitch_X4 hown hK hP 0 rfl rfl 0 (by decide) (hts _ fwX4_stitch_12) (fun _ h9 => h9) rfl dX4_stitch_9 ?_
  refine va_get (D := (dC, dI)) (ci := 2) (v := .ref (q 10)) (C := RX2) (T := TX2) (N := 9) hx hb hts iwX4_stitch_X2 hown hK hP 1 rfl rfl 7 (by decide) (hts _ fwX4_stitch_92) (fun _ h9 => h9) rfl dX4_stitch_12 ?_
  refine lv_iload hx hb dX4_stitch_15 (lv_at hl 0 rfl) ?_
  obtain ⟨b3, h⟩ := h
  refine va_zald (D := (dC, dI)) hx hb hK hP 10 2 rfl rfl b3 dX4_stitch_17 ?_
  refine lv_topi (fun i4 ei4 => ?_)
  have h := h i4 ei4
  refine lv_istore (lv' := [(5, .int i4), (4, .int r1), (0, .ref (q 0)), (1, .int v1), (2, .int v2), (3, .int v3)]) hx hb dX4_stitch_18 hl (by decide) rfl (fun ls hl => ?_)
  refine lv_aload_n hx hb dX4_stitch_20 rfl (lv_at hl 2 rfl) ?_
  refine va_get (D := (dC, dI)) (ci := 4) (v := .ref (q 1)) (C := RX4) (T := TX4) (N := 4) hx hb hts iwX4_stitch_X4 hown hK hP 0 rfl rfl 0 (by decide) (hts _ fwX4_stitch_12) (fun _ h9 => h9) rfl dX4_stitch_21 ?_
  refine va_get (D := (dC, dI)) (ci := 2) (v := .ref (q 10)) (C := RX2) (T := TX2) (N := 9) hx hb hts iwX4_stitch_X2 hown hK hP 1 rfl rfl 7 (by decide) (hts _ fwX4_stitch_92) (fun _ h9 => h9) rfl dX4_stitch_24 ?_
  refine lv_iload hx hb dX4_stitch_27 (lv_at hl 1 rfl) ?_
  refine lv_iload_n hx hb dX4_stitch_29 rfl (lv_at hl 5 rfl) ?_
  obtain ⟨b5, h⟩ := h
  refine va_zast (D := (dC, dI)) hx hb hK hP (d_WC ha) hS 10 2 rfl rfl b5 dX4_stitch_30 (fun H locs hP _ hS => ?_)
  obtain ⟨f6, ef6⟩ : ∃ z : (Nat → Int32), z = upd ms r1.toNatClampNeg (vp_nar .boolean v3) := ⟨_, rfl⟩
  have h := h f6 ef6
  have hP : va_P (dC, dI) vwCl (WC q cI cJ cZ pg ps nf np nq ns po pt rf rl bx xl xr yl yh f6 wt pf nr sl cl hu uu pd ro rc) H := by rw [ef6]; exact hP
  refine lv_aload_n hx hb dX4_stitch_31 rfl (lv_at hl 2 rfl) ?_
  refine cl_v (va_runV (As := []) (rest := []) ⟨hx, hb, hml, hown, hts⟩ (ktX4_forgetFindings l dC dI q cI cJ cZ H.size pg ps nf np nq ns po pt rf rl bx xl xr yl yh f6 wt pf nr sl cl hu uu pd ro rc  h) (cwV 0 hts gX4_stitch_X4_forgetFindings rfl rfl rfl (by decide +kernel) ⟨Nat.le_of_ble_eq_true rfl, Nat.le_of_ble_eq_true rfl⟩) ⟨wd.blind, va_recv hK hP (ci := 4) (q0 := 0) rfl rfl, fun U hU hW => ⟨rfl, wd.at hP hK ha hN hU hW⟩⟩ rfl rfl hl.1 rfl (lv_room (Nat.le_of_ble_eq_true rfl)) dX4_stitch_32 ⟨Nat.le_of_ble_eq_true rfl, Nat.le_of_ble_eq_true rfl⟩) hS (fun u8 H locs h hP hS => ?_)
  have hP : va_P (dC, dI) vwCl (WC q cI cJ cZ pg ps u8.1 np nq ns u8.2.1 u8.2.2.1 u8.2.2.2 rl bx xl xr yl yh f6 wt pf nr sl cl hu uu pd ro rc) H := hP
  refine lv_iload hx hb dX4_stitch_35 (lv_at hl 0 rfl) ?_
  obtain ⟨hn9, h⟩ := h
  exact vx_ret (rt_z (u8.1, u8.2.1, u8.2.2.1, u8.2.2.2, f6) hx hb hr hlk hn9 h (fun t ht => by rw [ht]; exact hP) hS dX4_stitch_37)

theorem fwX4_pre_12 : Cond.fieldLink RX4 12 "MaskParts" "plan" "LMaskParts$Plan;" ∈ wsX4_pre := by decide +kernel
set_option maxRecDepth 20000 in
theorem iwX4_pre_X4 : ∀ w ∈ wsX40, w ∈ wsX4_pre := by decide +kernel
theorem fwX4_pre_101 : Cond.fieldLink RX4 101 "MaskParts$Plan" "wanted" "[I" ∈ wsX4_pre := by decide +kernel
set_option maxRecDepth 20000 in
theorem iwX4_pre_X2 : ∀ w ∈ wsX20, w ∈ wsX4_pre := by decide +kernel
theorem xkX4_pre_41 : Cond.classLink RX4 41 "java/lang/IllegalArgumentException" ∈ wsX4_pre := by decide +kernel
theorem xiX4_pre_41 : Cond.initialized "java/lang/IllegalArgumentException" ∈ wsX4_pre := by decide +kernel
set_option maxRecDepth 20000 in
theorem xgX4_pre_45 : ∀ w ∈ (vx_atS RX4 45 "java/lang/IllegalArgumentException" NM).filter goodWord, w ∈ wsX4_pre := by decide +kernel
abbrev QX4_pre (dC : Nat → ClassId) (dI : Nat → Nat → Nat) (cI cJ cZ : ClassId) (q : Nat → Nat) (sz : Nat) (pg : Int32) (ps : Int32) (np : Int32) (nq : Int32) (ns : Int32) (rl : Int32) (bx : (Nat → Int32)) (xl : (Nat → Int32)) (xr : (Nat → Int32)) (yl : (Nat → Int32)) (yh : (Nat → Int32)) (ms : (Nat → Int32)) (pf : (Nat → Int32)) (nr : (Nat → Int64)) (sl : (Nat → Int32)) (cl : (Nat → Int32)) (hu : (Nat → Int32)) (uu : (Nat → Int32)) (pd : (Nat → Int64)) (ro : (Nat → Int32)) (rc : (Nat → Int64)) (K : Int32 → (Int32 × Int32 × Int32 × Int32 × (Nat → Int32)) → Prop) : Array Value → State → Outcome → State → Prop := va_Qi (fun (r : Int32) (u : Int32 × Int32 × Int32 × Int32 × (Nat → Int32)) => K r u) (fun (u : Int32 × Int32 × Int32 × Int32 × (Nat → Int32)) t => va_P (dC, dI) vwCl (WC q cI cJ cZ pg ps u.1 np nq ns u.2.1 u.2.2.1 u.2.2.2.1 rl bx xl xr yl yh ms u.2.2.2.2 pf nr sl cl hu uu pd ro rc) t.heap) (AF q 21 sz)
abbrev XCX4_pre (dC : Nat → ClassId) (dI : Nat → Nat → Nat) (cI cJ cZ : ClassId) (q : Nat → Nat) (sz : Nat) (pg : Int32) (ps : Int32) (np : Int32) (nq : Int32) (ns : Int32) (rl : Int32) (bx : (Nat → Int32)) (xl : (Nat → Int32)) (xr : (Nat → Int32)) (yl : (Nat → Int32)) (yh : (Nat → Int32)) (ms : (Nat → Int32)) (pf : (Nat → Int32)) (nr : (Nat → Int64)) (sl : (Nat → Int32)) (cl : (Nat → Int32)) (hu : (Nat → Int32)) (uu : (Nat → Int32)) (pd : (Nat → Int64)) (ro : (Nat → Int32)) (rc : (Nat → Int64)) (KX : String → (Int32 × Int32 × Int32 × Int32 × (Nat → Int32)) → Prop) : String → State → State → Prop := XX (dC, dI) q 21 sz KX (fun (u : Int32 × Int32 × Int32 × Int32 × (Nat → Int32)) => WC q cI cJ cZ pg ps u.1 np nq ns u.2.1 u.2.2.1 u.2.2.2.1 rl bx xl xr yl yh ms u.2.2.2.2 pf nr sl cl hu uu pd ro rc)
def bkX4_pre_30 (ps : Int32) (bx : (Nat → Int32)) (K : Int32 → (Int32 × Int32 × Int32 × Int32 × (Nat → Int32)) → Prop) (KX : String → (Int32 × Int32 × Int32 × Int32 × (Nat → Int32)) → Prop) (nf : Int32) (po : Int32) (pt : Int32) (rf : Int32) (wt : (Nat → Int32)) (v3 : Int32) (v4 : Int32) : Prop := (vp_in v4 40 ∧ (∀ i2 : Int32, i2 = (wt v4.toNatClampNeg) → (vp_in v4 40 ∧ (∀ f4 : (Nat → Int32), f4 = upd wt v4.toNatClampNeg v3 → (wX4_forgetFindings nf po pt rf  (fun (u6 : Int32 × Int32 × Int32 × Int32) => K i2 (u6.1, u6.2.1, u6.2.2.1, u6.2.2.2, f4)))))))
set_option maxHeartbeats 4000000 in
set_option maxRecDepth 100000 in
theorem mX4_pre_30 {p : Program} {l : Launch} {e : Env} {s : State} {m : MethodId} {av : Array Value} {below : List Frame} {meth : Method} {c : Code} {dC : Nat → ClassId} {dI : Nat → Nat → Nat} {cI cJ cZ : ClassId} {q : Nat → Nat} {K : Int32 → (Int32 × Int32 × Int32 × Int32 × (Nat → Int32)) → Prop} {KX : String → (Int32 × Int32 × Int32 × Int32 × (Nat → Int32)) → Prop} (pg : Int32) (ps : Int32) (np : Int32) (nq : Int32) (ns : Int32) (rl : Int32) (bx : (Nat → Int32)) (xl : (Nat → Int32)) (xr : (Nat → Int32)) (yl : (Nat → Int32)) (yh : (Nat → Int32)) (ms : (Nat → Int32)) (pf : (Nat → Int32)) (nr : (Nat → Int64)) (sl : (Nat → Int32)) (cl : (Nat → Int32)) (hu : (Nat → Int32)) (uu : (Nat → Int32)) (pd : (Nat → Int64)) (ro : (Nat → Int32)) (rc : (Nat → Int64)) (hlt : l.stackTraces = false) (C : CX p s m av meth c cX4_pre 6 (some .int) RX4 wsX4_pre) (hT : ∀ x ∈ c.exceptionTable.toList, False) (hK : va_K (dC, dI) vwCl (TY cI cJ cZ) s) (ha : apart q 21) (hN : NX s) (hE : EX (AF q 21 s.heap.size) s)  : ∀ (nf : Int32) (po : Int32) (pt : Int32) (rf : Int32) (wt : (Nat → Int32)) (v3 : Int32) (v4 : Int32) (ls : Array Slot) (H : Heap) (locs : List Loc), bkX4_pre_30 ps bx K KX nf po pt rf wt v3 v4 → lv_has ls 6 [(0, .ref (q 0)), (3, .int v3), (4, .int v4)] → va_P (dC, dI) vwCl (WC q cI cJ cZ pg ps nf np nq ns po pt rf rl bx xl xr yl yh ms wt pf nr sl cl hu uu pd ro rc) H → va_S (AF q 21 s.heap.size) s.heap H locs → W p l e { frames := 7, cells := 2, slots := 12, locals := 114 } s m av below meth c H locs 2 12 (vx_MQ below (QX4_pre dC dI cI cJ cZ q s.heap.size pg ps np nq ns rl bx xl xr yl yh ms pf nr sl cl hu uu pd ro rc K) (XCX4_pre dC dI cI cJ cZ q s.heap.size pg ps np nq ns rl bx xl xr yl yh ms pf nr sl cl hu uu pd ro rc KX) av s 2 12 (AF q 21 s.heap.size)) (F0 m 30 ls []) := by
  obtain ⟨hx, hb, hr, hml, hown, hts, hlk⟩ := id C
  intro nf po pt rf wt v3 v4 ls H locs h hl hP hS
  unfold bkX4_pre_30 at h
  refine lv_aload_n hx hb dX4_pre_30 rfl (lv_at hl 0 rfl) ?_
  refine va_get (D := (dC, dI)) (ci := 4) (v := .ref (q 1)) (C := RX4) (T := TX4) (N := 4) hx hb hts iwX4_pre_X4 hown hK hP 0 rfl rfl 0 (by decide) (hts _ fwX4_pre_12) (fun _ h9 => h9) rfl dX4_pre_31 ?_
  refine va_get (D := (dC, dI)) (ci := 2) (v := .ref (q 11)) (C := RX2) (T := TX2) (N := 9) hx hb hts iwX4_pre_X2 hown hK hP 1 rfl rfl 8 (by decide) (hts _ fwX4_pre_101) (fun _ h9 => h9) rfl dX4_pre_34 ?_
  refine lv_iload hx hb dX4_pre_37 (lv_at hl 2 rfl) ?_
  obtain ⟨b1, h⟩ := h
  refine va_iald (D := (dC, dI)) hx hb hK hP 11 0 rfl rfl b1 dX4_pre_39 ?_
  refine lv_topi (fun i2 ei2 => ?_)
  have h := h i2 ei2
  refine lv_istore (lv' := [(5, .int i2), (0, .ref (q 0)), (3, .int v3), (4, .int v4)]) hx hb dX4_pre_40 hl (by decide) rfl (fun ls hl => ?_)
  refine lv_aload_n hx hb dX4_pre_42 rfl (lv_at hl 1 rfl) ?_
  refine va_get (D := (dC, dI)) (ci := 4) (v := .ref (q 1)) (C := RX4) (T := TX4) (N := 4) hx hb hts iwX4_pre_X4 hown hK hP 0 rfl rfl 0 (by decide) (hts _ fwX4_pre_12) (fun _ h9 => h9) rfl dX4_pre_43 ?_
  refine va_get (D := (dC, dI)) (ci := 2) (v := .ref (q 11)) (C := RX2) (T := TX2) (N := 9) hx hb hts iwX4_pre_X2 hown hK hP 1 rfl rfl 8 (by decide) (hts _ fwX4_pre_101) (fun _ h9 => h9) rfl dX4_pre_46 ?_
  refine lv_iload hx hb dX4_pre_49 (lv_at hl 3 rfl) ?_
  refine lv_iload_n hx hb dX4_pre_51 rfl (lv_at hl 2 rfl) ?_
  obtain ⟨b3, h⟩ := h
  refine va_iast (D := (dC, dI)) hx hb hK hP (d_WC ha) hS 11 0 rfl rfl b3 dX4_pre_52 (fun H locs hP _ hS => ?_)
  obtain ⟨f4, ef4⟩ : ∃ z : (Nat → Int32), z = upd wt v4.toNatClampNeg v3 := ⟨_, rfl⟩
  have h := h f4 ef4
  have hP : va_P (dC, dI) vwCl (WC q cI cJ cZ pg ps nf np nq ns po pt rf rl bx xl xr yl yh ms f4 pf nr sl cl hu uu pd ro rc) H := by rw [ef4]; exact hP
  refine lv_aload_n hx hb dX4_pre_53 rfl (lv_at hl 1 rfl) ?_
  refine cl_v (va_runV (As := []) (rest := []) ⟨hx, hb, hml, hown, hts⟩ (ktX4_forgetFindings l dC dI q cI cJ cZ H.size pg ps nf np nq ns po pt rf rl bx xl xr yl yh ms f4 pf nr sl cl hu uu pd ro rc  h) (cwV 0 hts gX4_pre_X4_forgetFindings rfl rfl rfl (by decide +kernel) ⟨Nat.le_of_ble_eq_true rfl, Nat.le_of_ble_eq_true rfl⟩) ⟨wd.blind, va_recv hK hP (ci := 4) (q0 := 0) rfl rfl, fun U hU hW => ⟨rfl, wd.at hP hK ha hN hU hW⟩⟩ rfl rfl hl.1 rfl (lv_room (Nat.le_of_ble_eq_true rfl)) dX4_pre_54 ⟨Nat.le_of_ble_eq_true rfl, Nat.le_of_ble_eq_true rfl⟩) hS (fun u6 H locs h hP hS => ?_)
  have hP : va_P (dC, dI) vwCl (WC q cI cJ cZ pg ps u6.1 np nq ns u6.2.1 u6.2.2.1 u6.2.2.2 rl bx xl xr yl yh ms f4 pf nr sl cl hu uu pd ro rc) H := hP
  refine lv_iload hx hb dX4_pre_57 (lv_at hl 0 rfl) ?_
  exact vx_ret (rt_i (u6.1, u6.2.1, u6.2.2.1, u6.2.2.2, f4) hx hb hr hlk h (fun t ht => by rw [ht]; exact hP) hS dX4_pre_59)
def wX4_pre (ps : Int32) (bx : (Nat → Int32)) (nf : Int32) (po : Int32) (pt : Int32) (rf : Int32) (wt : (Nat → Int32)) (v1 : Int32) (v2 : Int32) (v3 : Int32) (K : Int32 → (Int32 × Int32 × Int32 × Int32 × (Nat → Int32)) → Prop) (KX : String → (Int32 × Int32 × Int32 × Int32 × (Nat → Int32)) → Prop) : Prop := (wX4_needSlot ps bx v1 v2 (fun (r7 : Int32) => ((v3 = (-1) → bkX4_pre_30 ps bx K KX nf po pt rf wt v3 r7) ∧ (¬ (v3 = (-1)) → (wX4_isColour v3 (fun r10 : Int32 => ((¬ r10 = 0 → bkX4_pre_30 ps bx K KX nf po pt rf wt v3 r7) ∧ (r10 = 0 → KX "java/lang/IllegalArgumentException" (nf, po, pt, rf, wt)))))))) (fun (E : String) => KX E (nf, po, pt, rf, wt)))
set_option maxHeartbeats 4000000 in
set_option maxRecDepth 100000 in
theorem ktX4_pre (l : Launch) (hlt : l.stackTraces = false) (dC : Nat → ClassId) (dI : Nat → Nat → Nat) (q : Nat → Nat) (cI cJ cZ : ClassId) (sz : Nat) (pg : Int32) (ps : Int32) (nf : Int32) (np : Int32) (nq : Int32) (ns : Int32) (po : Int32) (pt : Int32) (rf : Int32) (rl : Int32) (bx : (Nat → Int32)) (xl : (Nat → Int32)) (xr : (Nat → Int32)) (yl : (Nat → Int32)) (yh : (Nat → Int32)) (ms : (Nat → Int32)) (wt : (Nat → Int32)) (pf : (Nat → Int32)) (nr : (Nat → Int64)) (sl : (Nat → Int32)) (cl : (Nat → Int32)) (hu : (Nat → Int32)) (uu : (Nat → Int32)) (pd : (Nat → Int64)) (ro : (Nat → Int32)) (rc : (Nat → Int64)) (v1 : Int32) (v2 : Int32) (v3 : Int32) {K : Int32 → (Int32 × Int32 × Int32 × Int32 × (Nat → Int32)) → Prop} {KX : String → (Int32 × Int32 × Int32 × Int32 × (Nat → Int32)) → Prop} (h : wX4_pre ps bx nf po pt rf wt v1 v2 v3 K KX) : vx_Met l yX4_pre wsX4_pre { frames := 7, cells := 2, slots := 12, locals := 114 } (va_Pc [.ref (q 0), .int v1, .int v2, .int v3] (wx dC dI cI cJ cZ q 21 sz (WC q cI cJ cZ pg ps nf np nq ns po pt rf rl bx xl xr yl yh ms wt pf nr sl cl hu uu pd ro rc))) (QX4_pre dC dI cI cJ cZ q sz pg ps np nq ns rl bx xl xr yl yh ms pf nr sl cl hu uu pd ro rc K) (XCX4_pre dC dI cI cJ cZ q sz pg ps np nq ns rl bx xl xr yl yh ms pf nr sl cl hu uu pd ro rc KX) 2 12 (AF q 21 sz) := by
  refine xmet_of [.ref (q 0), .int v1, .int v2, .int v3] (by decide +kernel) rfl (Nat.le_of_ble_eq_true rfl) ?_
  intro p e s m below meth c ls hsz C hT hK ha hN hE hl hP
  subst hsz
  obtain ⟨hx, hb, hr, hml, hown, hts, hlk⟩ := id C
  have hl : lv_has ls 6 [(0, .ref (q 0)), (1, .int v1), (2, .int v2), (3, .int v3)] := hl
  refine w_go (Pw := fun H => va_P (dC, dI) vwCl (WC q cI cJ cZ pg ps nf np nq ns po pt rf rl bx xl xr yl yh ms wt pf nr sl cl hu uu pd ro rc) H) (A := AF q 21 s.heap.size) (fun H locs hP hS => ?_) hP
  unfold wX4_pre at h
  refine lv_aload_n hx hb dX4_pre_0 rfl (lv_at hl 0 rfl) ?_
  refine lv_iload_n hx hb dX4_pre_1 rfl (lv_at hl 1 rfl) ?_
  refine lv_iload_n hx hb dX4_pre_2 rfl (lv_at hl 2 rfl) ?_
  refine xc_i (vx_runV (As := [.int v1, .int v2]) (rest := []) ⟨hx, hb, hml, hown, hts⟩ (ktX4_needSlot l hlt dC dI q cI cJ cZ H.size pg ps nf np nq ns po pt rf rl bx xl xr yl yh ms wt pf nr sl cl hu uu pd ro rc v1 v2 h) (cwV 2 hts gX4_pre_X4_needSlot rfl rfl rfl (by decide +kernel) ⟨Nat.le_of_ble_eq_true rfl, Nat.le_of_ble_eq_true rfl⟩) ⟨wx.blind, va_recv hK hP (ci := 4) (q0 := 0) rfl rfl, fun U hU hW => ⟨rfl, wx.at hP hK ha hN hE hS hU hW⟩⟩ rfl rfl hl.1 rfl (lv_room (Nat.le_of_ble_eq_true rfl)) dX4_pre_3 ⟨Nat.le_of_ble_eq_true rfl, Nat.le_of_ble_eq_true rfl⟩) hS (fun E ce q9 _ H locs h hP hS hce hcv hcl => xpass hT hlk hS hce hcv hcl (Nat.le_of_ble_eq_true rfl) (Nat.le_of_ble_eq_true rfl) (nf, po, pt, rf, wt) h hP) (fun r7 _ H locs h hP hS => ?_)
  have hP : va_P (dC, dI) vwCl (WC q cI cJ cZ pg ps nf np nq ns po pt rf rl bx xl xr yl yh ms wt pf nr sl cl hu uu pd ro rc) H := hP
  refine lv_istore (lv' := [(4, .int r7), (0, .ref (q 0)), (1, .int v1), (2, .int v2), (3, .int v3)]) hx hb dX4_pre_6 hl (by decide) rfl (fun ls hl => ?_)
  refine lv_iload_n hx hb dX4_pre_8 rfl (lv_at hl 4 rfl) ?_
  refine lv_iconst (v := (-1)) hx hb dX4_pre_9 (by decide) ?_
  refine lv_icmp_eq (tgt := 30) hx hb dX4_pre_10 (by decide) (fun c9 => ?_) (fun c9 => ?_)
  · have h := h.1 c9
    refine W.widen (k := 2) (n := 12) (by decide) (by decide) ?_
    exact mX4_pre_30 pg ps np nq ns rl bx xl xr yl yh ms pf nr sl cl hu uu pd ro rc hlt C hT hK ha hN hE  nf po pt rf wt v3 r7 ls H locs h (lv_sub hl [1, 4, 0] rfl) hP hS
  · have h := h.2 c9
    refine lv_iload_n hx hb dX4_pre_13 rfl (lv_at hl 4 rfl) ?_
    refine cl_pi (va_runS (As := [.int v3]) (rest := []) ⟨hx, hb, hml, hown, hts⟩ (ktX4_isColour l H.size v3 h) (va_cwS 1 hts gX4_pre_X4_isColour rfl rfl rfl (by decide +kernel) ⟨Nat.le_of_ble_eq_true rfl, Nat.le_of_ble_eq_true rfl⟩) ⟨pz.blind, fun U hU _ => ⟨rfl, pz.at hU⟩⟩ rfl rfl hl.1 rfl (lv_room (Nat.le_of_ble_eq_true rfl)) dX4_pre_14 ⟨Nat.le_of_ble_eq_true rfl, Nat.le_of_ble_eq_true rfl⟩) hP hS (fun r10 _ H locs h hP hS => ?_)
    refine lv_if_ne (tgt := 30) hx hb dX4_pre_17 (by decide) (fun c12 => ?_) (fun c12 => ?_)
    · have h := h.1 c12
      refine W.widen (k := 2) (n := 12) (by decide) (by decide) ?_
      exact mX4_pre_30 pg ps np nq ns rl bx xl xr yl yh ms pf nr sl cl hu uu pd ro rc hlt C hT hK ha hN hE  nf po pt rf wt v3 r7 ls H locs h (lv_sub hl [1, 4, 0] rfl) hP hS
    · have h := h.2 c12
      exact xthrow hlt hx hb hown hts hT (hl.1.trans hml.symm) hlk hE hS (by decide +kernel) xkX4_pre_41 xiX4_pre_41 (text := "no such colour") (by decide +kernel) xgX4_pre_45 xbad_45 xot_45 dX4_pre_20 dX4_pre_23 dX4_pre_24 dX4_pre_26 dX4_pre_29 (Nat.le_of_ble_eq_true rfl) (Nat.le_of_ble_eq_true rfl) (Nat.le_of_ble_eq_true rfl) (Nat.le_of_ble_eq_true rfl) (Nat.le_of_ble_eq_true rfl) (Nat.le_of_ble_eq_true rfl) (nf, po, pt, rf, wt) h hP

theorem fwX4_part_21 : Cond.fieldLink RX4 21 "MaskParts" "net" "LMaskParts$Net;" ∈ wsX4_part := by decide +kernel
set_option maxRecDepth 20000 in
theorem iwX4_part_X4 : ∀ w ∈ wsX40, w ∈ wsX4_part := by decide +kernel
theorem fwX4_part_107 : Cond.fieldLink RX4 107 "MaskParts$Net" "partOf" "[I" ∈ wsX4_part := by decide +kernel
set_option maxRecDepth 20000 in
theorem iwX4_part_X0 : ∀ w ∈ wsX00, w ∈ wsX4_part := by decide +kernel
abbrev QX4_part (dC : Nat → ClassId) (dI : Nat → Nat → Nat) (cI cJ cZ : ClassId) (q : Nat → Nat) (sz : Nat) (pg : Int32) (ps : Int32) (po : Int32) (pt : Int32) (rf : Int32) (rl : Int32) (bx : (Nat → Int32)) (xl : (Nat → Int32)) (xr : (Nat → Int32)) (yl : (Nat → Int32)) (yh : (Nat → Int32)) (ms : (Nat → Int32)) (wt : (Nat → Int32)) (hu : (Nat → Int32)) (uu : (Nat → Int32)) (pd : (Nat → Int64)) (ro : (Nat → Int32)) (rc : (Nat → Int64)) (K : Int32 → (Int32 × Int32 × Int32 × Int32 × (Nat → Int32) × (Nat → Int64) × (Nat → Int32) × (Nat → Int32)) → Prop) : Array Value → State → Outcome → State → Prop := va_Qi (fun (r : Int32) (u : Int32 × Int32 × Int32 × Int32 × (Nat → Int32) × (Nat → Int64) × (Nat → Int32) × (Nat → Int32)) => K r u) (fun (u : Int32 × Int32 × Int32 × Int32 × (Nat → Int32) × (Nat → Int64) × (Nat → Int32) × (Nat → Int32)) t => va_P (dC, dI) vwCl (WC q cI cJ cZ pg ps u.1 u.2.1 u.2.2.1 u.2.2.2.1 po pt rf rl bx xl xr yl yh ms wt u.2.2.2.2.1 u.2.2.2.2.2.1 u.2.2.2.2.2.2.1 u.2.2.2.2.2.2.2 hu uu pd ro rc) t.heap) (AF q 21 sz)
abbrev XCX4_part (dC : Nat → ClassId) (dI : Nat → Nat → Nat) (cI cJ cZ : ClassId) (q : Nat → Nat) (sz : Nat) (pg : Int32) (ps : Int32) (po : Int32) (pt : Int32) (rf : Int32) (rl : Int32) (bx : (Nat → Int32)) (xl : (Nat → Int32)) (xr : (Nat → Int32)) (yl : (Nat → Int32)) (yh : (Nat → Int32)) (ms : (Nat → Int32)) (wt : (Nat → Int32)) (hu : (Nat → Int32)) (uu : (Nat → Int32)) (pd : (Nat → Int64)) (ro : (Nat → Int32)) (rc : (Nat → Int64)) (KX : String → (Int32 × Int32 × Int32 × Int32 × (Nat → Int32) × (Nat → Int64) × (Nat → Int32) × (Nat → Int32)) → Prop) : String → State → State → Prop := XX (dC, dI) q 21 sz KX (fun (u : Int32 × Int32 × Int32 × Int32 × (Nat → Int32) × (Nat → Int64) × (Nat → Int32) × (Nat → Int32)) => WC q cI cJ cZ pg ps u.1 u.2.1 u.2.2.1 u.2.2.2.1 po pt rf rl bx xl xr yl yh ms wt u.2.2.2.2.1 u.2.2.2.2.2.1 u.2.2.2.2.2.2.1 u.2.2.2.2.2.2.2 hu uu pd ro rc)
def wX4_part (pg : Int32) (ps : Int32) (bx : (Nat → Int32)) (xl : (Nat → Int32)) (xr : (Nat → Int32)) (yl : (Nat → Int32)) (yh : (Nat → Int32)) (ms : (Nat → Int32)) (wt : (Nat → Int32)) (nf : Int32) (np : Int32) (nq : Int32) (ns : Int32) (pf : (Nat → Int32)) (nr : (Nat → Int64)) (sl : (Nat → Int32)) (cl : (Nat → Int32)) (v1 : Int32) (v2 : Int32) (K : Int32 → (Int32 × Int32 × Int32 × Int32 × (Nat → Int32) × (Nat → Int64) × (Nat → Int32) × (Nat → Int32)) → Prop) (KX : String → (Int32 × Int32 × Int32 × Int32 × (Nat → Int32) × (Nat → Int64) × (Nat → Int32) × (Nat → Int32)) → Prop) : Prop := (wX4_needSlot ps bx v1 v2 (fun (r1 : Int32) => (wX0_refresh pg ps bx xl xr yl yh ms wt nf np nq ns pf nr sl cl  (fun (u4 : Int32 × Int32 × Int32 × Int32 × (Nat → Int32) × (Nat → Int64) × (Nat → Int32) × (Nat → Int32)) => (vp_in r1 40 ∧ K ((u4.2.2.2.2.1 r1.toNatClampNeg)) (u4.1, u4.2.1, u4.2.2.1, u4.2.2.2.1, u4.2.2.2.2.1, u4.2.2.2.2.2.1, u4.2.2.2.2.2.2.1, u4.2.2.2.2.2.2.2))))) (fun (E : String) => KX E (nf, np, nq, ns, pf, nr, sl, cl)))
set_option maxHeartbeats 4000000 in
set_option maxRecDepth 100000 in
theorem ktX4_part (l : Launch) (hlt : l.stackTraces = false) (dC : Nat → ClassId) (dI : Nat → Nat → Nat) (q : Nat → Nat) (cI cJ cZ : ClassId) (sz : Nat) (pg : Int32) (ps : Int32) (nf : Int32) (np : Int32) (nq : Int32) (ns : Int32) (po : Int32) (pt : Int32) (rf : Int32) (rl : Int32) (bx : (Nat → Int32)) (xl : (Nat → Int32)) (xr : (Nat → Int32)) (yl : (Nat → Int32)) (yh : (Nat → Int32)) (ms : (Nat → Int32)) (wt : (Nat → Int32)) (pf : (Nat → Int32)) (nr : (Nat → Int64)) (sl : (Nat → Int32)) (cl : (Nat → Int32)) (hu : (Nat → Int32)) (uu : (Nat → Int32)) (pd : (Nat → Int64)) (ro : (Nat → Int32)) (rc : (Nat → Int64)) (v1 : Int32) (v2 : Int32) {K : Int32 → (Int32 × Int32 × Int32 × Int32 × (Nat → Int32) × (Nat → Int64) × (Nat → Int32) × (Nat → Int32)) → Prop} {KX : String → (Int32 × Int32 × Int32 × Int32 × (Nat → Int32) × (Nat → Int64) × (Nat → Int32) × (Nat → Int32)) → Prop} (h : wX4_part pg ps bx xl xr yl yh ms wt nf np nq ns pf nr sl cl v1 v2 K KX) : vx_Met l yX4_part wsX4_part { frames := 7, cells := 1, slots := 6, locals := 141 } (va_Pc [.ref (q 0), .int v1, .int v2] (wx dC dI cI cJ cZ q 21 sz (WC q cI cJ cZ pg ps nf np nq ns po pt rf rl bx xl xr yl yh ms wt pf nr sl cl hu uu pd ro rc))) (QX4_part dC dI cI cJ cZ q sz pg ps po pt rf rl bx xl xr yl yh ms wt hu uu pd ro rc K) (XCX4_part dC dI cI cJ cZ q sz pg ps po pt rf rl bx xl xr yl yh ms wt hu uu pd ro rc KX) 1 6 (AF q 21 sz) := by
  refine xmet_of [.ref (q 0), .int v1, .int v2] (by decide +kernel) rfl (Nat.le_of_ble_eq_true rfl) ?_
  intro p e s m below meth c ls hsz C hT hK ha hN hE hl hP
  subst hsz
  obtain ⟨hx, hb, hr, hml, hown, hts, hlk⟩ := id C
  have hl : lv_has ls 4 [(0, .ref (q 0)), (1, .int v1), (2, .int v2)] := hl
  refine w_go (Pw := fun H => va_P (dC, dI) vwCl (WC q cI cJ cZ pg ps nf np nq ns po pt rf rl bx xl xr yl yh ms wt pf nr sl cl hu uu pd ro rc) H) (A := AF q 21 s.heap.size) (fun H locs hP hS => ?_) hP
  unfold wX4_part at h
  refine lv_aload_n hx hb dX4_part_0 rfl (lv_at hl 0 rfl) ?_
  refine lv_iload_n hx hb dX4_part_1 rfl (lv_at hl 1 rfl) ?_
  refine lv_iload_n hx hb dX4_part_2 rfl (lv_at hl 2 rfl) ?_
  refine xc_i (vx_runV (As := [.int v1, .int v2]) (rest := []) ⟨hx, hb, hml, hown, hts⟩ (ktX4_needSlot l hlt dC dI q cI cJ cZ H.size pg ps nf np nq ns po pt rf rl bx xl xr yl yh ms wt pf nr sl cl hu uu pd ro rc v1 v2 h) (cwV 2 hts gX4_part_X4_needSlot rfl rfl rfl (by decide +kernel) ⟨Nat.le_of_ble_eq_true rfl, Nat.le_of_ble_eq_true rfl⟩) ⟨wx.blind, va_recv hK hP (ci := 4) (q0 := 0) rfl rfl, fun U hU hW => ⟨rfl, wx.at hP hK ha hN hE hS hU hW⟩⟩ rfl rfl hl.1 rfl (lv_room (Nat.le_of_ble_eq_true rfl)) dX4_part_3 ⟨Nat.le_of_ble_eq_true rfl, Nat.le_of_ble_eq_true rfl⟩) hS (fun E ce q9 _ H locs h hP hS hce hcv hcl => xpass hT hlk hS hce hcv hcl (Nat.le_of_ble_eq_true rfl) (Nat.le_of_ble_eq_true rfl) (nf, np, nq, ns, pf, nr, sl, cl) h hP) (fun r1 _ H locs h hP hS => ?_)
  have hP : va_P (dC, dI) vwCl (WC q cI cJ cZ pg ps nf np nq ns po pt rf rl bx xl xr yl yh ms wt pf nr sl cl hu uu pd ro rc) H := hP
  refine lv_istore_n (lv' := [(3, .int r1), (0, .ref (q 0)), (1, .int v1), (2, .int v2)]) hx hb dX4_part_6 rfl hl (by decide) rfl (fun ls hl => ?_)
  refine lv_aload_n hx hb dX4_part_7 rfl (lv_at hl 1 rfl) ?_
  refine va_get (D := (dC, dI)) (ci := 4) (v := .ref (q 2)) (C := RX4) (T := TX4) (N := 4) hx hb hts iwX4_part_X4 hown hK hP 0 rfl rfl 1 (by decide) (hts _ fwX4_part_21) (fun _ h9 => h9) rfl dX4_part_8 ?_
  refine cl_v (va_runV (As := []) (rest := []) ⟨hx, hb, hml, hown, hts⟩ (ktX0_refresh l dC dI q cI cJ cZ H.size pg ps nf np nq ns po pt rf rl bx xl xr yl yh ms wt pf nr sl cl hu uu pd ro rc  h) (cwV 0 hts gX4_part_X0_refresh rfl rfl rfl (by decide +kernel) ⟨Nat.le_of_ble_eq_true rfl, Nat.le_of_ble_eq_true rfl⟩) ⟨wd.blind, va_recv hK hP (ci := 0) (q0 := 2) rfl rfl, fun U hU hW => ⟨rfl, wd.at hP hK ha hN hU hW⟩⟩ rfl rfl hl.1 rfl (lv_room (Nat.le_of_ble_eq_true rfl)) dX4_part_11 ⟨Nat.le_of_ble_eq_true rfl, Nat.le_of_ble_eq_true rfl⟩) hS (fun u4 H locs h hP hS => ?_)
  have hP : va_P (dC, dI) vwCl (WC q cI cJ cZ pg ps u4.1 u4.2.1 u4.2.2.1 u4.2.2.2.1 po pt rf rl bx xl xr yl yh ms wt u4.2.2.2.2.1 u4.2.2.2.2.2.1 u4.2.2.2.2.2.2.1 u4.2.2.2.2.2.2.2 hu uu pd ro rc) H := hP
  refine lv_aload_n hx hb dX4_part_14 rfl (lv_at hl 1 rfl) ?_
  refine va_get (D := (dC, dI)) (ci := 4) (v := .ref (q 2)) (C := RX4) (T := TX4) (N := 4) hx hb hts iwX4_part_X4 hown hK hP 0 rfl rfl 1 (by decide) (hts _ fwX4_part_21) (fun _ h9 => h9) rfl dX4_part_15 ?_
  refine va_get (D := (dC, dI)) (ci := 0) (v := .ref (q 12)) (C := RX0) (T := TX0) (N := 9) hx hb hts iwX4_part_X0 hown hK hP 2 rfl rfl 5 (by decide) (hts _ fwX4_part_107) (fun _ h9 => h9) rfl dX4_part_18 ?_
  refine lv_iload_n hx hb dX4_part_21 rfl (lv_at hl 0 rfl) ?_
  obtain ⟨b5, h⟩ := h
  refine va_iald (D := (dC, dI)) hx hb hK hP 12 0 rfl rfl b5 dX4_part_22 ?_
  exact vx_ret (rt_i (u4.1, u4.2.1, u4.2.2.1, u4.2.2.2.1, u4.2.2.2.2.1, u4.2.2.2.2.2.1, u4.2.2.2.2.2.2.1, u4.2.2.2.2.2.2.2) hx hb hr hlk h (fun t ht => by rw [ht]; exact hP) hS dX4_part_23)

theorem fwX4_pair_21 : Cond.fieldLink RX4 21 "MaskParts" "net" "LMaskParts$Net;" ∈ wsX4_pair := by decide +kernel
set_option maxRecDepth 20000 in
theorem iwX4_pair_X4 : ∀ w ∈ wsX40, w ∈ wsX4_pair := by decide +kernel
theorem xkX4_pair_67 : Cond.classLink RX4 67 "java/lang/IndexOutOfBoundsException" ∈ wsX4_pair := by decide +kernel
theorem xiX4_pair_67 : Cond.initialized "java/lang/IndexOutOfBoundsException" ∈ wsX4_pair := by decide +kernel
set_option maxRecDepth 20000 in
theorem xgX4_pair_71 : ∀ w ∈ (vx_atS RX4 71 "java/lang/IndexOutOfBoundsException" NM).filter goodWord, w ∈ wsX4_pair := by decide +kernel
theorem fwX4_pair_110 : Cond.fieldLink RX4 110 "MaskParts$Net" "pairs" "I" ∈ wsX4_pair := by decide +kernel
set_option maxRecDepth 20000 in
theorem iwX4_pair_X0 : ∀ w ∈ wsX00, w ∈ wsX4_pair := by decide +kernel
theorem xkX4_pair_41 : Cond.classLink RX4 41 "java/lang/IllegalArgumentException" ∈ wsX4_pair := by decide +kernel
theorem xiX4_pair_41 : Cond.initialized "java/lang/IllegalArgumentException" ∈ wsX4_pair := by decide +kernel
set_option maxRecDepth 20000 in
theorem xgX4_pair_45 : ∀ w ∈ (vx_atS RX4 45 "java/lang/IllegalArgumentException" NM).filter goodWord, w ∈ wsX4_pair := by decide +kernel
abbrev QX4_pair (dC : Nat → ClassId) (dI : Nat → Nat → Nat) (cI cJ cZ : ClassId) (q : Nat → Nat) (sz : Nat) (pg : Int32) (ps : Int32) (po : Int32) (pt : Int32) (rf : Int32) (rl : Int32) (bx : (Nat → Int32)) (xl : (Nat → Int32)) (xr : (Nat → Int32)) (yl : (Nat → Int32)) (yh : (Nat → Int32)) (ms : (Nat → Int32)) (wt : (Nat → Int32)) (hu : (Nat → Int32)) (uu : (Nat → Int32)) (pd : (Nat → Int64)) (ro : (Nat → Int32)) (rc : (Nat → Int64)) (K : Int32 → (Int32 × Int32 × Int32 × Int32 × (Nat → Int32) × (Nat → Int64) × (Nat → Int32) × (Nat → Int32)) → Prop) : Array Value → State → Outcome → State → Prop := va_Qi (fun (r : Int32) (u : Int32 × Int32 × Int32 × Int32 × (Nat → Int32) × (Nat → Int64) × (Nat → Int32) × (Nat → Int32)) => K r u) (fun (u : Int32 × Int32 × Int32 × Int32 × (Nat → Int32) × (Nat → Int64) × (Nat → Int32) × (Nat → Int32)) t => va_P (dC, dI) vwCl (WC q cI cJ cZ pg ps u.1 u.2.1 u.2.2.1 u.2.2.2.1 po pt rf rl bx xl xr yl yh ms wt u.2.2.2.2.1 u.2.2.2.2.2.1 u.2.2.2.2.2.2.1 u.2.2.2.2.2.2.2 hu uu pd ro rc) t.heap) (AF q 21 sz)
abbrev XCX4_pair (dC : Nat → ClassId) (dI : Nat → Nat → Nat) (cI cJ cZ : ClassId) (q : Nat → Nat) (sz : Nat) (pg : Int32) (ps : Int32) (po : Int32) (pt : Int32) (rf : Int32) (rl : Int32) (bx : (Nat → Int32)) (xl : (Nat → Int32)) (xr : (Nat → Int32)) (yl : (Nat → Int32)) (yh : (Nat → Int32)) (ms : (Nat → Int32)) (wt : (Nat → Int32)) (hu : (Nat → Int32)) (uu : (Nat → Int32)) (pd : (Nat → Int64)) (ro : (Nat → Int32)) (rc : (Nat → Int64)) (KX : String → (Int32 × Int32 × Int32 × Int32 × (Nat → Int32) × (Nat → Int64) × (Nat → Int32) × (Nat → Int32)) → Prop) : String → State → State → Prop := XX (dC, dI) q 21 sz KX (fun (u : Int32 × Int32 × Int32 × Int32 × (Nat → Int32) × (Nat → Int64) × (Nat → Int32) × (Nat → Int32)) => WC q cI cJ cZ pg ps u.1 u.2.1 u.2.2.1 u.2.2.2.1 po pt rf rl bx xl xr yl yh ms wt u.2.2.2.2.1 u.2.2.2.2.2.1 u.2.2.2.2.2.2.1 u.2.2.2.2.2.2.2 hu uu pd ro rc)
def bkX4_pair_51 (pg : Int32) (ps : Int32) (bx : (Nat → Int32)) (xl : (Nat → Int32)) (xr : (Nat → Int32)) (yl : (Nat → Int32)) (yh : (Nat → Int32)) (ms : (Nat → Int32)) (wt : (Nat → Int32)) (K : Int32 → (Int32 × Int32 × Int32 × Int32 × (Nat → Int32) × (Nat → Int64) × (Nat → Int32) × (Nat → Int32)) → Prop) (KX : String → (Int32 × Int32 × Int32 × Int32 × (Nat → Int32) × (Nat → Int64) × (Nat → Int32) × (Nat → Int32)) → Prop) (nf : Int32) (np : Int32) (nq : Int32) (ns : Int32) (pf : (Nat → Int32)) (nr : (Nat → Int64)) (sl : (Nat → Int32)) (cl : (Nat → Int32)) (v1 : Int32) (v2 : Int32) : Prop := (wX0_partOfPair np nr v1 v2 (fun (r1 : Int32) => K r1 (nf, np, nq, ns, pf, nr, sl, cl)))
set_option maxHeartbeats 4000000 in
set_option maxRecDepth 100000 in
theorem mX4_pair_51 {p : Program} {l : Launch} {e : Env} {s : State} {m : MethodId} {av : Array Value} {below : List Frame} {meth : Method} {c : Code} {dC : Nat → ClassId} {dI : Nat → Nat → Nat} {cI cJ cZ : ClassId} {q : Nat → Nat} {K : Int32 → (Int32 × Int32 × Int32 × Int32 × (Nat → Int32) × (Nat → Int64) × (Nat → Int32) × (Nat → Int32)) → Prop} {KX : String → (Int32 × Int32 × Int32 × Int32 × (Nat → Int32) × (Nat → Int64) × (Nat → Int32) × (Nat → Int32)) → Prop} (pg : Int32) (ps : Int32) (po : Int32) (pt : Int32) (rf : Int32) (rl : Int32) (bx : (Nat → Int32)) (xl : (Nat → Int32)) (xr : (Nat → Int32)) (yl : (Nat → Int32)) (yh : (Nat → Int32)) (ms : (Nat → Int32)) (wt : (Nat → Int32)) (hu : (Nat → Int32)) (uu : (Nat → Int32)) (pd : (Nat → Int64)) (ro : (Nat → Int32)) (rc : (Nat → Int64)) (hlt : l.stackTraces = false) (C : CX p s m av meth c cX4_pair 3 (some .int) RX4 wsX4_pair) (hT : ∀ x ∈ c.exceptionTable.toList, False) (hK : va_K (dC, dI) vwCl (TY cI cJ cZ) s) (ha : apart q 21) (hN : NX s) (hE : EX (AF q 21 s.heap.size) s)  : ∀ (nf : Int32) (np : Int32) (nq : Int32) (ns : Int32) (pf : (Nat → Int32)) (nr : (Nat → Int64)) (sl : (Nat → Int32)) (cl : (Nat → Int32)) (v1 : Int32) (v2 : Int32) (ls : Array Slot) (H : Heap) (locs : List Loc), bkX4_pair_51 pg ps bx xl xr yl yh ms wt K KX nf np nq ns pf nr sl cl v1 v2 → lv_has ls 3 [(0, .ref (q 0)), (1, .int v1), (2, .int v2)] → va_P (dC, dI) vwCl (WC q cI cJ cZ pg ps nf np nq ns po pt rf rl bx xl xr yl yh ms wt pf nr sl cl hu uu pd ro rc) H → va_S (AF q 21 s.heap.size) s.heap H locs → W p l e { frames := 6, cells := 1, slots := 6, locals := 141 } s m av below meth c H locs 1 6 (vx_MQ below (QX4_pair dC dI cI cJ cZ q s.heap.size pg ps po pt rf rl bx xl xr yl yh ms wt hu uu pd ro rc K) (XCX4_pair dC dI cI cJ cZ q s.heap.size pg ps po pt rf rl bx xl xr yl yh ms wt hu uu pd ro rc KX) av s 1 6 (AF q 21 s.heap.size)) (F0 m 51 ls []) := by
  obtain ⟨hx, hb, hr, hml, hown, hts, hlk⟩ := id C
  intro nf np nq ns pf nr sl cl v1 v2 ls H locs h hl hP hS
  unfold bkX4_pair_51 at h
  refine lv_aload_n hx hb dX4_pair_51 rfl (lv_at hl 0 rfl) ?_
  refine va_get (D := (dC, dI)) (ci := 4) (v := .ref (q 2)) (C := RX4) (T := TX4) (N := 4) hx hb hts iwX4_pair_X4 hown hK hP 0 rfl rfl 1 (by decide) (hts _ fwX4_pair_21) (fun _ h9 => h9) rfl dX4_pair_52 ?_
  refine lv_iload_n hx hb dX4_pair_55 rfl (lv_at hl 1 rfl) ?_
  refine lv_iload_n hx hb dX4_pair_56 rfl (lv_at hl 2 rfl) ?_
  refine cl_i (va_runV (As := [.int v1, .int v2]) (rest := []) ⟨hx, hb, hml, hown, hts⟩ (ktX0_partOfPair l dC dI q cI cJ cZ H.size pg ps nf np nq ns po pt rf rl bx xl xr yl yh ms wt pf nr sl cl hu uu pd ro rc v1 v2 h) (cwV 2 hts gX4_pair_X0_partOfPair rfl rfl rfl (by decide +kernel) ⟨Nat.le_of_ble_eq_true rfl, Nat.le_of_ble_eq_true rfl⟩) ⟨wd.blind, va_recv hK hP (ci := 0) (q0 := 2) rfl rfl, fun U hU hW => ⟨rfl, wd.at hP hK ha hN hU hW⟩⟩ rfl rfl hl.1 rfl (lv_room (Nat.le_of_ble_eq_true rfl)) dX4_pair_57 ⟨Nat.le_of_ble_eq_true rfl, Nat.le_of_ble_eq_true rfl⟩) hS (fun r1 _ H locs h hP hS => ?_)
  have hP : va_P (dC, dI) vwCl (WC q cI cJ cZ pg ps nf np nq ns po pt rf rl bx xl xr yl yh ms wt pf nr sl cl hu uu pd ro rc) H := hP
  exact vx_ret (rt_i (nf, np, nq, ns, pf, nr, sl, cl) hx hb hr hlk h (fun t ht => by rw [ht]; exact hP) hS dX4_pair_60)
def wX4_pair (pg : Int32) (ps : Int32) (bx : (Nat → Int32)) (xl : (Nat → Int32)) (xr : (Nat → Int32)) (yl : (Nat → Int32)) (yh : (Nat → Int32)) (ms : (Nat → Int32)) (wt : (Nat → Int32)) (nf : Int32) (np : Int32) (nq : Int32) (ns : Int32) (pf : (Nat → Int32)) (nr : (Nat → Int64)) (sl : (Nat → Int32)) (cl : (Nat → Int32)) (v1 : Int32) (v2 : Int32) (K : Int32 → (Int32 × Int32 × Int32 × Int32 × (Nat → Int32) × (Nat → Int64) × (Nat → Int32) × (Nat → Int32)) → Prop) (KX : String → (Int32 × Int32 × Int32 × Int32 × (Nat → Int32) × (Nat → Int64) × (Nat → Int32) × (Nat → Int32)) → Prop) : Prop := (wX0_refresh pg ps bx xl xr yl yh ms wt nf np nq ns pf nr sl cl  (fun (u4 : Int32 × Int32 × Int32 × Int32 × (Nat → Int32) × (Nat → Int64) × (Nat → Int32) × (Nat → Int32)) => ((v1 < 0 → KX "java/lang/IndexOutOfBoundsException" (u4.1, u4.2.1, u4.2.2.1, u4.2.2.2.1, u4.2.2.2.2.1, u4.2.2.2.2.2.1, u4.2.2.2.2.2.2.1, u4.2.2.2.2.2.2.2)) ∧ (¬ (v1 < 0) → ((v1 < u4.2.2.1 → ((v2 = 0 → bkX4_pair_51 pg ps bx xl xr yl yh ms wt K KX u4.1 u4.2.1 u4.2.2.1 u4.2.2.2.1 u4.2.2.2.2.1 u4.2.2.2.2.2.1 u4.2.2.2.2.2.2.1 u4.2.2.2.2.2.2.2 v1 v2) ∧ (¬ (v2 = 0) → ((v2 = 1 → bkX4_pair_51 pg ps bx xl xr yl yh ms wt K KX u4.1 u4.2.1 u4.2.2.1 u4.2.2.2.1 u4.2.2.2.2.1 u4.2.2.2.2.2.1 u4.2.2.2.2.2.2.1 u4.2.2.2.2.2.2.2 v1 v2) ∧ (¬ (v2 = 1) → KX "java/lang/IllegalArgumentException" (u4.1, u4.2.1, u4.2.2.1, u4.2.2.2.1, u4.2.2.2.2.1, u4.2.2.2.2.2.1, u4.2.2.2.2.2.2.1, u4.2.2.2.2.2.2.2)))))) ∧ (¬ (v1 < u4.2.2.1) → KX "java/lang/IndexOutOfBoundsException" (u4.1, u4.2.1, u4.2.2.1, u4.2.2.2.1, u4.2.2.2.2.1, u4.2.2.2.2.2.1, u4.2.2.2.2.2.2.1, u4.2.2.2.2.2.2.2)))))))
set_option maxHeartbeats 4000000 in
set_option maxRecDepth 100000 in
theorem ktX4_pair (l : Launch) (hlt : l.stackTraces = false) (dC : Nat → ClassId) (dI : Nat → Nat → Nat) (q : Nat → Nat) (cI cJ cZ : ClassId) (sz : Nat) (pg : Int32) (ps : Int32) (nf : Int32) (np : Int32) (nq : Int32) (ns : Int32) (po : Int32) (pt : Int32) (rf : Int32) (rl : Int32) (bx : (Nat → Int32)) (xl : (Nat → Int32)) (xr : (Nat → Int32)) (yl : (Nat → Int32)) (yh : (Nat → Int32)) (ms : (Nat → Int32)) (wt : (Nat → Int32)) (pf : (Nat → Int32)) (nr : (Nat → Int64)) (sl : (Nat → Int32)) (cl : (Nat → Int32)) (hu : (Nat → Int32)) (uu : (Nat → Int32)) (pd : (Nat → Int64)) (ro : (Nat → Int32)) (rc : (Nat → Int64)) (v1 : Int32) (v2 : Int32) {K : Int32 → (Int32 × Int32 × Int32 × Int32 × (Nat → Int32) × (Nat → Int64) × (Nat → Int32) × (Nat → Int32)) → Prop} {KX : String → (Int32 × Int32 × Int32 × Int32 × (Nat → Int32) × (Nat → Int64) × (Nat → Int32) × (Nat → Int32)) → Prop} (h : wX4_pair pg ps bx xl xr yl yh ms wt nf np nq ns pf nr sl cl v1 v2 K KX) : vx_Met l yX4_pair wsX4_pair { frames := 6, cells := 1, slots := 6, locals := 141 } (va_Pc [.ref (q 0), .int v1, .int v2] (wx dC dI cI cJ cZ q 21 sz (WC q cI cJ cZ pg ps nf np nq ns po pt rf rl bx xl xr yl yh ms wt pf nr sl cl hu uu pd ro rc))) (QX4_pair dC dI cI cJ cZ q sz pg ps po pt rf rl bx xl xr yl yh ms wt hu uu pd ro rc K) (XCX4_pair dC dI cI cJ cZ q sz pg ps po pt rf rl bx xl xr yl yh ms wt hu uu pd ro rc KX) 1 6 (AF q 21 sz) := by
  refine xmet_of [.ref (q 0), .int v1, .int v2] (by decide +kernel) rfl (Nat.le_of_ble_eq_true rfl) ?_
  intro p e s m below meth c ls hsz C hT hK ha hN hE hl hP
  subst hsz
  obtain ⟨hx, hb, hr, hml, hown, hts, hlk⟩ := id C
  have hl : lv_has ls 3 [(0, .ref (q 0)), (1, .int v1), (2, .int v2)] := hl
  refine w_go (Pw := fun H => va_P (dC, dI) vwCl (WC q cI cJ cZ pg ps nf np nq ns po pt rf rl bx xl xr yl yh ms wt pf nr sl cl hu uu pd ro rc) H) (A := AF q 21 s.heap.size) (fun H locs hP hS => ?_) hP
  unfold wX4_pair at h
  refine lv_aload_n hx hb dX4_pair_0 rfl (lv_at hl 0 rfl) ?_
  refine va_get (D := (dC, dI)) (ci := 4) (v := .ref (q 2)) (C := RX4) (T := TX4) (N := 4) hx hb hts iwX4_pair_X4 hown hK hP 0 rfl rfl 1 (by decide) (hts _ fwX4_pair_21) (fun _ h9 => h9) rfl dX4_pair_1 ?_
  refine cl_v (va_runV (As := []) (rest := []) ⟨hx, hb, hml, hown, hts⟩ (ktX0_refresh l dC dI q cI cJ cZ H.size pg ps nf np nq ns po pt rf rl bx xl xr yl yh ms wt pf nr sl cl hu uu pd ro rc  h) (cwV 0 hts gX4_pair_X0_refresh rfl rfl rfl (by decide +kernel) ⟨Nat.le_of_ble_eq_true rfl, Nat.le_of_ble_eq_true rfl⟩) ⟨wd.blind, va_recv hK hP (ci := 0) (q0 := 2) rfl rfl, fun U hU hW => ⟨rfl, wd.at hP hK ha hN hU hW⟩⟩ rfl rfl hl.1 rfl (lv_room (Nat.le_of_ble_eq_true rfl)) dX4_pair_4 ⟨Nat.le_of_ble_eq_true rfl, Nat.le_of_ble_eq_true rfl⟩) hS (fun u4 H locs h hP hS => ?_)
  have hP : va_P (dC, dI) vwCl (WC q cI cJ cZ pg ps u4.1 u4.2.1 u4.2.2.1 u4.2.2.2.1 po pt rf rl bx xl xr yl yh ms wt u4.2.2.2.2.1 u4.2.2.2.2.2.1 u4.2.2.2.2.2.2.1 u4.2.2.2.2.2.2.2 hu uu pd ro rc) H := hP
  refine lv_iload_n hx hb dX4_pair_7 rfl (lv_at hl 1 rfl) ?_
  refine lv_if_lt (tgt := 22) hx hb dX4_pair_8 (by decide) (fun c5 => ?_) (fun c5 => ?_)
  · have h := h.1 c5
    exact xthrow hlt hx hb hown hts hT (hl.1.trans hml.symm) hlk hE hS (by decide +kernel) xkX4_pair_67 xiX4_pair_67 (text := "no such pair") (by decide +kernel) xgX4_pair_71 xbad_71 xot_71 dX4_pair_22 dX4_pair_25 dX4_pair_26 dX4_pair_28 dX4_pair_31 (Nat.le_of_ble_eq_true rfl) (Nat.le_of_ble_eq_true rfl) (Nat.le_of_ble_eq_true rfl) (Nat.le_of_ble_eq_true rfl) (Nat.le_of_ble_eq_true rfl) (Nat.le_of_ble_eq_true rfl) (u4.1, u4.2.1, u4.2.2.1, u4.2.2.2.1, u4.2.2.2.2.1, u4.2.2.2.2.2.1, u4.2.2.2.2.2.2.1, u4.2.2.2.2.2.2.2) h hP
  · have h := h.2 c5
    refine lv_iload_n hx hb dX4_pair_11 rfl (lv_at hl 1 rfl) ?_
    refine lv_aload_n hx hb dX4_pair_12 rfl (lv_at hl 0 rfl) ?_
    refine va_get (D := (dC, dI)) (ci := 4) (v := .ref (q 2)) (C := RX4) (T := TX4) (N := 4) hx hb hts iwX4_pair_X4 hown hK hP 0 rfl rfl 1 (by decide) (hts _ fwX4_pair_21) (fun _ h9 => h9) rfl dX4_pair_13 ?_
    refine va_get (D := (dC, dI)) (ci := 0) (v := .int u4.2.2.1) (C := RX0) (T := TX0) (N := 9) hx hb hts iwX4_pair_X0 hown hK hP 2 rfl rfl 3 (by decide) (hts _ fwX4_pair_110) (fun _ h9 => h9) rfl dX4_pair_16 ?_
    refine lv_icmp_lt (tgt := 32) hx hb dX4_pair_19 (by decide) (fun c6 => ?_) (fun c6 => ?_)
    · have h := h.1 c6
      refine lv_iload_n hx hb dX4_pair_32 rfl (lv_at hl 2 rfl) ?_
      refine lv_if_eq (tgt := 51) hx hb dX4_pair_33 (by decide) (fun c7 => ?_) (fun c7 => ?_)
      · have h := h.1 c7
        refine W.widen (k := 1) (n := 6) (by decide) (by decide) ?_
        exact mX4_pair_51 pg ps po pt rf rl bx xl xr yl yh ms wt hu uu pd ro rc hlt C hT hK ha hN hE  u4.1 u4.2.1 u4.2.2.1 u4.2.2.2.1 u4.2.2.2.2.1 u4.2.2.2.2.2.1 u4.2.2.2.2.2.2.1 u4.2.2.2.2.2.2.2 v1 v2 ls H locs h (lv_sub hl [0, 1, 2] rfl) hP hS
      · have h := h.2 c7
        refine lv_iload_n hx hb dX4_pair_36 rfl (lv_at hl 2 rfl) ?_
        refine lv_iconst (v := 1) hx hb dX4_pair_37 (by decide) ?_
        refine lv_icmp_eq (tgt := 51) hx hb dX4_pair_38 (by decide) (fun c8 => ?_) (fun c8 => ?_)
        · have h := h.1 c8
          refine W.widen (k := 1) (n := 6) (by decide) (by decide) ?_
          exact mX4_pair_51 pg ps po pt rf rl bx xl xr yl yh ms wt hu uu pd ro rc hlt C hT hK ha hN hE  u4.1 u4.2.1 u4.2.2.1 u4.2.2.2.1 u4.2.2.2.2.1 u4.2.2.2.2.2.1 u4.2.2.2.2.2.2.1 u4.2.2.2.2.2.2.2 v1 v2 ls H locs h (lv_sub hl [0, 1, 2] rfl) hP hS
        · have h := h.2 c8
          exact xthrow hlt hx hb hown hts hT (hl.1.trans hml.symm) hlk hE hS (by decide +kernel) xkX4_pair_41 xiX4_pair_41 (text := "a pair has parts 0 and 1") (by decide +kernel) xgX4_pair_45 xbad_45 xot_45 dX4_pair_41 dX4_pair_44 dX4_pair_45 dX4_pair_47 dX4_pair_50 (Nat.le_of_ble_eq_true rfl) (Nat.le_of_ble_eq_true rfl) (Nat.le_of_ble_eq_true rfl) (Nat.le_of_ble_eq_true rfl) (Nat.le_of_ble_eq_true rfl) (Nat.le_of_ble_eq_true rfl) (u4.1, u4.2.1, u4.2.2.1, u4.2.2.2.1, u4.2.2.2.2.1, u4.2.2.2.2.2.1, u4.2.2.2.2.2.2.1, u4.2.2.2.2.2.2.2) h hP
    · have h := h.2 c6
      exact xthrow hlt hx hb hown hts hT (hl.1.trans hml.symm) hlk hE hS (by decide +kernel) xkX4_pair_67 xiX4_pair_67 (text := "no such pair") (by decide +kernel) xgX4_pair_71 xbad_71 xot_71 dX4_pair_22 dX4_pair_25 dX4_pair_26 dX4_pair_28 dX4_pair_31 (Nat.le_of_ble_eq_true rfl) (Nat.le_of_ble_eq_true rfl) (Nat.le_of_ble_eq_true rfl) (Nat.le_of_ble_eq_true rfl) (Nat.le_of_ble_eq_true rfl) (Nat.le_of_ble_eq_true rfl) (u4.1, u4.2.1, u4.2.2.1, u4.2.2.2.1, u4.2.2.2.2.1, u4.2.2.2.2.2.1, u4.2.2.2.2.2.2.1, u4.2.2.2.2.2.2.2) h hP

theorem xkX4_run_41 : Cond.classLink RX4 41 "java/lang/IllegalArgumentException" ∈ wsX4_run := by decide +kernel
theorem xiX4_run_41 : Cond.initialized "java/lang/IllegalArgumentException" ∈ wsX4_run := by decide +kernel
set_option maxRecDepth 20000 in
theorem xgX4_run_45 : ∀ w ∈ (vx_atS RX4 45 "java/lang/IllegalArgumentException" NM).filter goodWord, w ∈ wsX4_run := by decide +kernel
theorem fwX4_run_21 : Cond.fieldLink RX4 21 "MaskParts" "net" "LMaskParts$Net;" ∈ wsX4_run := by decide +kernel
set_option maxRecDepth 20000 in
theorem iwX4_run_X4 : ∀ w ∈ wsX40, w ∈ wsX4_run := by decide +kernel
theorem fwX4_run_30 : Cond.fieldLink RX4 30 "MaskParts" "painter" "LMaskParts$Painter;" ∈ wsX4_run := by decide +kernel
theorem fwX4_run_128 : Cond.fieldLink RX4 128 "MaskParts$Painter" "outcome" "I" ∈ wsX4_run := by decide +kernel
set_option maxRecDepth 20000 in
theorem iwX4_run_X1 : ∀ w ∈ wsX10, w ∈ wsX4_run := by decide +kernel
abbrev QX4_run (dC : Nat → ClassId) (dI : Nat → Nat → Nat) (cI cJ cZ : ClassId) (q : Nat → Nat) (sz : Nat) (pg : Int32) (ps : Int32) (rf : Int32) (rl : Int32) (bx : (Nat → Int32)) (xl : (Nat → Int32)) (xr : (Nat → Int32)) (yl : (Nat → Int32)) (yh : (Nat → Int32)) (ms : (Nat → Int32)) (wt : (Nat → Int32)) (ro : (Nat → Int32)) (rc : (Nat → Int64)) (K : Int32 → (Int32 × Int32 × Int32 × Int32 × Int32 × Int32 × (Nat → Int32) × (Nat → Int64) × (Nat → Int32) × (Nat → Int32) × (Nat → Int32) × (Nat → Int32) × (Nat → Int64)) → Prop) : Array Value → State → Outcome → State → Prop := va_Qi (fun (r : Int32) (u : Int32 × Int32 × Int32 × Int32 × Int32 × Int32 × (Nat → Int32) × (Nat → Int64) × (Nat → Int32) × (Nat → Int32) × (Nat → Int32) × (Nat → Int32) × (Nat → Int64)) => K r u) (fun (u : Int32 × Int32 × Int32 × Int32 × Int32 × Int32 × (Nat → Int32) × (Nat → Int64) × (Nat → Int32) × (Nat → Int32) × (Nat → Int32) × (Nat → Int32) × (Nat → Int64)) t => va_P (dC, dI) vwCl (WC q cI cJ cZ pg ps u.1 u.2.1 u.2.2.1 u.2.2.2.1 u.2.2.2.2.1 u.2.2.2.2.2.1 rf rl bx xl xr yl yh ms wt u.2.2.2.2.2.2.1 u.2.2.2.2.2.2.2.1 u.2.2.2.2.2.2.2.2.1 u.2.2.2.2.2.2.2.2.2.1 u.2.2.2.2.2.2.2.2.2.2.1 u.2.2.2.2.2.2.2.2.2.2.2.1 u.2.2.2.2.2.2.2.2.2.2.2.2 ro rc) t.heap) (AF q 21 sz)
abbrev XCX4_run (dC : Nat → ClassId) (dI : Nat → Nat → Nat) (cI cJ cZ : ClassId) (q : Nat → Nat) (sz : Nat) (pg : Int32) (ps : Int32) (rf : Int32) (rl : Int32) (bx : (Nat → Int32)) (xl : (Nat → Int32)) (xr : (Nat → Int32)) (yl : (Nat → Int32)) (yh : (Nat → Int32)) (ms : (Nat → Int32)) (wt : (Nat → Int32)) (ro : (Nat → Int32)) (rc : (Nat → Int64)) (KX : String → (Int32 × Int32 × Int32 × Int32 × Int32 × Int32 × (Nat → Int32) × (Nat → Int64) × (Nat → Int32) × (Nat → Int32) × (Nat → Int32) × (Nat → Int32) × (Nat → Int64)) → Prop) : String → State → State → Prop := XX (dC, dI) q 21 sz KX (fun (u : Int32 × Int32 × Int32 × Int32 × Int32 × Int32 × (Nat → Int32) × (Nat → Int64) × (Nat → Int32) × (Nat → Int32) × (Nat → Int32) × (Nat → Int32) × (Nat → Int64)) => WC q cI cJ cZ pg ps u.1 u.2.1 u.2.2.1 u.2.2.2.1 u.2.2.2.2.1 u.2.2.2.2.2.1 rf rl bx xl xr yl yh ms wt u.2.2.2.2.2.2.1 u.2.2.2.2.2.2.2.1 u.2.2.2.2.2.2.2.2.1 u.2.2.2.2.2.2.2.2.2.1 u.2.2.2.2.2.2.2.2.2.2.1 u.2.2.2.2.2.2.2.2.2.2.2.1 u.2.2.2.2.2.2.2.2.2.2.2.2 ro rc)
def wX4_run (pg : Int32) (ps : Int32) (bx : (Nat → Int32)) (xl : (Nat → Int32)) (xr : (Nat → Int32)) (yl : (Nat → Int32)) (yh : (Nat → Int32)) (ms : (Nat → Int32)) (wt : (Nat → Int32)) (nf : Int32) (np : Int32) (nq : Int32) (ns : Int32) (po : Int32) (pt : Int32) (pf : (Nat → Int32)) (nr : (Nat → Int64)) (sl : (Nat → Int32)) (cl : (Nat → Int32)) (hu : (Nat → Int32)) (uu : (Nat → Int32)) (pd : (Nat → Int64)) (v1 : Int32) (v2 : Int32) (K : Int32 → (Int32 × Int32 × Int32 × Int32 × Int32 × Int32 × (Nat → Int32) × (Nat → Int64) × (Nat → Int32) × (Nat → Int32) × (Nat → Int32) × (Nat → Int32) × (Nat → Int64)) → Prop) (KX : String → (Int32 × Int32 × Int32 × Int32 × Int32 × Int32 × (Nat → Int32) × (Nat → Int64) × (Nat → Int32) × (Nat → Int32) × (Nat → Int32) × (Nat → Int32) × (Nat → Int64)) → Prop) : Prop := ((v1 < 2 → KX "java/lang/IllegalArgumentException" (nf, np, nq, ns, po, pt, pf, nr, sl, cl, hu, uu, pd)) ∧ (¬ (v1 < 2) → ((v1 ≤ 4 → ((v2 < 0 → KX "java/lang/IllegalArgumentException" (nf, np, nq, ns, po, pt, pf, nr, sl, cl, hu, uu, pd)) ∧ (¬ (v2 < 0) → ((v2 ≤ 20000 → (wX0_refresh pg ps bx xl xr yl yh ms wt nf np nq ns pf nr sl cl  (fun (u6 : Int32 × Int32 × Int32 × Int32 × (Nat → Int32) × (Nat → Int64) × (Nat → Int32) × (Nat → Int32)) => (wX1_paint u6.2.1 u6.2.2.2.1 u6.2.2.2.2.2.1 u6.2.2.2.2.2.2.1 u6.2.2.2.2.2.2.2 po pt hu uu pd v1 v2 (fun (u8 : Int32 × Int32 × (Nat → Int32) × (Nat → Int32) × (Nat → Int64)) => K u8.1 (u6.1, u6.2.1, u6.2.2.1, u6.2.2.2.1, u8.1, u8.2.1, u6.2.2.2.2.1, u6.2.2.2.2.2.1, u6.2.2.2.2.2.2.1, u6.2.2.2.2.2.2.2, u8.2.2.1, u8.2.2.2.1, u8.2.2.2.2)))))) ∧ (¬ (v2 ≤ 20000) → KX "java/lang/IllegalArgumentException" (nf, np, nq, ns, po, pt, pf, nr, sl, cl, hu, uu, pd)))))) ∧ (¬ (v1 ≤ 4) → KX "java/lang/IllegalArgumentException" (nf, np, nq, ns, po, pt, pf, nr, sl, cl, hu, uu, pd)))))
set_option maxHeartbeats 4000000 in
set_option maxRecDepth 100000 in
theorem ktX4_run (l : Launch) (hlt : l.stackTraces = false) (dC : Nat → ClassId) (dI : Nat → Nat → Nat) (q : Nat → Nat) (cI cJ cZ : ClassId) (sz : Nat) (pg : Int32) (ps : Int32) (nf : Int32) (np : Int32) (nq : Int32) (ns : Int32) (po : Int32) (pt : Int32) (rf : Int32) (rl : Int32) (bx : (Nat → Int32)) (xl : (Nat → Int32)) (xr : (Nat → Int32)) (yl : (Nat → Int32)) (yh : (Nat → Int32)) (ms : (Nat → Int32)) (wt : (Nat → Int32)) (pf : (Nat → Int32)) (nr : (Nat → Int64)) (sl : (Nat → Int32)) (cl : (Nat → Int32)) (hu : (Nat → Int32)) (uu : (Nat → Int32)) (pd : (Nat → Int64)) (ro : (Nat → Int32)) (rc : (Nat → Int64)) (v1 : Int32) (v2 : Int32) {K : Int32 → (Int32 × Int32 × Int32 × Int32 × Int32 × Int32 × (Nat → Int32) × (Nat → Int64) × (Nat → Int32) × (Nat → Int32) × (Nat → Int32) × (Nat → Int32) × (Nat → Int64)) → Prop} {KX : String → (Int32 × Int32 × Int32 × Int32 × Int32 × Int32 × (Nat → Int32) × (Nat → Int64) × (Nat → Int32) × (Nat → Int32) × (Nat → Int32) × (Nat → Int32) × (Nat → Int64)) → Prop} (h : wX4_run pg ps bx xl xr yl yh ms wt nf np nq ns po pt pf nr sl cl hu uu pd v1 v2 K KX) : vx_Met l yX4_run wsX4_run { frames := 6, cells := 1, slots := 6, locals := 141 } (va_Pc [.ref (q 0), .int v1, .int v2] (wx dC dI cI cJ cZ q 21 sz (WC q cI cJ cZ pg ps nf np nq ns po pt rf rl bx xl xr yl yh ms wt pf nr sl cl hu uu pd ro rc))) (QX4_run dC dI cI cJ cZ q sz pg ps rf rl bx xl xr yl yh ms wt ro rc K) (XCX4_run dC dI cI cJ cZ q sz pg ps rf rl bx xl xr yl yh ms wt ro rc KX) 1 6 (AF q 21 sz) := by
  refine xmet_of [.ref (q 0), .int v1, .int v2] (by decide +kernel) rfl (Nat.le_of_ble_eq_true rfl) ?_
  intro p e s m below meth c ls hsz C hT hK ha hN hE hl hP
  subst hsz
  obtain ⟨hx, hb, hr, hml, hown, hts, hlk⟩ := id C
  have hl : lv_has ls 3 [(0, .ref (q 0)), (1, .int v1), (2, .int v2)] := hl
  refine w_go (Pw := fun H => va_P (dC, dI) vwCl (WC q cI cJ cZ pg ps nf np nq ns po pt rf rl bx xl xr yl yh ms wt pf nr sl cl hu uu pd ro rc) H) (A := AF q 21 s.heap.size) (fun H locs hP hS => ?_) hP
  unfold wX4_run at h
  refine lv_iload_n hx hb dX4_run_0 rfl (lv_at hl 1 rfl) ?_
  refine lv_iconst (v := 2) hx hb dX4_run_1 (by decide) ?_
  refine lv_icmp_lt (tgt := 10) hx hb dX4_run_2 (by decide) (fun c1 => ?_) (fun c1 => ?_)
  · have h := h.1 c1
    exact xthrow hlt hx hb hown hts hT (hl.1.trans hml.symm) hlk hE hS (by decide +kernel) xkX4_run_41 xiX4_run_41 (text := "no such number of colours") (by decide +kernel) xgX4_run_45 xbad_45 xot_45 dX4_run_10 dX4_run_13 dX4_run_14 dX4_run_16 dX4_run_19 (Nat.le_of_ble_eq_true rfl) (Nat.le_of_ble_eq_true rfl) (Nat.le_of_ble_eq_true rfl) (Nat.le_of_ble_eq_true rfl) (Nat.le_of_ble_eq_true rfl) (Nat.le_of_ble_eq_true rfl) (nf, np, nq, ns, po, pt, pf, nr, sl, cl, hu, uu, pd) h hP
  · have h := h.2 c1
    refine lv_iload_n hx hb dX4_run_5 rfl (lv_at hl 1 rfl) ?_
    refine lv_iconst (v := 4) hx hb dX4_run_6 (by decide) ?_
    refine lv_icmp_le (tgt := 20) hx hb dX4_run_7 (by decide) (fun c2 => ?_) (fun c2 => ?_)
    · have h := h.1 c2
      refine lv_iload_n hx hb dX4_run_20 rfl (lv_at hl 2 rfl) ?_
      refine lv_if_lt (tgt := 31) hx hb dX4_run_21 (by decide) (fun c3 => ?_) (fun c3 => ?_)
      · have h := h.1 c3
        exact xthrow hlt hx hb hown hts hT (hl.1.trans hml.symm) hlk hE hS (by decide +kernel) xkX4_run_41 xiX4_run_41 (text := "no such number of steps") (by decide +kernel) xgX4_run_45 xbad_45 xot_45 dX4_run_31 dX4_run_34 dX4_run_35 dX4_run_37 dX4_run_40 (Nat.le_of_ble_eq_true rfl) (Nat.le_of_ble_eq_true rfl) (Nat.le_of_ble_eq_true rfl) (Nat.le_of_ble_eq_true rfl) (Nat.le_of_ble_eq_true rfl) (Nat.le_of_ble_eq_true rfl) (nf, np, nq, ns, po, pt, pf, nr, sl, cl, hu, uu, pd) h hP
      · have h := h.2 c3
        refine lv_iload_n hx hb dX4_run_24 rfl (lv_at hl 2 rfl) ?_
        refine lv_sipush (v := 20000) hx hb dX4_run_25 (by decide) ?_
        refine lv_icmp_le (tgt := 41) hx hb dX4_run_28 (by decide) (fun c4 => ?_) (fun c4 => ?_)
        · have h := h.1 c4
          refine lv_aload_n hx hb dX4_run_41 rfl (lv_at hl 0 rfl) ?_
          refine va_get (D := (dC, dI)) (ci := 4) (v := .ref (q 2)) (C := RX4) (T := TX4) (N := 4) hx hb hts iwX4_run_X4 hown hK hP 0 rfl rfl 1 (by decide) (hts _ fwX4_run_21) (fun _ h9 => h9) rfl dX4_run_42 ?_
          refine cl_v (va_runV (As := []) (rest := []) ⟨hx, hb, hml, hown, hts⟩ (ktX0_refresh l dC dI q cI cJ cZ H.size pg ps nf np nq ns po pt rf rl bx xl xr yl yh ms wt pf nr sl cl hu uu pd ro rc  h) (cwV 0 hts gX4_run_X0_refresh rfl rfl rfl (by decide +kernel) ⟨Nat.le_of_ble_eq_true rfl, Nat.le_of_ble_eq_true rfl⟩) ⟨wd.blind, va_recv hK hP (ci := 0) (q0 := 2) rfl rfl, fun U hU hW => ⟨rfl, wd.at hP hK ha hN hU hW⟩⟩ rfl rfl hl.1 rfl (lv_room (Nat.le_of_ble_eq_true rfl)) dX4_run_45 ⟨Nat.le_of_ble_eq_true rfl, Nat.le_of_ble_eq_true rfl⟩) hS (fun u6 H locs h hP hS => ?_)
          have hP : va_P (dC, dI) vwCl (WC q cI cJ cZ pg ps u6.1 u6.2.1 u6.2.2.1 u6.2.2.2.1 po pt rf rl bx xl xr yl yh ms wt u6.2.2.2.2.1 u6.2.2.2.2.2.1 u6.2.2.2.2.2.2.1 u6.2.2.2.2.2.2.2 hu uu pd ro rc) H := hP
          refine lv_aload_n hx hb dX4_run_48 rfl (lv_at hl 0 rfl) ?_
          refine va_get (D := (dC, dI)) (ci := 4) (v := .ref (q 3)) (C := RX4) (T := TX4) (N := 4) hx hb hts iwX4_run_X4 hown hK hP 0 rfl rfl 2 (by decide) (hts _ fwX4_run_30) (fun _ h9 => h9) rfl dX4_run_49 ?_
          refine lv_iload_n hx hb dX4_run_52 rfl (lv_at hl 1 rfl) ?_
          refine lv_iload_n hx hb dX4_run_53 rfl (lv_at hl 2 rfl) ?_
          refine cl_v (va_runV (As := [.int v1, .int v2]) (rest := []) ⟨hx, hb, hml, hown, hts⟩ (ktX1_paint l dC dI q cI cJ cZ H.size pg ps u6.1 u6.2.1 u6.2.2.1 u6.2.2.2.1 po pt rf rl bx xl xr yl yh ms wt u6.2.2.2.2.1 u6.2.2.2.2.2.1 u6.2.2.2.2.2.2.1 u6.2.2.2.2.2.2.2 hu uu pd ro rc v1 v2 h) (cwV 2 hts gX4_run_X1_paint rfl rfl rfl (by decide +kernel) ⟨Nat.le_of_ble_eq_true rfl, Nat.le_of_ble_eq_true rfl⟩) ⟨wd.blind, va_recv hK hP (ci := 1) (q0 := 3) rfl rfl, fun U hU hW => ⟨rfl, wd.at hP hK ha hN hU hW⟩⟩ rfl rfl hl.1 rfl (lv_room (Nat.le_of_ble_eq_true rfl)) dX4_run_54 ⟨Nat.le_of_ble_eq_true rfl, Nat.le_of_ble_eq_true rfl⟩) hS (fun u8 H locs h hP hS => ?_)
          have hP : va_P (dC, dI) vwCl (WC q cI cJ cZ pg ps u6.1 u6.2.1 u6.2.2.1 u6.2.2.2.1 u8.1 u8.2.1 rf rl bx xl xr yl yh ms wt u6.2.2.2.2.1 u6.2.2.2.2.2.1 u6.2.2.2.2.2.2.1 u6.2.2.2.2.2.2.2 u8.2.2.1 u8.2.2.2.1 u8.2.2.2.2 ro rc) H := hP
          refine lv_aload_n hx hb dX4_run_57 rfl (lv_at hl 0 rfl) ?_
          refine va_get (D := (dC, dI)) (ci := 4) (v := .ref (q 3)) (C := RX4) (T := TX4) (N := 4) hx hb hts iwX4_run_X4 hown hK hP 0 rfl rfl 2 (by decide) (hts _ fwX4_run_30) (fun _ h9 => h9) rfl dX4_run_58 ?_
          refine va_get (D := (dC, dI)) (ci := 1) (v := .int u8.1) (C := RX1) (T := TX1) (N := 6) hx hb hts iwX4_run_X1 hown hK hP 3 rfl rfl 1 (by decide) (hts _ fwX4_run_128) (fun _ h9 => h9) rfl dX4_run_61 ?_
          refine W.widen (k := 1) (n := 6) (by decide) (by decide) ?_
          exact vx_ret (rt_i (u6.1, u6.2.1, u6.2.2.1, u6.2.2.2.1, u8.1, u8.2.1, u6.2.2.2.2.1, u6.2.2.2.2.2.1, u6.2.2.2.2.2.2.1, u6.2.2.2.2.2.2.2, u8.2.2.1, u8.2.2.2.1, u8.2.2.2.2) hx hb hr hlk h (fun t ht => by rw [ht]; exact hP) hS dX4_run_64)
        · have h := h.2 c4
          exact xthrow hlt hx hb hown hts hT (hl.1.trans hml.symm) hlk hE hS (by decide +kernel) xkX4_run_41 xiX4_run_41 (text := "no such number of steps") (by decide +kernel) xgX4_run_45 xbad_45 xot_45 dX4_run_31 dX4_run_34 dX4_run_35 dX4_run_37 dX4_run_40 (Nat.le_of_ble_eq_true rfl) (Nat.le_of_ble_eq_true rfl) (Nat.le_of_ble_eq_true rfl) (Nat.le_of_ble_eq_true rfl) (Nat.le_of_ble_eq_true rfl) (Nat.le_of_ble_eq_true rfl) (nf, np, nq, ns, po, pt, pf, nr, sl, cl, hu, uu, pd) h hP
    · have h := h.2 c2
      exact xthrow hlt hx hb hown hts hT (hl.1.trans hml.symm) hlk hE hS (by decide +kernel) xkX4_run_41 xiX4_run_41 (text := "no such number of colours") (by decide +kernel) xgX4_run_45 xbad_45 xot_45 dX4_run_10 dX4_run_13 dX4_run_14 dX4_run_16 dX4_run_19 (Nat.le_of_ble_eq_true rfl) (Nat.le_of_ble_eq_true rfl) (Nat.le_of_ble_eq_true rfl) (Nat.le_of_ble_eq_true rfl) (Nat.le_of_ble_eq_true rfl) (Nat.le_of_ble_eq_true rfl) (nf, np, nq, ns, po, pt, pf, nr, sl, cl, hu, uu, pd) h hP

theorem fwX4_colour_30 : Cond.fieldLink RX4 30 "MaskParts" "painter" "LMaskParts$Painter;" ∈ wsX4_colour := by decide +kernel
set_option maxRecDepth 20000 in
theorem iwX4_colour_X4 : ∀ w ∈ wsX40, w ∈ wsX4_colour := by decide +kernel
theorem fwX4_colour_128 : Cond.fieldLink RX4 128 "MaskParts$Painter" "outcome" "I" ∈ wsX4_colour := by decide +kernel
set_option maxRecDepth 20000 in
theorem iwX4_colour_X1 : ∀ w ∈ wsX10, w ∈ wsX4_colour := by decide +kernel
theorem fwX4_colour_131 : Cond.fieldLink RX4 131 "MaskParts$Painter" "hue" "[I" ∈ wsX4_colour := by decide +kernel
theorem fwX4_colour_21 : Cond.fieldLink RX4 21 "MaskParts" "net" "LMaskParts$Net;" ∈ wsX4_colour := by decide +kernel
theorem fwX4_colour_107 : Cond.fieldLink RX4 107 "MaskParts$Net" "partOf" "[I" ∈ wsX4_colour := by decide +kernel
set_option maxRecDepth 20000 in
theorem iwX4_colour_X0 : ∀ w ∈ wsX00, w ∈ wsX4_colour := by decide +kernel
abbrev QX4_colour (dC : Nat → ClassId) (dI : Nat → Nat → Nat) (cI cJ cZ : ClassId) (q : Nat → Nat) (sz : Nat) (pg : Int32) (ps : Int32) (nf : Int32) (np : Int32) (nq : Int32) (ns : Int32) (po : Int32) (pt : Int32) (rf : Int32) (rl : Int32) (bx : (Nat → Int32)) (xl : (Nat → Int32)) (xr : (Nat → Int32)) (yl : (Nat → Int32)) (yh : (Nat → Int32)) (ms : (Nat → Int32)) (wt : (Nat → Int32)) (pf : (Nat → Int32)) (nr : (Nat → Int64)) (sl : (Nat → Int32)) (cl : (Nat → Int32)) (hu : (Nat → Int32)) (uu : (Nat → Int32)) (pd : (Nat → Int64)) (ro : (Nat → Int32)) (rc : (Nat → Int64)) (K : Int32 → Prop) : Array Value → State → Outcome → State → Prop := va_Qi (fun (r : Int32) (u : Unit) => K r) (fun (u : Unit) t => va_P (dC, dI) vwCl (WC q cI cJ cZ pg ps nf np nq ns po pt rf rl bx xl xr yl yh ms wt pf nr sl cl hu uu pd ro rc) t.heap) (AF q 21 sz)
abbrev XCX4_colour (dC : Nat → ClassId) (dI : Nat → Nat → Nat) (cI cJ cZ : ClassId) (q : Nat → Nat) (sz : Nat) (pg : Int32) (ps : Int32) (nf : Int32) (np : Int32) (nq : Int32) (ns : Int32) (po : Int32) (pt : Int32) (rf : Int32) (rl : Int32) (bx : (Nat → Int32)) (xl : (Nat → Int32)) (xr : (Nat → Int32)) (yl : (Nat → Int32)) (yh : (Nat → Int32)) (ms : (Nat → Int32)) (wt : (Nat → Int32)) (pf : (Nat → Int32)) (nr : (Nat → Int64)) (sl : (Nat → Int32)) (cl : (Nat → Int32)) (hu : (Nat → Int32)) (uu : (Nat → Int32)) (pd : (Nat → Int64)) (ro : (Nat → Int32)) (rc : (Nat → Int64)) (KX : String → Prop) : String → State → State → Prop := XX (dC, dI) q 21 sz (fun E (_ : Unit) => KX E) (fun (u : Unit) => WC q cI cJ cZ pg ps nf np nq ns po pt rf rl bx xl xr yl yh ms wt pf nr sl cl hu uu pd ro rc)
def wX4_colour (ps : Int32) (po : Int32) (bx : (Nat → Int32)) (pf : (Nat → Int32)) (hu : (Nat → Int32)) (v1 : Int32) (v2 : Int32) (K : Int32 → Prop) (KX : String → Prop) : Prop := (wX4_needSlot ps bx v1 v2 (fun (r1 : Int32) => ((¬ po = 0 → K (-1) ) ∧ (po = 0 → (vp_in r1 40 ∧ (vp_in ((pf r1.toNatClampNeg)) 40 ∧ K ((hu ((pf r1.toNatClampNeg) : Int32).toNatClampNeg)) ))))) (fun (E : String) => KX E))
set_option maxHeartbeats 4000000 in
set_option maxRecDepth 100000 in
theorem ktX4_colour (l : Launch) (hlt : l.stackTraces = false) (dC : Nat → ClassId) (dI : Nat → Nat → Nat) (q : Nat → Nat) (cI cJ cZ : ClassId) (sz : Nat) (pg : Int32) (ps : Int32) (nf : Int32) (np : Int32) (nq : Int32) (ns : Int32) (po : Int32) (pt : Int32) (rf : Int32) (rl : Int32) (bx : (Nat → Int32)) (xl : (Nat → Int32)) (xr : (Nat → Int32)) (yl : (Nat → Int32)) (yh : (Nat → Int32)) (ms : (Nat → Int32)) (wt : (Nat → Int32)) (pf : (Nat → Int32)) (nr : (Nat → Int64)) (sl : (Nat → Int32)) (cl : (Nat → Int32)) (hu : (Nat → Int32)) (uu : (Nat → Int32)) (pd : (Nat → Int64)) (ro : (Nat → Int32)) (rc : (Nat → Int64)) (v1 : Int32) (v2 : Int32) {K : Int32 → Prop} {KX : String → Prop} (h : wX4_colour ps po bx pf hu v1 v2 K KX) : vx_Met l yX4_colour wsX4_colour { frames := 7, cells := 1, slots := 6, locals := 114 } (va_Pc [.ref (q 0), .int v1, .int v2] (wx dC dI cI cJ cZ q 21 sz (WC q cI cJ cZ pg ps nf np nq ns po pt rf rl bx xl xr yl yh ms wt pf nr sl cl hu uu pd ro rc))) (QX4_colour dC dI cI cJ cZ q sz pg ps nf np nq ns po pt rf rl bx xl xr yl yh ms wt pf nr sl cl hu uu pd ro rc K) (XCX4_colour dC dI cI cJ cZ q sz pg ps nf np nq ns po pt rf rl bx xl xr yl yh ms wt pf nr sl cl hu uu pd ro rc KX) 1 6 (AF q 21 sz) := by
  refine xmet_of [.ref (q 0), .int v1, .int v2] (by decide +kernel) rfl (Nat.le_of_ble_eq_true rfl) ?_
  intro p e s m below meth c ls hsz C hT hK ha hN hE hl hP
  subst hsz
  obtain ⟨hx, hb, hr, hml, hown, hts, hlk⟩ := id C
  have hl : lv_has ls 4 [(0, .ref (q 0)), (1, .int v1), (2, .int v2)] := hl
  refine w_go (Pw := fun H => va_P (dC, dI) vwCl (WC q cI cJ cZ pg ps nf np nq ns po pt rf rl bx xl xr yl yh ms wt pf nr sl cl hu uu pd ro rc) H) (A := AF q 21 s.heap.size) (fun H locs hP hS => ?_) hP
  unfold wX4_colour at h
  refine lv_aload_n hx hb dX4_colour_0 rfl (lv_at hl 0 rfl) ?_
  refine lv_iload_n hx hb dX4_colour_1 rfl (lv_at hl 1 rfl) ?_
  refine lv_iload_n hx hb dX4_colour_2 rfl (lv_at hl 2 rfl) ?_
  refine xc_i (vx_runV (As := [.int v1, .int v2]) (rest := []) ⟨hx, hb, hml, hown, hts⟩ (ktX4_needSlot l hlt dC dI q cI cJ cZ H.size pg ps nf np nq ns po pt rf rl bx xl xr yl yh ms wt pf nr sl cl hu uu pd ro rc v1 v2 h) (cwV 2 hts gX4_colour_X4_needSlot rfl rfl rfl (by decide +kernel) ⟨Nat.le_of_ble_eq_true rfl, Nat.le_of_ble_eq_true rfl⟩) ⟨wx.blind, va_recv hK hP (ci := 4) (q0 := 0) rfl rfl, fun U hU hW => ⟨rfl, wx.at hP hK ha hN hE hS hU hW⟩⟩ rfl rfl hl.1 rfl (lv_room (Nat.le_of_ble_eq_true rfl)) dX4_colour_3 ⟨Nat.le_of_ble_eq_true rfl, Nat.le_of_ble_eq_true rfl⟩) hS (fun E ce q9 _ H locs h hP hS hce hcv hcl => xpass hT hlk hS hce hcv hcl (Nat.le_of_ble_eq_true rfl) (Nat.le_of_ble_eq_true rfl) () h hP) (fun r1 _ H locs h hP hS => ?_)
  have hP : va_P (dC, dI) vwCl (WC q cI cJ cZ pg ps nf np nq ns po pt rf rl bx xl xr yl yh ms wt pf nr sl cl hu uu pd ro rc) H := hP
  refine lv_istore_n (lv' := [(3, .int r1), (0, .ref (q 0)), (1, .int v1), (2, .int v2)]) hx hb dX4_colour_6 rfl hl (by decide) rfl (fun ls hl => ?_)
  refine lv_aload_n hx hb dX4_colour_7 rfl (lv_at hl 1 rfl) ?_
  refine va_get (D := (dC, dI)) (ci := 4) (v := .ref (q 3)) (C := RX4) (T := TX4) (N := 4) hx hb hts iwX4_colour_X4 hown hK hP 0 rfl rfl 2 (by decide) (hts _ fwX4_colour_30) (fun _ h9 => h9) rfl dX4_colour_8 ?_
  refine va_get (D := (dC, dI)) (ci := 1) (v := .int po) (C := RX1) (T := TX1) (N := 6) hx hb hts iwX4_colour_X1 hown hK hP 3 rfl rfl 1 (by decide) (hts _ fwX4_colour_128) (fun _ h9 => h9) rfl dX4_colour_11 ?_
  refine lv_if_ne (tgt := 37) hx hb dX4_colour_14 (by decide) (fun c3 => ?_) (fun c3 => ?_)
  · have h := h.1 c3
    refine lv_iconst (v := (-1)) hx hb dX4_colour_37 (by decide) ?_
    exact vx_ret (rt_i () hx hb hr hlk h (fun t ht => by rw [ht]; exact hP) hS dX4_colour_38)
  · have h := h.2 c3
    refine lv_aload_n hx hb dX4_colour_17 rfl (lv_at hl 1 rfl) ?_
    refine va_get (D := (dC, dI)) (ci := 4) (v := .ref (q 3)) (C := RX4) (T := TX4) (N := 4) hx hb hts iwX4_colour_X4 hown hK hP 0 rfl rfl 2 (by decide) (hts _ fwX4_colour_30) (fun _ h9 => h9) rfl dX4_colour_18 ?_
    refine va_get (D := (dC, dI)) (ci := 1) (v := .ref (q 16)) (C := RX1) (T := TX1) (N := 6) hx hb hts iwX4_colour_X1 hown hK hP 3 rfl rfl 3 (by decide) (hts _ fwX4_colour_131) (fun _ h9 => h9) rfl dX4_colour_21 ?_
    refine lv_aload_n hx hb dX4_colour_24 rfl (lv_at hl 1 rfl) ?_
    refine va_get (D := (dC, dI)) (ci := 4) (v := .ref (q 2)) (C := RX4) (T := TX4) (N := 4) hx hb hts iwX4_colour_X4 hown hK hP 0 rfl rfl 1 (by decide) (hts _ fwX4_colour_21) (fun _ h9 => h9) rfl dX4_colour_25 ?_
    refine va_get (D := (dC, dI)) (ci := 0) (v := .ref (q 12)) (C := RX0) (T := TX0) (N := 9) hx hb hts iwX4_colour_X0 hown hK hP 2 rfl rfl 5 (by decide) (hts _ fwX4_colour_107) (fun _ h9 => h9) rfl dX4_colour_28 ?_
    refine lv_iload_n hx hb dX4_colour_31 rfl (lv_at hl 0 rfl) ?_
    obtain ⟨b4, h⟩ := h
    refine va_iald (D := (dC, dI)) hx hb hK hP 12 0 rfl rfl b4 dX4_colour_32 ?_
    obtain ⟨b5, h⟩ := h
    refine va_iald (D := (dC, dI)) hx hb hK hP 16 0 rfl rfl b5 dX4_colour_33 ?_
    refine lv_goto (tgt := 38) hx hb dX4_colour_34 (by decide) ?_
    exact vx_ret (rt_i () hx hb hr hlk h (fun t ht => by rw [ht]; exact hP) hS dX4_colour_38)

theorem fwX4_area_30 : Cond.fieldLink RX4 30 "MaskParts" "painter" "LMaskParts$Painter;" ∈ wsX4_area := by decide +kernel
set_option maxRecDepth 20000 in
theorem iwX4_area_X4 : ∀ w ∈ wsX40, w ∈ wsX4_area := by decide +kernel
theorem fwX4_area_128 : Cond.fieldLink RX4 128 "MaskParts$Painter" "outcome" "I" ∈ wsX4_area := by decide +kernel
set_option maxRecDepth 20000 in
theorem iwX4_area_X1 : ∀ w ∈ wsX10, w ∈ wsX4_area := by decide +kernel
theorem xkX4_area_41 : Cond.classLink RX4 41 "java/lang/IllegalArgumentException" ∈ wsX4_area := by decide +kernel
theorem xiX4_area_41 : Cond.initialized "java/lang/IllegalArgumentException" ∈ wsX4_area := by decide +kernel
set_option maxRecDepth 20000 in
theorem xgX4_area_45 : ∀ w ∈ (vx_atS RX4 45 "java/lang/IllegalArgumentException" NM).filter goodWord, w ∈ wsX4_area := by decide +kernel
abbrev QX4_area (dC : Nat → ClassId) (dI : Nat → Nat → Nat) (cI cJ cZ : ClassId) (q : Nat → Nat) (sz : Nat) (pg : Int32) (ps : Int32) (nf : Int32) (np : Int32) (nq : Int32) (ns : Int32) (po : Int32) (pt : Int32) (rf : Int32) (rl : Int32) (bx : (Nat → Int32)) (xl : (Nat → Int32)) (xr : (Nat → Int32)) (yl : (Nat → Int32)) (yh : (Nat → Int32)) (ms : (Nat → Int32)) (wt : (Nat → Int32)) (pf : (Nat → Int32)) (nr : (Nat → Int64)) (sl : (Nat → Int32)) (cl : (Nat → Int32)) (hu : (Nat → Int32)) (uu : (Nat → Int32)) (pd : (Nat → Int64)) (ro : (Nat → Int32)) (rc : (Nat → Int64)) (K : Int64 → Prop) : Array Value → State → Outcome → State → Prop := va_Ql (fun (r : Int64) (u : Unit) => K r) (fun (u : Unit) t => va_P (dC, dI) vwCl (WC q cI cJ cZ pg ps nf np nq ns po pt rf rl bx xl xr yl yh ms wt pf nr sl cl hu uu pd ro rc) t.heap) (AF q 21 sz)
abbrev XCX4_area (dC : Nat → ClassId) (dI : Nat → Nat → Nat) (cI cJ cZ : ClassId) (q : Nat → Nat) (sz : Nat) (pg : Int32) (ps : Int32) (nf : Int32) (np : Int32) (nq : Int32) (ns : Int32) (po : Int32) (pt : Int32) (rf : Int32) (rl : Int32) (bx : (Nat → Int32)) (xl : (Nat → Int32)) (xr : (Nat → Int32)) (yl : (Nat → Int32)) (yh : (Nat → Int32)) (ms : (Nat → Int32)) (wt : (Nat → Int32)) (pf : (Nat → Int32)) (nr : (Nat → Int64)) (sl : (Nat → Int32)) (cl : (Nat → Int32)) (hu : (Nat → Int32)) (uu : (Nat → Int32)) (pd : (Nat → Int64)) (ro : (Nat → Int32)) (rc : (Nat → Int64)) (KX : String → Prop) : String → State → State → Prop := XX (dC, dI) q 21 sz (fun E (_ : Unit) => KX E) (fun (u : Unit) => WC q cI cJ cZ pg ps nf np nq ns po pt rf rl bx xl xr yl yh ms wt pf nr sl cl hu uu pd ro rc)
def wX4_area (ps : Int32) (po : Int32) (bx : (Nat → Int32)) (xl : (Nat → Int32)) (xr : (Nat → Int32)) (yl : (Nat → Int32)) (yh : (Nat → Int32)) (pf : (Nat → Int32)) (hu : (Nat → Int32)) (v1 : Int32) (K : Int64 → Prop) (KX : String → Prop) : Prop := (wX4_isColour v1 (fun r1 : Int32 => ((¬ r1 = 0 → ((¬ po = 0 → K 0 ) ∧ (po = 0 → (wX4_sizeOf ps bx xl xr yl yh pf hu v1 (fun (r5 : Int64) => K r5 ))))) ∧ (r1 = 0 → KX "java/lang/IllegalArgumentException"))))
set_option maxHeartbeats 4000000 in
set_option maxRecDepth 100000 in
theorem ktX4_area (l : Launch) (hlt : l.stackTraces = false) (dC : Nat → ClassId) (dI : Nat → Nat → Nat) (q : Nat → Nat) (cI cJ cZ : ClassId) (sz : Nat) (pg : Int32) (ps : Int32) (nf : Int32) (np : Int32) (nq : Int32) (ns : Int32) (po : Int32) (pt : Int32) (rf : Int32) (rl : Int32) (bx : (Nat → Int32)) (xl : (Nat → Int32)) (xr : (Nat → Int32)) (yl : (Nat → Int32)) (yh : (Nat → Int32)) (ms : (Nat → Int32)) (wt : (Nat → Int32)) (pf : (Nat → Int32)) (nr : (Nat → Int64)) (sl : (Nat → Int32)) (cl : (Nat → Int32)) (hu : (Nat → Int32)) (uu : (Nat → Int32)) (pd : (Nat → Int64)) (ro : (Nat → Int32)) (rc : (Nat → Int64)) (v1 : Int32) {K : Int64 → Prop} {KX : String → Prop} (h : wX4_area ps po bx xl xr yl yh pf hu v1 K KX) : vx_Met l yX4_area wsX4_area { frames := 6, cells := 1, slots := 6, locals := 92 } (va_Pc [.ref (q 0), .int v1] (wx dC dI cI cJ cZ q 21 sz (WC q cI cJ cZ pg ps nf np nq ns po pt rf rl bx xl xr yl yh ms wt pf nr sl cl hu uu pd ro rc))) (QX4_area dC dI cI cJ cZ q sz pg ps nf np nq ns po pt rf rl bx xl xr yl yh ms wt pf nr sl cl hu uu pd ro rc K) (XCX4_area dC dI cI cJ cZ q sz pg ps nf np nq ns po pt rf rl bx xl xr yl yh ms wt pf nr sl cl hu uu pd ro rc KX) 1 6 (AF q 21 sz) := by
  refine xmet_of [.ref (q 0), .int v1] (by decide +kernel) rfl (Nat.le_of_ble_eq_true rfl) ?_
  intro p e s m below meth c ls hsz C hT hK ha hN hE hl hP
  subst hsz
  obtain ⟨hx, hb, hr, hml, hown, hts, hlk⟩ := id C
  have hl : lv_has ls 2 [(0, .ref (q 0)), (1, .int v1)] := hl
  refine w_go (Pw := fun H => va_P (dC, dI) vwCl (WC q cI cJ cZ pg ps nf np nq ns po pt rf rl bx xl xr yl yh ms wt pf nr sl cl hu uu pd ro rc) H) (A := AF q 21 s.heap.size) (fun H locs hP hS => ?_) hP
  unfold wX4_area at h
  refine lv_iload_n hx hb dX4_area_0 rfl (lv_at hl 1 rfl) ?_
  refine cl_pi (va_runS (As := [.int v1]) (rest := []) ⟨hx, hb, hml, hown, hts⟩ (ktX4_isColour l H.size v1 h) (va_cwS 1 hts gX4_area_X4_isColour rfl rfl rfl (by decide +kernel) ⟨Nat.le_of_ble_eq_true rfl, Nat.le_of_ble_eq_true rfl⟩) ⟨pz.blind, fun U hU _ => ⟨rfl, pz.at hU⟩⟩ rfl rfl hl.1 rfl (lv_room (Nat.le_of_ble_eq_true rfl)) dX4_area_1 ⟨Nat.le_of_ble_eq_true rfl, Nat.le_of_ble_eq_true rfl⟩) hP hS (fun r1 _ H locs h hP hS => ?_)
  refine lv_if_ne (tgt := 17) hx hb dX4_area_4 (by decide) (fun c3 => ?_) (fun c3 => ?_)
  · have h := h.1 c3
    refine lv_aload_n hx hb dX4_area_17 rfl (lv_at hl 0 rfl) ?_
    refine va_get (D := (dC, dI)) (ci := 4) (v := .ref (q 3)) (C := RX4) (T := TX4) (N := 4) hx hb hts iwX4_area_X4 hown hK hP 0 rfl rfl 2 (by decide) (hts _ fwX4_area_30) (fun _ h9 => h9) rfl dX4_area_18 ?_
    refine va_get (D := (dC, dI)) (ci := 1) (v := .int po) (C := RX1) (T := TX1) (N := 6) hx hb hts iwX4_area_X1 hown hK hP 3 rfl rfl 1 (by decide) (hts _ fwX4_area_128) (fun _ h9 => h9) rfl dX4_area_21 ?_
    refine lv_if_ne (tgt := 35) hx hb dX4_area_24 (by decide) (fun c4 => ?_) (fun c4 => ?_)
    · have h := h.1 c4
      refine lv_lconst (v := 0) hx hb dX4_area_35 (by decide) ?_
      refine W.widen (k := 1) (n := 6) (by decide) (by decide) ?_
      exact vx_ret (rt_l () hx hb hr hlk h (fun t ht => by rw [ht]; exact hP) hS dX4_area_36)
    · have h := h.2 c4
      refine lv_aload_n hx hb dX4_area_27 rfl (lv_at hl 0 rfl) ?_
      refine lv_iload_n hx hb dX4_area_28 rfl (lv_at hl 1 rfl) ?_
      refine cl_l (va_runV (As := [.int v1]) (rest := []) ⟨hx, hb, hml, hown, hts⟩ (ktX4_sizeOf l dC dI q cI cJ cZ H.size pg ps nf np nq ns po pt rf rl bx xl xr yl yh ms wt pf nr sl cl hu uu pd ro rc v1 h) (cwV 1 hts gX4_area_X4_sizeOf rfl rfl rfl (by decide +kernel) ⟨Nat.le_of_ble_eq_true rfl, Nat.le_of_ble_eq_true rfl⟩) ⟨wd.blind, va_recv hK hP (ci := 4) (q0 := 0) rfl rfl, fun U hU hW => ⟨rfl, wd.at hP hK ha hN hU hW⟩⟩ rfl rfl hl.1 rfl (lv_room (Nat.le_of_ble_eq_true rfl)) dX4_area_29 ⟨Nat.le_of_ble_eq_true rfl, Nat.le_of_ble_eq_true rfl⟩) hS (fun r5 _ H locs h hP hS => ?_)
      have hP : va_P (dC, dI) vwCl (WC q cI cJ cZ pg ps nf np nq ns po pt rf rl bx xl xr yl yh ms wt pf nr sl cl hu uu pd ro rc) H := hP
      refine lv_goto (tgt := 36) hx hb dX4_area_32 (by decide) ?_
      refine W.widen (k := 1) (n := 6) (by decide) (by decide) ?_
      exact vx_ret (rt_l () hx hb hr hlk h (fun t ht => by rw [ht]; exact hP) hS dX4_area_36)
  · have h := h.2 c3
    exact xthrow hlt hx hb hown hts hT (hl.1.trans hml.symm) hlk hE hS (by decide +kernel) xkX4_area_41 xiX4_area_41 (text := "no such colour") (by decide +kernel) xgX4_area_45 xbad_45 xot_45 dX4_area_7 dX4_area_10 dX4_area_11 dX4_area_13 dX4_area_16 (Nat.le_of_ble_eq_true rfl) (Nat.le_of_ble_eq_true rfl) (Nat.le_of_ble_eq_true rfl) (Nat.le_of_ble_eq_true rfl) (Nat.le_of_ble_eq_true rfl) (Nat.le_of_ble_eq_true rfl) () h hP

theorem fwX4_ringAt_21 : Cond.fieldLink RX4 21 "MaskParts" "net" "LMaskParts$Net;" ∈ wsX4_ringAt := by decide +kernel
set_option maxRecDepth 20000 in
theorem iwX4_ringAt_X4 : ∀ w ∈ wsX40, w ∈ wsX4_ringAt := by decide +kernel
theorem fwX4_ringAt_37 : Cond.fieldLink RX4 37 "MaskParts" "oddRing" "LMaskParts$Ring;" ∈ wsX4_ringAt := by decide +kernel
theorem xkX4_ringAt_67 : Cond.classLink RX4 67 "java/lang/IndexOutOfBoundsException" ∈ wsX4_ringAt := by decide +kernel
theorem xiX4_ringAt_67 : Cond.initialized "java/lang/IndexOutOfBoundsException" ∈ wsX4_ringAt := by decide +kernel
set_option maxRecDepth 20000 in
theorem xgX4_ringAt_71 : ∀ w ∈ (vx_atS RX4 71 "java/lang/IndexOutOfBoundsException" NM).filter goodWord, w ∈ wsX4_ringAt := by decide +kernel
theorem fwX4_ringAt_146 : Cond.fieldLink RX4 146 "MaskParts$Ring" "length" "I" ∈ wsX4_ringAt := by decide +kernel
set_option maxRecDepth 20000 in
theorem iwX4_ringAt_X3 : ∀ w ∈ wsX30, w ∈ wsX4_ringAt := by decide +kernel
theorem fwX4_ringAt_151 : Cond.fieldLink RX4 151 "MaskParts$Ring" "row" "[I" ∈ wsX4_ringAt := by decide +kernel
abbrev QX4_ringAt (dC : Nat → ClassId) (dI : Nat → Nat → Nat) (cI cJ cZ : ClassId) (q : Nat → Nat) (sz : Nat) (pg : Int32) (ps : Int32) (po : Int32) (pt : Int32) (bx : (Nat → Int32)) (xl : (Nat → Int32)) (xr : (Nat → Int32)) (yl : (Nat → Int32)) (yh : (Nat → Int32)) (ms : (Nat → Int32)) (wt : (Nat → Int32)) (hu : (Nat → Int32)) (uu : (Nat → Int32)) (pd : (Nat → Int64)) (K : Int32 → (Int32 × Int32 × Int32 × Int32 × Int32 × Int32 × (Nat → Int32) × (Nat → Int64) × (Nat → Int32) × (Nat → Int32) × (Nat → Int32) × (Nat → Int64)) → Prop) : Array Value → State → Outcome → State → Prop := va_Qi (fun (r : Int32) (u : Int32 × Int32 × Int32 × Int32 × Int32 × Int32 × (Nat → Int32) × (Nat → Int64) × (Nat → Int32) × (Nat → Int32) × (Nat → Int32) × (Nat → Int64)) => K r u) (fun (u : Int32 × Int32 × Int32 × Int32 × Int32 × Int32 × (Nat → Int32) × (Nat → Int64) × (Nat → Int32) × (Nat → Int32) × (Nat → Int32) × (Nat → Int64)) t => va_P (dC, dI) vwCl (WC q cI cJ cZ pg ps u.1 u.2.1 u.2.2.1 u.2.2.2.1 po pt u.2.2.2.2.1 u.2.2.2.2.2.1 bx xl xr yl yh ms wt u.2.2.2.2.2.2.1 u.2.2.2.2.2.2.2.1 u.2.2.2.2.2.2.2.2.1 u.2.2.2.2.2.2.2.2.2.1 hu uu pd u.2.2.2.2.2.2.2.2.2.2.1 u.2.2.2.2.2.2.2.2.2.2.2) t.heap) (AF q 21 sz)
abbrev XCX4_ringAt (dC : Nat → ClassId) (dI : Nat → Nat → Nat) (cI cJ cZ : ClassId) (q : Nat → Nat) (sz : Nat) (pg : Int32) (ps : Int32) (po : Int32) (pt : Int32) (bx : (Nat → Int32)) (xl : (Nat → Int32)) (xr : (Nat → Int32)) (yl : (Nat → Int32)) (yh : (Nat → Int32)) (ms : (Nat → Int32)) (wt : (Nat → Int32)) (hu : (Nat → Int32)) (uu : (Nat → Int32)) (pd : (Nat → Int64)) (KX : String → (Int32 × Int32 × Int32 × Int32 × Int32 × Int32 × (Nat → Int32) × (Nat → Int64) × (Nat → Int32) × (Nat → Int32) × (Nat → Int32) × (Nat → Int64)) → Prop) : String → State → State → Prop := XX (dC, dI) q 21 sz KX (fun (u : Int32 × Int32 × Int32 × Int32 × Int32 × Int32 × (Nat → Int32) × (Nat → Int64) × (Nat → Int32) × (Nat → Int32) × (Nat → Int32) × (Nat → Int64)) => WC q cI cJ cZ pg ps u.1 u.2.1 u.2.2.1 u.2.2.2.1 po pt u.2.2.2.2.1 u.2.2.2.2.2.1 bx xl xr yl yh ms wt u.2.2.2.2.2.2.1 u.2.2.2.2.2.2.2.1 u.2.2.2.2.2.2.2.2.1 u.2.2.2.2.2.2.2.2.2.1 hu uu pd u.2.2.2.2.2.2.2.2.2.2.1 u.2.2.2.2.2.2.2.2.2.2.2)
def wX4_ringAt (pg : Int32) (ps : Int32) (bx : (Nat → Int32)) (xl : (Nat → Int32)) (xr : (Nat → Int32)) (yl : (Nat → Int32)) (yh : (Nat → Int32)) (ms : (Nat → Int32)) (wt : (Nat → Int32)) (nf : Int32) (np : Int32) (nq : Int32) (ns : Int32) (rf : Int32) (rl : Int32) (pf : (Nat → Int32)) (nr : (Nat → Int64)) (sl : (Nat → Int32)) (cl : (Nat → Int32)) (ro : (Nat → Int32)) (rc : (Nat → Int64)) (v1 : Int32) (K : Int32 → (Int32 × Int32 × Int32 × Int32 × Int32 × Int32 × (Nat → Int32) × (Nat → Int64) × (Nat → Int32) × (Nat → Int32) × (Nat → Int32) × (Nat → Int64)) → Prop) (KX : String → (Int32 × Int32 × Int32 × Int32 × Int32 × Int32 × (Nat → Int32) × (Nat → Int64) × (Nat → Int32) × (Nat → Int32) × (Nat → Int32) × (Nat → Int64)) → Prop) : Prop := (wX0_refresh pg ps bx xl xr yl yh ms wt nf np nq ns pf nr sl cl  (fun (u2 : Int32 × Int32 × Int32 × Int32 × (Nat → Int32) × (Nat → Int64) × (Nat → Int32) × (Nat → Int32)) => (wX3_refresh u2.2.1 u2.2.2.2.2.2.1 rf rl ro rc  (fun (u4 : Int32 × Int32 × (Nat → Int32) × (Nat → Int64)) => ((v1 < 0 → KX "java/lang/IndexOutOfBoundsException" (u2.1, u2.2.1, u2.2.2.1, u2.2.2.2.1, u4.1, u4.2.1, u2.2.2.2.2.1, u2.2.2.2.2.2.1, u2.2.2.2.2.2.2.1, u2.2.2.2.2.2.2.2, u4.2.2.1, u4.2.2.2)) ∧ (¬ (v1 < 0) → ((v1 < u4.2.1 → (vp_in v1 40 ∧ K ((u4.2.2.1 v1.toNatClampNeg)) (u2.1, u2.2.1, u2.2.2.1, u2.2.2.2.1, u4.1, u4.2.1, u2.2.2.2.2.1, u2.2.2.2.2.2.1, u2.2.2.2.2.2.2.1, u2.2.2.2.2.2.2.2, u4.2.2.1, u4.2.2.2))) ∧ (¬ (v1 < u4.2.1) → KX "java/lang/IndexOutOfBoundsException" (u2.1, u2.2.1, u2.2.2.1, u2.2.2.2.1, u4.1, u4.2.1, u2.2.2.2.2.1, u2.2.2.2.2.2.1, u2.2.2.2.2.2.2.1, u2.2.2.2.2.2.2.2, u4.2.2.1, u4.2.2.2)))))))))
set_option maxHeartbeats 4000000 in
set_option maxRecDepth 100000 in
theorem ktX4_ringAt (l : Launch) (hlt : l.stackTraces = false) (dC : Nat → ClassId) (dI : Nat → Nat → Nat) (q : Nat → Nat) (cI cJ cZ : ClassId) (sz : Nat) (pg : Int32) (ps : Int32) (nf : Int32) (np : Int32) (nq : Int32) (ns : Int32) (po : Int32) (pt : Int32) (rf : Int32) (rl : Int32) (bx : (Nat → Int32)) (xl : (Nat → Int32)) (xr : (Nat → Int32)) (yl : (Nat → Int32)) (yh : (Nat → Int32)) (ms : (Nat → Int32)) (wt : (Nat → Int32)) (pf : (Nat → Int32)) (nr : (Nat → Int64)) (sl : (Nat → Int32)) (cl : (Nat → Int32)) (hu : (Nat → Int32)) (uu : (Nat → Int32)) (pd : (Nat → Int64)) (ro : (Nat → Int32)) (rc : (Nat → Int64)) (v1 : Int32) {K : Int32 → (Int32 × Int32 × Int32 × Int32 × Int32 × Int32 × (Nat → Int32) × (Nat → Int64) × (Nat → Int32) × (Nat → Int32) × (Nat → Int32) × (Nat → Int64)) → Prop} {KX : String → (Int32 × Int32 × Int32 × Int32 × Int32 × Int32 × (Nat → Int32) × (Nat → Int64) × (Nat → Int32) × (Nat → Int32) × (Nat → Int32) × (Nat → Int64)) → Prop} (h : wX4_ringAt pg ps bx xl xr yl yh ms wt nf np nq ns rf rl pf nr sl cl ro rc v1 K KX) : vx_Met l yX4_ringAt wsX4_ringAt { frames := 6, cells := 1, slots := 6, locals := 141 } (va_Pc [.ref (q 0), .int v1] (wx dC dI cI cJ cZ q 21 sz (WC q cI cJ cZ pg ps nf np nq ns po pt rf rl bx xl xr yl yh ms wt pf nr sl cl hu uu pd ro rc))) (QX4_ringAt dC dI cI cJ cZ q sz pg ps po pt bx xl xr yl yh ms wt hu uu pd K) (XCX4_ringAt dC dI cI cJ cZ q sz pg ps po pt bx xl xr yl yh ms wt hu uu pd KX) 1 6 (AF q 21 sz) := by
  refine xmet_of [.ref (q 0), .int v1] (by decide +kernel) rfl (Nat.le_of_ble_eq_true rfl) ?_
  intro p e s m below meth c ls hsz C hT hK ha hN hE hl hP
  subst hsz
  obtain ⟨hx, hb, hr, hml, hown, hts, hlk⟩ := id C
  have hl : lv_has ls 2 [(0, .ref (q 0)), (1, .int v1)] := hl
  refine w_go (Pw := fun H => va_P (dC, dI) vwCl (WC q cI cJ cZ pg ps nf np nq ns po pt rf rl bx xl xr yl yh ms wt pf nr sl cl hu uu pd ro rc) H) (A := AF q 21 s.heap.size) (fun H locs hP hS => ?_) hP
  unfold wX4_ringAt at h
  refine lv_aload_n hx hb dX4_ringAt_0 rfl (lv_at hl 0 rfl) ?_
  refine va_get (D := (dC, dI)) (ci := 4) (v := .ref (q 2)) (C := RX4) (T := TX4) (N := 4) hx hb hts iwX4_ringAt_X4 hown hK hP 0 rfl rfl 1 (by decide) (hts _ fwX4_ringAt_21) (fun _ h9 => h9) rfl dX4_ringAt_1 ?_
  refine cl_v (va_runV (As := []) (rest := []) ⟨hx, hb, hml, hown, hts⟩ (ktX0_refresh l dC dI q cI cJ cZ H.size pg ps nf np nq ns po pt rf rl bx xl xr yl yh ms wt pf nr sl cl hu uu pd ro rc  h) (cwV 0 hts gX4_ringAt_X0_refresh rfl rfl rfl (by decide +kernel) ⟨Nat.le_of_ble_eq_true rfl, Nat.le_of_ble_eq_true rfl⟩) ⟨wd.blind, va_recv hK hP (ci := 0) (q0 := 2) rfl rfl, fun U hU hW => ⟨rfl, wd.at hP hK ha hN hU hW⟩⟩ rfl rfl hl.1 rfl (lv_room (Nat.le_of_ble_eq_true rfl)) dX4_ringAt_4 ⟨Nat.le_of_ble_eq_true rfl, Nat.le_of_ble_eq_true rfl⟩) hS (fun u2 H locs h hP hS => ?_)
  have hP : va_P (dC, dI) vwCl (WC q cI cJ cZ pg ps u2.1 u2.2.1 u2.2.2.1 u2.2.2.2.1 po pt rf rl bx xl xr yl yh ms wt u2.2.2.2.2.1 u2.2.2.2.2.2.1 u2.2.2.2.2.2.2.1 u2.2.2.2.2.2.2.2 hu uu pd ro rc) H := hP
  refine lv_aload_n hx hb dX4_ringAt_7 rfl (lv_at hl 0 rfl) ?_
  refine va_get (D := (dC, dI)) (ci := 4) (v := .ref (q 4)) (C := RX4) (T := TX4) (N := 4) hx hb hts iwX4_ringAt_X4 hown hK hP 0 rfl rfl 3 (by decide) (hts _ fwX4_ringAt_37) (fun _ h9 => h9) rfl dX4_ringAt_8 ?_
  refine cl_v (va_runV (As := []) (rest := []) ⟨hx, hb, hml, hown, hts⟩ (ktX3_refresh l dC dI q cI cJ cZ H.size pg ps u2.1 u2.2.1 u2.2.2.1 u2.2.2.2.1 po pt rf rl bx xl xr yl yh ms wt u2.2.2.2.2.1 u2.2.2.2.2.2.1 u2.2.2.2.2.2.2.1 u2.2.2.2.2.2.2.2 hu uu pd ro rc  h) (cwV 0 hts gX4_ringAt_X3_refresh rfl rfl rfl (by decide +kernel) ⟨Nat.le_of_ble_eq_true rfl, Nat.le_of_ble_eq_true rfl⟩) ⟨wd.blind, va_recv hK hP (ci := 3) (q0 := 4) rfl rfl, fun U hU hW => ⟨rfl, wd.at hP hK ha hN hU hW⟩⟩ rfl rfl hl.1 rfl (lv_room (Nat.le_of_ble_eq_true rfl)) dX4_ringAt_11 ⟨Nat.le_of_ble_eq_true rfl, Nat.le_of_ble_eq_true rfl⟩) hS (fun u4 H locs h hP hS => ?_)
  have hP : va_P (dC, dI) vwCl (WC q cI cJ cZ pg ps u2.1 u2.2.1 u2.2.2.1 u2.2.2.2.1 po pt u4.1 u4.2.1 bx xl xr yl yh ms wt u2.2.2.2.2.1 u2.2.2.2.2.2.1 u2.2.2.2.2.2.2.1 u2.2.2.2.2.2.2.2 hu uu pd u4.2.2.1 u4.2.2.2) H := hP
  refine lv_iload_n hx hb dX4_ringAt_14 rfl (lv_at hl 1 rfl) ?_
  refine lv_if_lt (tgt := 29) hx hb dX4_ringAt_15 (by decide) (fun c5 => ?_) (fun c5 => ?_)
  · have h := h.1 c5
    exact xthrow hlt hx hb hown hts hT (hl.1.trans hml.symm) hlk hE hS (by decide +kernel) xkX4_ringAt_67 xiX4_ringAt_67 (text := "no such place in the ring") (by decide +kernel) xgX4_ringAt_71 xbad_71 xot_71 dX4_ringAt_29 dX4_ringAt_32 dX4_ringAt_33 dX4_ringAt_35 dX4_ringAt_38 (Nat.le_of_ble_eq_true rfl) (Nat.le_of_ble_eq_true rfl) (Nat.le_of_ble_eq_true rfl) (Nat.le_of_ble_eq_true rfl) (Nat.le_of_ble_eq_true rfl) (Nat.le_of_ble_eq_true rfl) (u2.1, u2.2.1, u2.2.2.1, u2.2.2.2.1, u4.1, u4.2.1, u2.2.2.2.2.1, u2.2.2.2.2.2.1, u2.2.2.2.2.2.2.1, u2.2.2.2.2.2.2.2, u4.2.2.1, u4.2.2.2) h hP
  · have h := h.2 c5
    refine lv_iload_n hx hb dX4_ringAt_18 rfl (lv_at hl 1 rfl) ?_
    refine lv_aload_n hx hb dX4_ringAt_19 rfl (lv_at hl 0 rfl) ?_
    refine va_get (D := (dC, dI)) (ci := 4) (v := .ref (q 4)) (C := RX4) (T := TX4) (N := 4) hx hb hts iwX4_ringAt_X4 hown hK hP 0 rfl rfl 3 (by decide) (hts _ fwX4_ringAt_37) (fun _ h9 => h9) rfl dX4_ringAt_20 ?_
    refine va_get (D := (dC, dI)) (ci := 3) (v := .int u4.2.1) (C := RX3) (T := TX3) (N := 5) hx hb hts iwX4_ringAt_X3 hown hK hP 4 rfl rfl 2 (by decide) (hts _ fwX4_ringAt_146) (fun _ h9 => h9) rfl dX4_ringAt_23 ?_
    refine lv_icmp_lt (tgt := 39) hx hb dX4_ringAt_26 (by decide) (fun c6 => ?_) (fun c6 => ?_)
    · have h := h.1 c6
      refine lv_aload_n hx hb dX4_ringAt_39 rfl (lv_at hl 0 rfl) ?_
      refine va_get (D := (dC, dI)) (ci := 4) (v := .ref (q 4)) (C := RX4) (T := TX4) (N := 4) hx hb hts iwX4_ringAt_X4 hown hK hP 0 rfl rfl 3 (by decide) (hts _ fwX4_ringAt_37) (fun _ h9 => h9) rfl dX4_ringAt_40 ?_
      refine va_get (D := (dC, dI)) (ci := 3) (v := .ref (q 19)) (C := RX3) (T := TX3) (N := 5) hx hb hts iwX4_ringAt_X3 hown hK hP 4 rfl rfl 3 (by decide) (hts _ fwX4_ringAt_151) (fun _ h9 => h9) rfl dX4_ringAt_43 ?_
      refine lv_iload_n hx hb dX4_ringAt_46 rfl (lv_at hl 1 rfl) ?_
      obtain ⟨b7, h⟩ := h
      refine va_iald (D := (dC, dI)) hx hb hK hP 19 0 rfl rfl b7 dX4_ringAt_47 ?_
      refine W.widen (k := 1) (n := 6) (by decide) (by decide) ?_
      exact vx_ret (rt_i (u2.1, u2.2.1, u2.2.2.1, u2.2.2.2.1, u4.1, u4.2.1, u2.2.2.2.2.1, u2.2.2.2.2.2.1, u2.2.2.2.2.2.2.1, u2.2.2.2.2.2.2.2, u4.2.2.1, u4.2.2.2) hx hb hr hlk h (fun t ht => by rw [ht]; exact hP) hS dX4_ringAt_48)
    · have h := h.2 c6
      exact xthrow hlt hx hb hown hts hT (hl.1.trans hml.symm) hlk hE hS (by decide +kernel) xkX4_ringAt_67 xiX4_ringAt_67 (text := "no such place in the ring") (by decide +kernel) xgX4_ringAt_71 xbad_71 xot_71 dX4_ringAt_29 dX4_ringAt_32 dX4_ringAt_33 dX4_ringAt_35 dX4_ringAt_38 (Nat.le_of_ble_eq_true rfl) (Nat.le_of_ble_eq_true rfl) (Nat.le_of_ble_eq_true rfl) (Nat.le_of_ble_eq_true rfl) (Nat.le_of_ble_eq_true rfl) (Nat.le_of_ble_eq_true rfl) (u2.1, u2.2.1, u2.2.2.1, u2.2.2.2.1, u4.1, u4.2.1, u2.2.2.2.2.1, u2.2.2.2.2.2.1, u2.2.2.2.2.2.2.1, u2.2.2.2.2.2.2.2, u4.2.2.1, u4.2.2.2) h hP

theorem fwX4_told_21 : Cond.fieldLink RX4 21 "MaskParts" "net" "LMaskParts$Net;" ∈ wsX4_told := by decide +kernel
set_option maxRecDepth 20000 in
theorem iwX4_told_X4 : ∀ w ∈ wsX40, w ∈ wsX4_told := by decide +kernel
theorem xkX4_told_41 : Cond.classLink RX4 41 "java/lang/IllegalArgumentException" ∈ wsX4_told := by decide +kernel
theorem xiX4_told_41 : Cond.initialized "java/lang/IllegalArgumentException" ∈ wsX4_told := by decide +kernel
set_option maxRecDepth 20000 in
theorem xgX4_told_45 : ∀ w ∈ (vx_atS RX4 45 "java/lang/IllegalArgumentException" NM).filter goodWord, w ∈ wsX4_told := by decide +kernel
theorem fwX4_told_12 : Cond.fieldLink RX4 12 "MaskParts" "plan" "LMaskParts$Plan;" ∈ wsX4_told := by decide +kernel
theorem fwX4_told_55 : Cond.fieldLink RX4 55 "MaskParts$Plan" "shapes" "I" ∈ wsX4_told := by decide +kernel
set_option maxRecDepth 20000 in
theorem iwX4_told_X2 : ∀ w ∈ wsX20, w ∈ wsX4_told := by decide +kernel
theorem fwX4_told_160 : Cond.fieldLink RX4 160 "MaskParts$Net" "parts" "I" ∈ wsX4_told := by decide +kernel
set_option maxRecDepth 20000 in
theorem iwX4_told_X0 : ∀ w ∈ wsX00, w ∈ wsX4_told := by decide +kernel
theorem fwX4_told_110 : Cond.fieldLink RX4 110 "MaskParts$Net" "pairs" "I" ∈ wsX4_told := by decide +kernel
theorem fwX4_told_163 : Cond.fieldLink RX4 163 "MaskParts$Net" "stitches" "I" ∈ wsX4_told := by decide +kernel
theorem fwX4_told_48 : Cond.fieldLink RX4 48 "MaskParts$Plan" "leastGap" "I" ∈ wsX4_told := by decide +kernel
abbrev QX4_told (dC : Nat → ClassId) (dI : Nat → Nat → Nat) (cI cJ cZ : ClassId) (q : Nat → Nat) (sz : Nat) (pg : Int32) (ps : Int32) (po : Int32) (pt : Int32) (rf : Int32) (rl : Int32) (bx : (Nat → Int32)) (xl : (Nat → Int32)) (xr : (Nat → Int32)) (yl : (Nat → Int32)) (yh : (Nat → Int32)) (ms : (Nat → Int32)) (wt : (Nat → Int32)) (hu : (Nat → Int32)) (uu : (Nat → Int32)) (pd : (Nat → Int64)) (ro : (Nat → Int32)) (rc : (Nat → Int64)) (K : Int32 → (Int32 × Int32 × Int32 × Int32 × (Nat → Int32) × (Nat → Int64) × (Nat → Int32) × (Nat → Int32)) → Prop) : Array Value → State → Outcome → State → Prop := va_Qi (fun (r : Int32) (u : Int32 × Int32 × Int32 × Int32 × (Nat → Int32) × (Nat → Int64) × (Nat → Int32) × (Nat → Int32)) => K r u) (fun (u : Int32 × Int32 × Int32 × Int32 × (Nat → Int32) × (Nat → Int64) × (Nat → Int32) × (Nat → Int32)) t => va_P (dC, dI) vwCl (WC q cI cJ cZ pg ps u.1 u.2.1 u.2.2.1 u.2.2.2.1 po pt rf rl bx xl xr yl yh ms wt u.2.2.2.2.1 u.2.2.2.2.2.1 u.2.2.2.2.2.2.1 u.2.2.2.2.2.2.2 hu uu pd ro rc) t.heap) (AF q 21 sz)
abbrev XCX4_told (dC : Nat → ClassId) (dI : Nat → Nat → Nat) (cI cJ cZ : ClassId) (q : Nat → Nat) (sz : Nat) (pg : Int32) (ps : Int32) (po : Int32) (pt : Int32) (rf : Int32) (rl : Int32) (bx : (Nat → Int32)) (xl : (Nat → Int32)) (xr : (Nat → Int32)) (yl : (Nat → Int32)) (yh : (Nat → Int32)) (ms : (Nat → Int32)) (wt : (Nat → Int32)) (hu : (Nat → Int32)) (uu : (Nat → Int32)) (pd : (Nat → Int64)) (ro : (Nat → Int32)) (rc : (Nat → Int64)) (KX : String → (Int32 × Int32 × Int32 × Int32 × (Nat → Int32) × (Nat → Int64) × (Nat → Int32) × (Nat → Int32)) → Prop) : String → State → State → Prop := XX (dC, dI) q 21 sz KX (fun (u : Int32 × Int32 × Int32 × Int32 × (Nat → Int32) × (Nat → Int64) × (Nat → Int32) × (Nat → Int32)) => WC q cI cJ cZ pg ps u.1 u.2.1 u.2.2.1 u.2.2.2.1 po pt rf rl bx xl xr yl yh ms wt u.2.2.2.2.1 u.2.2.2.2.2.1 u.2.2.2.2.2.2.1 u.2.2.2.2.2.2.2 hu uu pd ro rc)
def wX4_told (pg : Int32) (ps : Int32) (bx : (Nat → Int32)) (xl : (Nat → Int32)) (xr : (Nat → Int32)) (yl : (Nat → Int32)) (yh : (Nat → Int32)) (ms : (Nat → Int32)) (wt : (Nat → Int32)) (nf : Int32) (np : Int32) (nq : Int32) (ns : Int32) (pf : (Nat → Int32)) (nr : (Nat → Int64)) (sl : (Nat → Int32)) (cl : (Nat → Int32)) (v1 : Int32) (K : Int32 → (Int32 × Int32 × Int32 × Int32 × (Nat → Int32) × (Nat → Int64) × (Nat → Int32) × (Nat → Int32)) → Prop) (KX : String → (Int32 × Int32 × Int32 × Int32 × (Nat → Int32) × (Nat → Int64) × (Nat → Int32) × (Nat → Int32)) → Prop) : Prop := (wX0_refresh pg ps bx xl xr yl yh ms wt nf np nq ns pf nr sl cl  (fun (u2 : Int32 × Int32 × Int32 × Int32 × (Nat → Int32) × (Nat → Int64) × (Nat → Int32) × (Nat → Int32)) => (((v1.toInt < 0 ∨ 5 < v1.toInt) → KX "java/lang/IllegalArgumentException" (u2.1, u2.2.1, u2.2.2.1, u2.2.2.2.1, u2.2.2.2.2.1, u2.2.2.2.2.2.1, u2.2.2.2.2.2.2.1, u2.2.2.2.2.2.2.2)) ∧ (v1 = 0 → K ps (u2.1, u2.2.1, u2.2.2.1, u2.2.2.2.1, u2.2.2.2.2.1, u2.2.2.2.2.2.1, u2.2.2.2.2.2.2.1, u2.2.2.2.2.2.2.2)) ∧ (v1 = 1 → (wX2_countBoxes ps bx  (fun (r3 : Int32) => K r3 (u2.1, u2.2.1, u2.2.2.1, u2.2.2.2.1, u2.2.2.2.2.1, u2.2.2.2.2.2.1, u2.2.2.2.2.2.2.1, u2.2.2.2.2.2.2.2)))) ∧ (v1 = 2 → K u2.2.1 (u2.1, u2.2.1, u2.2.2.1, u2.2.2.2.1, u2.2.2.2.2.1, u2.2.2.2.2.2.1, u2.2.2.2.2.2.2.1, u2.2.2.2.2.2.2.2)) ∧ (v1 = 3 → K u2.2.2.1 (u2.1, u2.2.1, u2.2.2.1, u2.2.2.2.1, u2.2.2.2.2.1, u2.2.2.2.2.2.1, u2.2.2.2.2.2.2.1, u2.2.2.2.2.2.2.2)) ∧ (v1 = 4 → K u2.2.2.2.1 (u2.1, u2.2.1, u2.2.2.1, u2.2.2.2.1, u2.2.2.2.2.1, u2.2.2.2.2.2.1, u2.2.2.2.2.2.2.1, u2.2.2.2.2.2.2.2)) ∧ (v1 = 5 → K pg (u2.1, u2.2.1, u2.2.2.1, u2.2.2.2.1, u2.2.2.2.2.1, u2.2.2.2.2.2.1, u2.2.2.2.2.2.2.1, u2.2.2.2.2.2.2.2)))))
set_option maxHeartbeats 4000000 in
set_option maxRecDepth 100000 in
theorem ktX4_told (l : Launch) (hlt : l.stackTraces = false) (dC : Nat → ClassId) (dI : Nat → Nat → Nat) (q : Nat → Nat) (cI cJ cZ : ClassId) (sz : Nat) (pg : Int32) (ps : Int32) (nf : Int32) (np : Int32) (nq : Int32) (ns : Int32) (po : Int32) (pt : Int32) (rf : Int32) (rl : Int32) (bx : (Nat → Int32)) (xl : (Nat → Int32)) (xr : (Nat → Int32)) (yl : (Nat → Int32)) (yh : (Nat → Int32)) (ms : (Nat → Int32)) (wt : (Nat → Int32)) (pf : (Nat → Int32)) (nr : (Nat → Int64)) (sl : (Nat → Int32)) (cl : (Nat → Int32)) (hu : (Nat → Int32)) (uu : (Nat → Int32)) (pd : (Nat → Int64)) (ro : (Nat → Int32)) (rc : (Nat → Int64)) (v1 : Int32) {K : Int32 → (Int32 × Int32 × Int32 × Int32 × (Nat → Int32) × (Nat → Int64) × (Nat → Int32) × (Nat → Int32)) → Prop} {KX : String → (Int32 × Int32 × Int32 × Int32 × (Nat → Int32) × (Nat → Int64) × (Nat → Int32) × (Nat → Int32)) → Prop} (h : wX4_told pg ps bx xl xr yl yh ms wt nf np nq ns pf nr sl cl v1 K KX) : vx_Met l yX4_told wsX4_told { frames := 6, cells := 1, slots := 6, locals := 141 } (va_Pc [.ref (q 0), .int v1] (wx dC dI cI cJ cZ q 21 sz (WC q cI cJ cZ pg ps nf np nq ns po pt rf rl bx xl xr yl yh ms wt pf nr sl cl hu uu pd ro rc))) (QX4_told dC dI cI cJ cZ q sz pg ps po pt rf rl bx xl xr yl yh ms wt hu uu pd ro rc K) (XCX4_told dC dI cI cJ cZ q sz pg ps po pt rf rl bx xl xr yl yh ms wt hu uu pd ro rc KX) 1 6 (AF q 21 sz) := by
  refine xmet_of [.ref (q 0), .int v1] (by decide +kernel) rfl (Nat.le_of_ble_eq_true rfl) ?_
  intro p e s m below meth c ls hsz C hT hK ha hN hE hl hP
  subst hsz
  obtain ⟨hx, hb, hr, hml, hown, hts, hlk⟩ := id C
  have hl : lv_has ls 2 [(0, .ref (q 0)), (1, .int v1)] := hl
  refine w_go (Pw := fun H => va_P (dC, dI) vwCl (WC q cI cJ cZ pg ps nf np nq ns po pt rf rl bx xl xr yl yh ms wt pf nr sl cl hu uu pd ro rc) H) (A := AF q 21 s.heap.size) (fun H locs hP hS => ?_) hP
  unfold wX4_told at h
  refine lv_aload_n hx hb dX4_told_0 rfl (lv_at hl 0 rfl) ?_
  refine va_get (D := (dC, dI)) (ci := 4) (v := .ref (q 2)) (C := RX4) (T := TX4) (N := 4) hx hb hts iwX4_told_X4 hown hK hP 0 rfl rfl 1 (by decide) (hts _ fwX4_told_21) (fun _ h9 => h9) rfl dX4_told_1 ?_
  refine cl_v (va_runV (As := []) (rest := []) ⟨hx, hb, hml, hown, hts⟩ (ktX0_refresh l dC dI q cI cJ cZ H.size pg ps nf np nq ns po pt rf rl bx xl xr yl yh ms wt pf nr sl cl hu uu pd ro rc  h) (cwV 0 hts gX4_told_X0_refresh rfl rfl rfl (by decide +kernel) ⟨Nat.le_of_ble_eq_true rfl, Nat.le_of_ble_eq_true rfl⟩) ⟨wd.blind, va_recv hK hP (ci := 0) (q0 := 2) rfl rfl, fun U hU hW => ⟨rfl, wd.at hP hK ha hN hU hW⟩⟩ rfl rfl hl.1 rfl (lv_room (Nat.le_of_ble_eq_true rfl)) dX4_told_4 ⟨Nat.le_of_ble_eq_true rfl, Nat.le_of_ble_eq_true rfl⟩) hS (fun u2 H locs h hP hS => ?_)
  have hP : va_P (dC, dI) vwCl (WC q cI cJ cZ pg ps u2.1 u2.2.1 u2.2.2.1 u2.2.2.2.1 po pt rf rl bx xl xr yl yh ms wt u2.2.2.2.2.1 u2.2.2.2.2.2.1 u2.2.2.2.2.2.2.1 u2.2.2.2.2.2.2.2 hu uu pd ro rc) H := hP
  refine lv_iload_n hx hb dX4_told_7 rfl (lv_at hl 1 rfl) ?_
  by_cases h0 : v1.toInt < 0 ∨ 5 < v1.toInt
  · refine lv_tableOut (tgt := 96) hx hb dX4_told_8 h0 (by decide) ?_
    have h := h.1 h0
    exact xthrow hlt hx hb hown hts hT (hl.1.trans hml.symm) hlk hE hS (by decide +kernel) xkX4_told_41 xiX4_told_41 (text := "nothing is told under this number") (by decide +kernel) xgX4_told_45 xbad_45 xot_45 dX4_told_96 dX4_told_99 dX4_told_100 dX4_told_102 dX4_told_105 (Nat.le_of_ble_eq_true rfl) (Nat.le_of_ble_eq_true rfl) (Nat.le_of_ble_eq_true rfl) (Nat.le_of_ble_eq_true rfl) (Nat.le_of_ble_eq_true rfl) (Nat.le_of_ble_eq_true rfl) (u2.1, u2.2.1, u2.2.2.1, u2.2.2.2.1, u2.2.2.2.2.1, u2.2.2.2.2.2.1, u2.2.2.2.2.2.2.1, u2.2.2.2.2.2.2.2) h hP
  · have h1 := sw_5 v1 (fun z => h0 (Or.inl z)) (fun z => h0 (Or.inr z))
    rcases h1 with h1 | h1 | h1 | h1 | h1 | h1
    · have h := h.2.1 h1
      refine lv_tableIn (tgt := 48) hx hb dX4_told_8 (fun z => h0 (Or.inl z)) (fun z => h0 (Or.inr z)) (by rw [h1]; rfl) (by decide) ?_
      refine lv_aload_n hx hb dX4_told_48 rfl (lv_at hl 0 rfl) ?_
      refine va_get (D := (dC, dI)) (ci := 4) (v := .ref (q 1)) (C := RX4) (T := TX4) (N := 4) hx hb hts iwX4_told_X4 hown hK hP 0 rfl rfl 0 (by decide) (hts _ fwX4_told_12) (fun _ h9 => h9) rfl dX4_told_49 ?_
      refine va_get (D := (dC, dI)) (ci := 2) (v := .int ps) (C := RX2) (T := TX2) (N := 9) hx hb hts iwX4_told_X2 hown hK hP 1 rfl rfl 1 (by decide) (hts _ fwX4_told_55) (fun _ h9 => h9) rfl dX4_told_52 ?_
      refine W.widen (k := 1) (n := 6) (by decide) (by decide) ?_
      exact vx_ret (rt_i (u2.1, u2.2.1, u2.2.2.1, u2.2.2.2.1, u2.2.2.2.2.1, u2.2.2.2.2.2.1, u2.2.2.2.2.2.2.1, u2.2.2.2.2.2.2.2) hx hb hr hlk h (fun t ht => by rw [ht]; exact hP) hS dX4_told_55)
    · have h := h.2.2.1 h1
      refine lv_tableIn (tgt := 56) hx hb dX4_told_8 (fun z => h0 (Or.inl z)) (fun z => h0 (Or.inr z)) (by rw [h1]; rfl) (by decide) ?_
      refine lv_aload_n hx hb dX4_told_56 rfl (lv_at hl 0 rfl) ?_
      refine va_get (D := (dC, dI)) (ci := 4) (v := .ref (q 1)) (C := RX4) (T := TX4) (N := 4) hx hb hts iwX4_told_X4 hown hK hP 0 rfl rfl 0 (by decide) (hts _ fwX4_told_12) (fun _ h9 => h9) rfl dX4_told_57 ?_
      refine cl_i (va_runV (As := []) (rest := []) ⟨hx, hb, hml, hown, hts⟩ (ktX2_countBoxes l dC dI q cI cJ cZ H.size pg ps u2.1 u2.2.1 u2.2.2.1 u2.2.2.2.1 po pt rf rl bx xl xr yl yh ms wt u2.2.2.2.2.1 u2.2.2.2.2.2.1 u2.2.2.2.2.2.2.1 u2.2.2.2.2.2.2.2 hu uu pd ro rc  h) (cwV 0 hts gX4_told_X2_countBoxes rfl rfl rfl (by decide +kernel) ⟨Nat.le_of_ble_eq_true rfl, Nat.le_of_ble_eq_true rfl⟩) ⟨wd.blind, va_recv hK hP (ci := 2) (q0 := 1) rfl rfl, fun U hU hW => ⟨rfl, wd.at hP hK ha hN hU hW⟩⟩ rfl rfl hl.1 rfl (lv_room (Nat.le_of_ble_eq_true rfl)) dX4_told_60 ⟨Nat.le_of_ble_eq_true rfl, Nat.le_of_ble_eq_true rfl⟩) hS (fun r3 _ H locs h hP hS => ?_)
      have hP : va_P (dC, dI) vwCl (WC q cI cJ cZ pg ps u2.1 u2.2.1 u2.2.2.1 u2.2.2.2.1 po pt rf rl bx xl xr yl yh ms wt u2.2.2.2.2.1 u2.2.2.2.2.2.1 u2.2.2.2.2.2.2.1 u2.2.2.2.2.2.2.2 hu uu pd ro rc) H := hP
      refine W.widen (k := 1) (n := 6) (by decide) (by decide) ?_
      exact vx_ret (rt_i (u2.1, u2.2.1, u2.2.2.1, u2.2.2.2.1, u2.2.2.2.2.1, u2.2.2.2.2.2.1, u2.2.2.2.2.2.2.1, u2.2.2.2.2.2.2.2) hx hb hr hlk h (fun t ht => by rw [ht]; exact hP) hS dX4_told_63)
    · have h := h.2.2.2.1 h1
      refine lv_tableIn (tgt := 64) hx hb dX4_told_8 (fun z => h0 (Or.inl z)) (fun z => h0 (Or.inr z)) (by rw [h1]; rfl) (by decide) ?_
      refine lv_aload_n hx hb dX4_told_64 rfl (lv_at hl 0 rfl) ?_
      refine va_get (D := (dC, dI)) (ci := 4) (v := .ref (q 2)) (C := RX4) (T := TX4) (N := 4) hx hb hts iwX4_told_X4 hown hK hP 0 rfl rfl 1 (by decide) (hts _ fwX4_told_21) (fun _ h9 => h9) rfl dX4_told_65 ?_
      refine va_get (D := (dC, dI)) (ci := 0) (v := .int u2.2.1) (C := RX0) (T := TX0) (N := 9) hx hb hts iwX4_told_X0 hown hK hP 2 rfl rfl 2 (by decide) (hts _ fwX4_told_160) (fun _ h9 => h9) rfl dX4_told_68 ?_
      refine W.widen (k := 1) (n := 6) (by decide) (by decide) ?_
      exact vx_ret (rt_i (u2.1, u2.2.1, u2.2.2.1, u2.2.2.2.1, u2.2.2.2.2.1, u2.2.2.2.2.2.1, u2.2.2.2.2.2.2.1, u2.2.2.2.2.2.2.2) hx hb hr hlk h (fun t ht => by rw [ht]; exact hP) hS dX4_told_71)
    · have h := h.2.2.2.2.1 h1
      refine lv_tableIn (tgt := 72) hx hb dX4_told_8 (fun z => h0 (Or.inl z)) (fun z => h0 (Or.inr z)) (by rw [h1]; rfl) (by decide) ?_
      refine lv_aload_n hx hb dX4_told_72 rfl (lv_at hl 0 rfl) ?_
      refine va_get (D := (dC, dI)) (ci := 4) (v := .ref (q 2)) (C := RX4) (T := TX4) (N := 4) hx hb hts iwX4_told_X4 hown hK hP 0 rfl rfl 1 (by decide) (hts _ fwX4_told_21) (fun _ h9 => h9) rfl dX4_told_73 ?_
      refine va_get (D := (dC, dI)) (ci := 0) (v := .int u2.2.2.1) (C := RX0) (T := TX0) (N := 9) hx hb hts iwX4_told_X0 hown hK hP 2 rfl rfl 3 (by decide) (hts _ fwX4_told_110) (fun _ h9 => h9) rfl dX4_told_76 ?_
      refine W.widen (k := 1) (n := 6) (by decide) (by decide) ?_
      exact vx_ret (rt_i (u2.1, u2.2.1, u2.2.2.1, u2.2.2.2.1, u2.2.2.2.2.1, u2.2.2.2.2.2.1, u2.2.2.2.2.2.2.1, u2.2.2.2.2.2.2.2) hx hb hr hlk h (fun t ht => by rw [ht]; exact hP) hS dX4_told_79)
    · have h := h.2.2.2.2.2.1 h1
      refine lv_tableIn (tgt := 80) hx hb dX4_told_8 (fun z => h0 (Or.inl z)) (fun z => h0 (Or.inr z)) (by rw [h1]; rfl) (by decide) ?_
      refine lv_aload_n hx hb dX4_told_80 rfl (lv_at hl 0 rfl) ?_
      refine va_get (D := (dC, dI)) (ci := 4) (v := .ref (q 2)) (C := RX4) (T := TX4) (N := 4) hx hb hts iwX4_told_X4 hown hK hP 0 rfl rfl 1 (by decide) (hts _ fwX4_told_21) (fun _ h9 => h9) rfl dX4_told_81 ?_
      refine va_get (D := (dC, dI)) (ci := 0) (v := .int u2.2.2.2.1) (C := RX0) (T := TX0) (N := 9) hx hb hts iwX4_told_X0 hown hK hP 2 rfl rfl 4 (by decide) (hts _ fwX4_told_163) (fun _ h9 => h9) rfl dX4_told_84 ?_
      refine W.widen (k := 1) (n := 6) (by decide) (by decide) ?_
      exact vx_ret (rt_i (u2.1, u2.2.1, u2.2.2.1, u2.2.2.2.1, u2.2.2.2.2.1, u2.2.2.2.2.2.1, u2.2.2.2.2.2.2.1, u2.2.2.2.2.2.2.2) hx hb hr hlk h (fun t ht => by rw [ht]; exact hP) hS dX4_told_87)
    · have h := h.2.2.2.2.2.2 h1
      refine lv_tableIn (tgt := 88) hx hb dX4_told_8 (fun z => h0 (Or.inl z)) (fun z => h0 (Or.inr z)) (by rw [h1]; rfl) (by decide) ?_
      refine lv_aload_n hx hb dX4_told_88 rfl (lv_at hl 0 rfl) ?_
      refine va_get (D := (dC, dI)) (ci := 4) (v := .ref (q 1)) (C := RX4) (T := TX4) (N := 4) hx hb hts iwX4_told_X4 hown hK hP 0 rfl rfl 0 (by decide) (hts _ fwX4_told_12) (fun _ h9 => h9) rfl dX4_told_89 ?_
      refine va_get (D := (dC, dI)) (ci := 2) (v := .int pg) (C := RX2) (T := TX2) (N := 9) hx hb hts iwX4_told_X2 hown hK hP 1 rfl rfl 0 (by decide) (hts _ fwX4_told_48) (fun _ h9 => h9) rfl dX4_told_92 ?_
      refine W.widen (k := 1) (n := 6) (by decide) (by decide) ?_
      exact vx_ret (rt_i (u2.1, u2.2.1, u2.2.2.1, u2.2.2.2.1, u2.2.2.2.2.1, u2.2.2.2.2.2.1, u2.2.2.2.2.2.2.1, u2.2.2.2.2.2.2.2) hx hb hr hlk h (fun t ht => by rw [ht]; exact hP) hS dX4_told_95)
