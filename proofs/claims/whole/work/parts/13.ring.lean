theorem fwX3_leastOf_27 : Cond.fieldLink RX3 27 "MaskParts$Ring" "net" "LMaskParts$Net;" ∈ wsX3_leastOf := by decide +kernel
set_option maxRecDepth 20000 in
theorem iwX3_leastOf_X3 : ∀ w ∈ wsX30, w ∈ wsX3_leastOf := by decide +kernel
theorem fwX3_leastOf_34 : Cond.fieldLink RX3 34 "MaskParts$Net" "parts" "I" ∈ wsX3_leastOf := by decide +kernel
set_option maxRecDepth 20000 in
theorem iwX3_leastOf_X0 : ∀ w ∈ wsX00, w ∈ wsX3_leastOf := by decide +kernel
theorem nwX3_leastOf_i : Cond.initialized RX4 ∈ wsX3_leastOf := by decide +kernel
theorem nwX3_leastOf_s : Cond.static yX4_bit ∈ wsX3_leastOf := by decide +kernel
abbrev QX3_leastOf (dC : Nat → ClassId) (dI : Nat → Nat → Nat) (cI cJ cZ : ClassId) (q : Nat → Nat) (sz : Nat) (pg : Int32) (ps : Int32) (nf : Int32) (np : Int32) (nq : Int32) (ns : Int32) (po : Int32) (pt : Int32) (rf : Int32) (rl : Int32) (bx : (Nat → Int32)) (xl : (Nat → Int32)) (xr : (Nat → Int32)) (yl : (Nat → Int32)) (yh : (Nat → Int32)) (ms : (Nat → Int32)) (wt : (Nat → Int32)) (pf : (Nat → Int32)) (nr : (Nat → Int64)) (sl : (Nat → Int32)) (cl : (Nat → Int32)) (hu : (Nat → Int32)) (uu : (Nat → Int32)) (pd : (Nat → Int64)) (ro : (Nat → Int32)) (rc : (Nat → Int64)) (K : Int32 → Prop) : Array Value → State → Outcome → State → Prop := va_Qi (fun (r : Int32) (u : Unit) => K r) (fun (u : Unit) t => va_P (dC, dI) vwCl (WC q cI cJ cZ pg ps nf np nq ns po pt rf rl bx xl xr yl yh ms wt pf nr sl cl hu uu pd ro rc) t.heap) (AF q 21 sz)
def lpX3_leastOf_2 (np : Int32) (K : Int32 → Prop) (k32 : Int32 → Prop) : Nat → Int64 → Int32 → Prop
  | 0, _, _ => False
  | n + 1, v1, v3 => (((np - 1) ≤ v3 → k32 v3) ∧ (¬ ((np - 1) ≤ v3) → (wX4_bit v3 (fun r2 : Int64 => ((¬ (lg_cmp ((v1 &&& r2)) 0) = 0 → k32 v3) ∧ ((lg_cmp ((v1 &&& r2)) 0) = 0 → (∀ i5 : Int32, i5 = v3 + 1 → lpX3_leastOf_2 np K k32 n v1 i5)))))))
set_option maxHeartbeats 4000000 in
set_option maxRecDepth 100000 in
theorem mX3_leastOf_2 {p : Program} {l : Launch} {e : Env} {s : State} {m : MethodId} {av : Array Value} {below : List Frame} {meth : Method} {c : Code} {dC : Nat → ClassId} {dI : Nat → Nat → Nat} {cI cJ cZ : ClassId} {q : Nat → Nat} {K : Int32 → Prop} {k32 : Int32 → Prop} (pg : Int32) (ps : Int32) (nf : Int32) (np : Int32) (nq : Int32) (ns : Int32) (po : Int32) (pt : Int32) (rf : Int32) (rl : Int32) (bx : (Nat → Int32)) (xl : (Nat → Int32)) (xr : (Nat → Int32)) (yl : (Nat → Int32)) (yh : (Nat → Int32)) (ms : (Nat → Int32)) (wt : (Nat → Int32)) (pf : (Nat → Int32)) (nr : (Nat → Int64)) (sl : (Nat → Int32)) (cl : (Nat → Int32)) (hu : (Nat → Int32)) (uu : (Nat → Int32)) (pd : (Nat → Int64)) (ro : (Nat → Int32)) (rc : (Nat → Int64)) (C : CX p s m av meth c cX3_leastOf 4 (some .int) RX3 wsX3_leastOf) (hK : va_K (dC, dI) vwCl (TY cI cJ cZ) s) (ha : apart q 21) (hN : NX s) (hk32 : ∀ (v3 : Int32) (ls : Array Slot) (H : Heap) (locs : List Loc), k32 v3 → lv_has ls 4 [(3, .int v3)] → va_P (dC, dI) vwCl (WC q cI cJ cZ pg ps nf np nq ns po pt rf rl bx xl xr yl yh ms wt pf nr sl cl hu uu pd ro rc) H → va_S (AF q 21 s.heap.size) s.heap H locs → W p l e { frames := 1, cells := 0, slots := 0, locals := 20 } s m av below meth c H locs 0 0 (MQ below (QX3_leastOf dC dI cI cJ cZ q s.heap.size pg ps nf np nq ns po pt rf rl bx xl xr yl yh ms wt pf nr sl cl hu uu pd ro rc K) av s 0 0 (AF q 21 s.heap.size)) (F0 m 32 ls [])) : ∀ (n : Nat) (v1 : Int64) (v3 : Int32) (ls : Array Slot) (H : Heap) (locs : List Loc), lpX3_leastOf_2 np K k32 n v1 v3 → lv_has ls 4 [(0, .ref (q 4)), (1, .long v1), (3, .int v3)] → va_P (dC, dI) vwCl (WC q cI cJ cZ pg ps nf np nq ns po pt rf rl bx xl xr yl yh ms wt pf nr sl cl hu uu pd ro rc) H → va_S (AF q 21 s.heap.size) s.heap H locs → W p l e { frames := 1, cells := 0, slots := 0, locals := 20 } s m av below meth c H locs 0 0 (MQ below (QX3_leastOf dC dI cI cJ cZ q s.heap.size pg ps nf np nq ns po pt rf rl bx xl xr yl yh ms wt pf nr sl cl hu uu pd ro rc K) av s 0 0 (AF q 21 s.heap.size)) (F0 m 2 ls []) := by
  obtain ⟨hx, hb, hr, hml, hown, hts, hlk⟩ := id C
  intro n
  induction n with
  | zero =>
    intro v1 v3 ls H locs h
    exact h.elim
  | succ n ih =>
    intro v1 v3 ls H locs h hl hP hS
    rw [lpX3_leastOf_2.eq_2] at h
    refine lv_iload_n hx hb dX3_leastOf_2 rfl (lv_at hl 2 rfl) ?_
    refine lv_aload_n hx hb dX3_leastOf_3 rfl (lv_at hl 0 rfl) ?_
    refine va_get (D := (dC, dI)) (ci := 3) (v := .ref (q 2)) (C := RX3) (T := TX3) (N := 5) hx hb hts iwX3_leastOf_X3 hown hK hP 4 rfl rfl 0 (by decide) (hts _ fwX3_leastOf_27) (fun _ h9 => h9) rfl dX3_leastOf_4 ?_
    refine va_get (D := (dC, dI)) (ci := 0) (v := .int np) (C := RX0) (T := TX0) (N := 9) hx hb hts iwX3_leastOf_X0 hown hK hP 2 rfl rfl 2 (by decide) (hts _ fwX3_leastOf_34) (fun _ h9 => h9) rfl dX3_leastOf_7 ?_
    refine lv_iconst (v := 1) hx hb dX3_leastOf_10 (by decide) ?_
    refine lv_isub hx hb dX3_leastOf_11 ?_
    refine lv_icmp_ge (tgt := 32) hx hb dX3_leastOf_12 (by decide) (fun c1 => ?_) (fun c1 => ?_)
    · have h := h.1 c1
      exact hk32 v3 ls H locs h (lv_sub hl [2] rfl) hP hS
    · have h := h.2 c1
      refine lv_lload_n hx hb dX3_leastOf_15 rfl (lv_at hl 1 rfl) ?_
      refine lv_iload_n hx hb dX3_leastOf_16 rfl (lv_at hl 2 rfl) ?_
      refine cl_pl (va_runSN (host := "MaskParts") (As := [.int v3]) (rest := [.long v1]) ⟨hx, hb, hml, hown, hts⟩ (ktX4_bit l H.size v3 h) ⟨va_cnB 1 hts gX3_leastOf_X4_bit_n46 rfl rfl rfl hN.2.2 (hts _ nwX3_leastOf_i) (by decide +kernel) ⟨Nat.le_of_ble_eq_true rfl, Nat.le_of_ble_eq_true rfl⟩, hts _ nwX3_leastOf_s, trivial⟩ ⟨pz.blind, fun U hU _ => ⟨rfl, pz.at hU⟩⟩ rfl rfl hl.1 rfl (lv_room (Nat.le_of_ble_eq_true rfl)) dX3_leastOf_17 ⟨Nat.le_of_ble_eq_true rfl, Nat.le_of_ble_eq_true rfl⟩) hP hS (fun r2 _ H locs h hP hS => ?_)
      refine lv_land hx hb dX3_leastOf_20 ?_
      refine lv_lconst (v := 0) hx hb dX3_leastOf_21 (by decide) ?_
      refine W.lcmp hx hb dX3_leastOf_22 ?_
      refine lv_if_ne (tgt := 32) hx hb dX3_leastOf_23 (by decide) (fun c4 => ?_) (fun c4 => ?_)
      · have h := h.1 c4
        exact hk32 v3 ls H locs h (lv_sub hl [2] rfl) hP hS
      · have h := h.2 c4
        obtain ⟨i5, ei5⟩ : ∃ y : Int32, y = v3 + 1 := ⟨_, rfl⟩
        refine lv_iinc (v := i5) (lv' := [(3, .int i5), (0, .ref (q 4)), (1, .long v1)]) hx hb dX3_leastOf_26 hl (k := 2) rfl (by rw [ei5]; rfl) (by decide) rfl (fun ls hl => ?_)
        have h := h i5 ei5
        refine lv_goto (tgt := 2) hx hb dX3_leastOf_29 (by decide) ?_
        exact ih v1 i5 ls H locs h (lv_sub hl [1, 2, 0] rfl) hP hS
def wX3_leastOf (np : Int32) (v1 : Int64) (K : Int32 → Prop) : Prop := (∃ z2, lpX3_leastOf_2 np K (fun (v3 : Int32) => K v3 ) z2 v1 0)
set_option maxHeartbeats 4000000 in
set_option maxRecDepth 100000 in
theorem ktX3_leastOf (l : Launch) (dC : Nat → ClassId) (dI : Nat → Nat → Nat) (q : Nat → Nat) (cI cJ cZ : ClassId) (sz : Nat) (pg : Int32) (ps : Int32) (nf : Int32) (np : Int32) (nq : Int32) (ns : Int32) (po : Int32) (pt : Int32) (rf : Int32) (rl : Int32) (bx : (Nat → Int32)) (xl : (Nat → Int32)) (xr : (Nat → Int32)) (yl : (Nat → Int32)) (yh : (Nat → Int32)) (ms : (Nat → Int32)) (wt : (Nat → Int32)) (pf : (Nat → Int32)) (nr : (Nat → Int64)) (sl : (Nat → Int32)) (cl : (Nat → Int32)) (hu : (Nat → Int32)) (uu : (Nat → Int32)) (pd : (Nat → Int64)) (ro : (Nat → Int32)) (rc : (Nat → Int64)) (v1 : Int64) {K : Int32 → Prop} (h : wX3_leastOf np v1 K) : Met l yX3_leastOf wsX3_leastOf { frames := 1, cells := 0, slots := 0, locals := 20 } (va_Pc [.ref (q 4), .long v1] (wd dC dI cI cJ cZ q 21 sz (WC q cI cJ cZ pg ps nf np nq ns po pt rf rl bx xl xr yl yh ms wt pf nr sl cl hu uu pd ro rc))) (QX3_leastOf dC dI cI cJ cZ q sz pg ps nf np nq ns po pt rf rl bx xl xr yl yh ms wt pf nr sl cl hu uu pd ro rc K) 0 0 (AF q 21 sz) := by
  refine met_of [.ref (q 4), .long v1] (by decide +kernel) rfl (Nat.le_of_ble_eq_true rfl) ?_
  intro p e s m below meth c ls hsz C hK ha hN hl hP
  subst hsz
  obtain ⟨hx, hb, hr, hml, hown, hts, hlk⟩ := id C
  have hl : lv_has ls 4 [(0, .ref (q 4)), (1, .long v1)] := hl
  refine w_go (Pw := fun H => va_P (dC, dI) vwCl (WC q cI cJ cZ pg ps nf np nq ns po pt rf rl bx xl xr yl yh ms wt pf nr sl cl hu uu pd ro rc) H) (A := AF q 21 s.heap.size) (fun H locs hP hS => ?_) hP
  unfold wX3_leastOf at h
  refine lv_iconst (v := 0) hx hb dX3_leastOf_0 (by decide) ?_
  refine lv_istore_n (lv' := [(3, .int 0), (0, .ref (q 4)), (1, .long v1)]) hx hb dX3_leastOf_1 rfl hl (by decide) rfl (fun ls hl => ?_)
  obtain ⟨n9, h⟩ := h
  exact mX3_leastOf_2 pg ps nf np nq ns po pt rf rl bx xl xr yl yh ms wt pf nr sl cl hu uu pd ro rc C hK ha hN (fun v3 ls H locs h hl hP hS => by
      refine lv_iload_n hx hb dX3_leastOf_32 rfl (lv_at hl 0 rfl) ?_
      exact rt_i () hx hb hr hlk h (fun t ht => by rw [ht]; exact hP) hS dX3_leastOf_33) n9 v1 0 ls H locs h (lv_sub hl [1, 2, 0] rfl) hP hS

theorem fwX3_oddWalkFrom_23 : Cond.fieldLink RX3 23 "MaskParts$Ring" "reached" "[J" ∈ wsX3_oddWalkFrom := by decide +kernel
set_option maxRecDepth 20000 in
theorem iwX3_oddWalkFrom_X3 : ∀ w ∈ wsX30, w ∈ wsX3_oddWalkFrom := by decide +kernel
theorem fwX3_oddWalkFrom_27 : Cond.fieldLink RX3 27 "MaskParts$Ring" "net" "LMaskParts$Net;" ∈ wsX3_oddWalkFrom := by decide +kernel
theorem cwX3_oddWalkFrom_54 : Cond.constantLong RX3 54 (-1) ∈ wsX3_oddWalkFrom := by decide +kernel
theorem nwX3_oddWalkFrom_i : Cond.initialized RX4 ∈ wsX3_oddWalkFrom := by decide +kernel
theorem nwX3_oddWalkFrom_s : Cond.static yX4_bit ∈ wsX3_oddWalkFrom := by decide +kernel
abbrev QX3_oddWalkFrom (dC : Nat → ClassId) (dI : Nat → Nat → Nat) (cI cJ cZ : ClassId) (q : Nat → Nat) (sz : Nat) (pg : Int32) (ps : Int32) (nf : Int32) (np : Int32) (nq : Int32) (ns : Int32) (po : Int32) (pt : Int32) (rf : Int32) (rl : Int32) (bx : (Nat → Int32)) (xl : (Nat → Int32)) (xr : (Nat → Int32)) (yl : (Nat → Int32)) (yh : (Nat → Int32)) (ms : (Nat → Int32)) (wt : (Nat → Int32)) (pf : (Nat → Int32)) (nr : (Nat → Int64)) (sl : (Nat → Int32)) (cl : (Nat → Int32)) (hu : (Nat → Int32)) (uu : (Nat → Int32)) (pd : (Nat → Int64)) (ro : (Nat → Int32)) (K : Int32 → (Nat → Int64) → Prop) : Array Value → State → Outcome → State → Prop := va_Qi (fun (r : Int32) (u : (Nat → Int64)) => K r u) (fun (u : (Nat → Int64)) t => va_P (dC, dI) vwCl (WC q cI cJ cZ pg ps nf np nq ns po pt rf rl bx xl xr yl yh ms wt pf nr sl cl hu uu pd ro u) t.heap) (AF q 21 sz)
def bkX3_oddWalkFrom_125 (np : Int32) (nr : (Nat → Int64)) (K : Int32 → (Nat → Int64) → Prop) (k21 : (Nat → Int64) → Int32 → Int64 → Int64 → Int32 → Prop) (rc : (Nat → Int64)) (v1 : Int32) (v2 : Int64) (v4 : Int64) (v6 : Int32) : Prop := (∀ i1 : Int32, i1 = v6 + 1 → k21 rc v1 v2 v4 i1)
set_option maxHeartbeats 4000000 in
set_option maxRecDepth 100000 in
theorem mX3_oddWalkFrom_125 {p : Program} {l : Launch} {e : Env} {s : State} {m : MethodId} {av : Array Value} {below : List Frame} {meth : Method} {c : Code} {dC : Nat → ClassId} {dI : Nat → Nat → Nat} {cI cJ cZ : ClassId} {q : Nat → Nat} {K : Int32 → (Nat → Int64) → Prop} {k21 : (Nat → Int64) → Int32 → Int64 → Int64 → Int32 → Prop} (pg : Int32) (ps : Int32) (nf : Int32) (np : Int32) (nq : Int32) (ns : Int32) (po : Int32) (pt : Int32) (rf : Int32) (rl : Int32) (bx : (Nat → Int32)) (xl : (Nat → Int32)) (xr : (Nat → Int32)) (yl : (Nat → Int32)) (yh : (Nat → Int32)) (ms : (Nat → Int32)) (wt : (Nat → Int32)) (pf : (Nat → Int32)) (nr : (Nat → Int64)) (sl : (Nat → Int32)) (cl : (Nat → Int32)) (hu : (Nat → Int32)) (uu : (Nat → Int32)) (pd : (Nat → Int64)) (ro : (Nat → Int32)) (C : CX p s m av meth c cX3_oddWalkFrom 9 (some .int) RX3 wsX3_oddWalkFrom) (hK : va_K (dC, dI) vwCl (TY cI cJ cZ) s) (ha : apart q 21) (hN : NX s) (hk21 : ∀ (rc : (Nat → Int64)) (v1 : Int32) (v2 : Int64) (v4 : Int64) (v6 : Int32) (ls : Array Slot) (H : Heap) (locs : List Loc), k21 rc v1 v2 v4 v6 → lv_has ls 9 [(0, .ref (q 4)), (1, .int v1), (2, .long v2), (4, .long v4), (6, .int v6)] → va_P (dC, dI) vwCl (WC q cI cJ cZ pg ps nf np nq ns po pt rf rl bx xl xr yl yh ms wt pf nr sl cl hu uu pd ro rc) H → va_S (AF q 21 s.heap.size) s.heap H locs → W p l e { frames := 2, cells := 0, slots := 0, locals := 45 } s m av below meth c H locs 0 0 (MQ below (QX3_oddWalkFrom dC dI cI cJ cZ q s.heap.size pg ps nf np nq ns po pt rf rl bx xl xr yl yh ms wt pf nr sl cl hu uu pd ro K) av s 0 0 (AF q 21 s.heap.size)) (F0 m 21 ls [])) : ∀ (rc : (Nat → Int64)) (v1 : Int32) (v2 : Int64) (v4 : Int64) (v6 : Int32) (ls : Array Slot) (H : Heap) (locs : List Loc), bkX3_oddWalkFrom_125 np nr K k21 rc v1 v2 v4 v6 → lv_has ls 9 [(0, .ref (q 4)), (1, .int v1), (2, .long v2), (4, .long v4), (6, .int v6)] → va_P (dC, dI) vwCl (WC q cI cJ cZ pg ps nf np nq ns po pt rf rl bx xl xr yl yh ms wt pf nr sl cl hu uu pd ro rc) H → va_S (AF q 21 s.heap.size) s.heap H locs → W p l e { frames := 2, cells := 0, slots := 0, locals := 45 } s m av below meth c H locs 0 0 (MQ below (QX3_oddWalkFrom dC dI cI cJ cZ q s.heap.size pg ps nf np nq ns po pt rf rl bx xl xr yl yh ms wt pf nr sl cl hu uu pd ro K) av s 0 0 (AF q 21 s.heap.size)) (F0 m 125 ls []) := by
  obtain ⟨hx, hb, hr, hml, hown, hts, hlk⟩ := id C
  intro rc v1 v2 v4 v6 ls H locs h hl hP hS
  unfold bkX3_oddWalkFrom_125 at h
  obtain ⟨i1, ei1⟩ : ∃ y : Int32, y = v6 + 1 := ⟨_, rfl⟩
  refine lv_iinc (v := i1) (lv' := [(6, .int i1), (0, .ref (q 4)), (1, .int v1), (2, .long v2), (4, .long v4)]) hx hb dX3_oddWalkFrom_125 hl (k := 4) rfl (by rw [ei1]; rfl) (by decide) rfl (fun ls hl => ?_)
  have h := h i1 ei1
  refine lv_goto (tgt := 21) hx hb dX3_oddWalkFrom_128 (by decide) ?_
  exact hk21 rc v1 v2 v4 i1 ls H locs h (lv_sub hl [1, 2, 3, 4, 0] rfl) hP hS
def lpX3_oddWalkFrom_21 (np : Int32) (nr : (Nat → Int64)) (K : Int32 → (Nat → Int64) → Prop) (k99 : (Nat → Int64) → Int32 → Prop) (k131 : (Nat → Int64) → Prop) : Nat → (Nat → Int64) → Int32 → Int64 → Int64 → Int32 → Prop
  | 0, _, _, _, _, _ => False
  | n + 1, rc, v1, v2, v4, v6 => ((80 < v6 → k131 rc) ∧ (¬ (80 < v6) → (vp_in ((v6 - 1)) 81 ∧ (((lg_cmp ((rc ((v6 - 1) : Int32).toNatClampNeg)) 0) = 0 → k131 rc) ∧ (¬ ((lg_cmp ((rc ((v6 - 1) : Int32).toNatClampNeg)) 0) = 0) → (vp_in ((v6 - 1)) 81 ∧ (wX0_nearTo np nr ((rc ((v6 - 1) : Int32).toNatClampNeg)) (fun (r6 : Int64) => (((v6 &&& 1) = 0 → (vp_in v6 81 ∧ (∀ f10 : (Nat → Int64), f10 = vp_updL rc v6.toNatClampNeg ((r6 &&& (v4 ^^^ (-1)))) → (∀ j11 : Int64, j11 = (v4 ||| r6) → bkX3_oddWalkFrom_125 np nr K (fun rc v1 v2 v4 v6 => lpX3_oddWalkFrom_21 np nr K k99 k131 n rc v1 v2 v4 v6) f10 v1 v2 j11 v6)))) ∧ (¬ ((v6 &&& 1) = 0) → (vp_in v6 81 ∧ (∀ f13 : (Nat → Int64), f13 = vp_updL rc v6.toNatClampNeg ((r6 &&& (v2 ^^^ (-1)))) → (∀ j14 : Int64, j14 = (v2 ||| r6) → (wX4_bit v1 (fun r15 : Int64 => (((lg_cmp ((r6 &&& r15)) 0) = 0 → bkX3_oddWalkFrom_125 np nr K (fun rc v1 v2 v4 v6 => lpX3_oddWalkFrom_21 np nr K k99 k131 n rc v1 v2 v4 v6) f13 v1 j14 v4 v6) ∧ (¬ ((lg_cmp ((r6 &&& r15)) 0) = 0) → k99 f13 v6)))))))))))))))))
set_option maxHeartbeats 4000000 in
set_option maxRecDepth 100000 in
theorem mX3_oddWalkFrom_21 {p : Program} {l : Launch} {e : Env} {s : State} {m : MethodId} {av : Array Value} {below : List Frame} {meth : Method} {c : Code} {dC : Nat → ClassId} {dI : Nat → Nat → Nat} {cI cJ cZ : ClassId} {q : Nat → Nat} {K : Int32 → (Nat → Int64) → Prop} {k99 : (Nat → Int64) → Int32 → Prop} {k131 : (Nat → Int64) → Prop} (pg : Int32) (ps : Int32) (nf : Int32) (np : Int32) (nq : Int32) (ns : Int32) (po : Int32) (pt : Int32) (rf : Int32) (rl : Int32) (bx : (Nat → Int32)) (xl : (Nat → Int32)) (xr : (Nat → Int32)) (yl : (Nat → Int32)) (yh : (Nat → Int32)) (ms : (Nat → Int32)) (wt : (Nat → Int32)) (pf : (Nat → Int32)) (nr : (Nat → Int64)) (sl : (Nat → Int32)) (cl : (Nat → Int32)) (hu : (Nat → Int32)) (uu : (Nat → Int32)) (pd : (Nat → Int64)) (ro : (Nat → Int32)) (C : CX p s m av meth c cX3_oddWalkFrom 9 (some .int) RX3 wsX3_oddWalkFrom) (hK : va_K (dC, dI) vwCl (TY cI cJ cZ) s) (ha : apart q 21) (hN : NX s) (hk99 : ∀ (rc : (Nat → Int64)) (v6 : Int32) (ls : Array Slot) (H : Heap) (locs : List Loc), k99 rc v6 → lv_has ls 9 [(6, .int v6)] → va_P (dC, dI) vwCl (WC q cI cJ cZ pg ps nf np nq ns po pt rf rl bx xl xr yl yh ms wt pf nr sl cl hu uu pd ro rc) H → va_S (AF q 21 s.heap.size) s.heap H locs → W p l e { frames := 2, cells := 0, slots := 0, locals := 45 } s m av below meth c H locs 0 0 (MQ below (QX3_oddWalkFrom dC dI cI cJ cZ q s.heap.size pg ps nf np nq ns po pt rf rl bx xl xr yl yh ms wt pf nr sl cl hu uu pd ro K) av s 0 0 (AF q 21 s.heap.size)) (F0 m 99 ls [])) (hk131 : ∀ (rc : (Nat → Int64)) (ls : Array Slot) (H : Heap) (locs : List Loc), k131 rc → lv_has ls 9 [] → va_P (dC, dI) vwCl (WC q cI cJ cZ pg ps nf np nq ns po pt rf rl bx xl xr yl yh ms wt pf nr sl cl hu uu pd ro rc) H → va_S (AF q 21 s.heap.size) s.heap H locs → W p l e { frames := 2, cells := 0, slots := 0, locals := 45 } s m av below meth c H locs 0 0 (MQ below (QX3_oddWalkFrom dC dI cI cJ cZ q s.heap.size pg ps nf np nq ns po pt rf rl bx xl xr yl yh ms wt pf nr sl cl hu uu pd ro K) av s 0 0 (AF q 21 s.heap.size)) (F0 m 131 ls [])) : ∀ (n : Nat) (rc : (Nat → Int64)) (v1 : Int32) (v2 : Int64) (v4 : Int64) (v6 : Int32) (ls : Array Slot) (H : Heap) (locs : List Loc), lpX3_oddWalkFrom_21 np nr K k99 k131 n rc v1 v2 v4 v6 → lv_has ls 9 [(0, .ref (q 4)), (1, .int v1), (2, .long v2), (4, .long v4), (6, .int v6)] → va_P (dC, dI) vwCl (WC q cI cJ cZ pg ps nf np nq ns po pt rf rl bx xl xr yl yh ms wt pf nr sl cl hu uu pd ro rc) H → va_S (AF q 21 s.heap.size) s.heap H locs → W p l e { frames := 2, cells := 0, slots := 0, locals := 45 } s m av below meth c H locs 0 0 (MQ below (QX3_oddWalkFrom dC dI cI cJ cZ q s.heap.size pg ps nf np nq ns po pt rf rl bx xl xr yl yh ms wt pf nr sl cl hu uu pd ro K) av s 0 0 (AF q 21 s.heap.size)) (F0 m 21 ls []) := by
  obtain ⟨hx, hb, hr, hml, hown, hts, hlk⟩ := id C
  intro n
  induction n with
  | zero =>
    intro rc v1 v2 v4 v6 ls H locs h
    exact h.elim
  | succ n ih =>
    intro rc v1 v2 v4 v6 ls H locs h hl hP hS
    rw [lpX3_oddWalkFrom_21.eq_2] at h
    refine lv_iload hx hb dX3_oddWalkFrom_21 (lv_at hl 4 rfl) ?_
    refine lv_bipush (v := 80) hx hb dX3_oddWalkFrom_23 (by decide) ?_
    refine lv_icmp_gt (tgt := 131) hx hb dX3_oddWalkFrom_25 (by decide) (fun c2 => ?_) (fun c2 => ?_)
    · have h := h.1 c2
      exact hk131 rc ls H locs h (lv_sub hl [] rfl) hP hS
    · have h := h.2 c2
      refine lv_aload_n hx hb dX3_oddWalkFrom_28 rfl (lv_at hl 0 rfl) ?_
      refine va_get (D := (dC, dI)) (ci := 3) (v := .ref (q 20)) (C := RX3) (T := TX3) (N := 5) hx hb hts iwX3_oddWalkFrom_X3 hown hK hP 4 rfl rfl 4 (by decide) (hts _ fwX3_oddWalkFrom_23) (fun _ h9 => h9) rfl dX3_oddWalkFrom_29 ?_
      refine lv_iload hx hb dX3_oddWalkFrom_32 (lv_at hl 4 rfl) ?_
      refine lv_iconst (v := 1) hx hb dX3_oddWalkFrom_34 (by decide) ?_
      refine lv_isub hx hb dX3_oddWalkFrom_35 ?_
      obtain ⟨b3, h⟩ := h
      refine va_lald (D := (dC, dI)) hx hb hK hP 20 1 rfl rfl b3 dX3_oddWalkFrom_36 ?_
      refine lv_lconst (v := 0) hx hb dX3_oddWalkFrom_37 (by decide) ?_
      refine W.lcmp hx hb dX3_oddWalkFrom_38 ?_
      refine lv_if_eq (tgt := 131) hx hb dX3_oddWalkFrom_39 (by decide) (fun c4 => ?_) (fun c4 => ?_)
      · have h := h.1 c4
        exact hk131 rc ls H locs h (lv_sub hl [] rfl) hP hS
      · have h := h.2 c4
        refine lv_aload_n hx hb dX3_oddWalkFrom_42 rfl (lv_at hl 0 rfl) ?_
        refine va_get (D := (dC, dI)) (ci := 3) (v := .ref (q 2)) (C := RX3) (T := TX3) (N := 5) hx hb hts iwX3_oddWalkFrom_X3 hown hK hP 4 rfl rfl 0 (by decide) (hts _ fwX3_oddWalkFrom_27) (fun _ h9 => h9) rfl dX3_oddWalkFrom_43 ?_
        refine lv_aload_n hx hb dX3_oddWalkFrom_46 rfl (lv_at hl 0 rfl) ?_
        refine va_get (D := (dC, dI)) (ci := 3) (v := .ref (q 20)) (C := RX3) (T := TX3) (N := 5) hx hb hts iwX3_oddWalkFrom_X3 hown hK hP 4 rfl rfl 4 (by decide) (hts _ fwX3_oddWalkFrom_23) (fun _ h9 => h9) rfl dX3_oddWalkFrom_47 ?_
        refine lv_iload hx hb dX3_oddWalkFrom_50 (lv_at hl 4 rfl) ?_
        refine lv_iconst (v := 1) hx hb dX3_oddWalkFrom_52 (by decide) ?_
        refine lv_isub hx hb dX3_oddWalkFrom_53 ?_
        obtain ⟨b5, h⟩ := h
        refine va_lald (D := (dC, dI)) hx hb hK hP 20 1 rfl rfl b5 dX3_oddWalkFrom_54 ?_
        refine cl_l (va_runV (As := [.long ((rc ((v6 - 1) : Int32).toNatClampNeg))]) (rest := []) ⟨hx, hb, hml, hown, hts⟩ (ktX0_nearTo l dC dI q cI cJ cZ H.size pg ps nf np nq ns po pt rf rl bx xl xr yl yh ms wt pf nr sl cl hu uu pd ro rc ((rc ((v6 - 1) : Int32).toNatClampNeg)) h) (cwV 1 hts gX3_oddWalkFrom_X0_nearTo rfl rfl rfl (by decide +kernel) ⟨Nat.le_of_ble_eq_true rfl, Nat.le_of_ble_eq_true rfl⟩) ⟨wd.blind, va_recv hK hP (ci := 0) (q0 := 2) rfl rfl, fun U hU hW => ⟨rfl, wd.at hP hK ha hN hU hW⟩⟩ rfl rfl hl.1 rfl (lv_room (Nat.le_of_ble_eq_true rfl)) dX3_oddWalkFrom_55 ⟨Nat.le_of_ble_eq_true rfl, Nat.le_of_ble_eq_true rfl⟩) hS (fun r6 _ H locs h hP hS => ?_)
        have hP : va_P (dC, dI) vwCl (WC q cI cJ cZ pg ps nf np nq ns po pt rf rl bx xl xr yl yh ms wt pf nr sl cl hu uu pd ro rc) H := hP
        refine lv_lstore (lv' := [(7, .long r6), (0, .ref (q 4)), (1, .int v1), (2, .long v2), (4, .long v4), (6, .int v6)]) hx hb dX3_oddWalkFrom_58 hl (by decide) rfl (fun ls hl => ?_)
        refine lv_iload hx hb dX3_oddWalkFrom_60 (lv_at hl 5 rfl) ?_
        refine lv_iconst (v := 1) hx hb dX3_oddWalkFrom_62 (by decide) ?_
        refine lv_iand hx hb dX3_oddWalkFrom_63 ?_
        refine lv_if_eq (tgt := 102) hx hb dX3_oddWalkFrom_64 (by decide) (fun c8 => ?_) (fun c8 => ?_)
        · have h := h.1 c8
          refine lv_aload_n hx hb dX3_oddWalkFrom_102 rfl (lv_at hl 1 rfl) ?_
          refine va_get (D := (dC, dI)) (ci := 3) (v := .ref (q 20)) (C := RX3) (T := TX3) (N := 5) hx hb hts iwX3_oddWalkFrom_X3 hown hK hP 4 rfl rfl 4 (by decide) (hts _ fwX3_oddWalkFrom_23) (fun _ h9 => h9) rfl dX3_oddWalkFrom_103 ?_
          refine lv_iload hx hb dX3_oddWalkFrom_106 (lv_at hl 5 rfl) ?_
          refine lv_lload hx hb dX3_oddWalkFrom_108 (lv_at hl 0 rfl) ?_
          refine lv_lload hx hb dX3_oddWalkFrom_110 (lv_at hl 4 rfl) ?_
          refine lv_ldc2 (v := (-1)) hx hb hown (hts _ cwX3_oddWalkFrom_54) dX3_oddWalkFrom_112 ?_
          refine lv_lxor hx hb dX3_oddWalkFrom_115 ?_
          refine lv_land hx hb dX3_oddWalkFrom_116 ?_
          obtain ⟨b9, h⟩ := h
          refine va_last (D := (dC, dI)) hx hb hK hP (d_WC ha) hS 20 1 rfl rfl b9 dX3_oddWalkFrom_117 (fun H locs hP _ hS => ?_)
          obtain ⟨f10, ef10⟩ : ∃ z : (Nat → Int64), z = vp_updL rc v6.toNatClampNeg ((r6 &&& (v4 ^^^ (-1)))) := ⟨_, rfl⟩
          have h := h f10 ef10
          have hP : va_P (dC, dI) vwCl (WC q cI cJ cZ pg ps nf np nq ns po pt rf rl bx xl xr yl yh ms wt pf nr sl cl hu uu pd ro f10) H := by rw [ef10]; exact hP
          refine lv_lload hx hb dX3_oddWalkFrom_118 (lv_at hl 4 rfl) ?_
          refine lv_lload hx hb dX3_oddWalkFrom_120 (lv_at hl 0 rfl) ?_
          refine lv_lor hx hb dX3_oddWalkFrom_122 ?_
          refine lv_topl (fun j11 ej11 => ?_)
          have h := h j11 ej11
          refine lv_lstore (lv' := [(4, .long j11), (7, .long r6), (0, .ref (q 4)), (1, .int v1), (2, .long v2), (6, .int v6)]) hx hb dX3_oddWalkFrom_123 hl (by decide) rfl (fun ls hl => ?_)
          exact mX3_oddWalkFrom_125 pg ps nf np nq ns po pt rf rl bx xl xr yl yh ms wt pf nr sl cl hu uu pd ro C hK ha hN (fun rc v1 v2 v4 v6 ls H locs h hl hP hS => ih rc v1 v2 v4 v6 ls H locs h hl hP hS) f10 v1 v2 j11 v6 ls H locs h (lv_sub hl [2, 3, 4, 0, 5] rfl) hP hS
        · have h := h.2 c8
          refine lv_aload_n hx hb dX3_oddWalkFrom_67 rfl (lv_at hl 1 rfl) ?_
          refine va_get (D := (dC, dI)) (ci := 3) (v := .ref (q 20)) (C := RX3) (T := TX3) (N := 5) hx hb hts iwX3_oddWalkFrom_X3 hown hK hP 4 rfl rfl 4 (by decide) (hts _ fwX3_oddWalkFrom_23) (fun _ h9 => h9) rfl dX3_oddWalkFrom_68 ?_
          refine lv_iload hx hb dX3_oddWalkFrom_71 (lv_at hl 5 rfl) ?_
          refine lv_lload hx hb dX3_oddWalkFrom_73 (lv_at hl 0 rfl) ?_
          refine lv_lload_n hx hb dX3_oddWalkFrom_75 rfl (lv_at hl 3 rfl) ?_
          refine lv_ldc2 (v := (-1)) hx hb hown (hts _ cwX3_oddWalkFrom_54) dX3_oddWalkFrom_76 ?_
          refine lv_lxor hx hb dX3_oddWalkFrom_79 ?_
          refine lv_land hx hb dX3_oddWalkFrom_80 ?_
          obtain ⟨b12, h⟩ := h
          refine va_last (D := (dC, dI)) hx hb hK hP (d_WC ha) hS 20 1 rfl rfl b12 dX3_oddWalkFrom_81 (fun H locs hP _ hS => ?_)
          obtain ⟨f13, ef13⟩ : ∃ z : (Nat → Int64), z = vp_updL rc v6.toNatClampNeg ((r6 &&& (v2 ^^^ (-1)))) := ⟨_, rfl⟩
          have h := h f13 ef13
          have hP : va_P (dC, dI) vwCl (WC q cI cJ cZ pg ps nf np nq ns po pt rf rl bx xl xr yl yh ms wt pf nr sl cl hu uu pd ro f13) H := by rw [ef13]; exact hP
          refine lv_lload_n hx hb dX3_oddWalkFrom_82 rfl (lv_at hl 3 rfl) ?_
          refine lv_lload hx hb dX3_oddWalkFrom_83 (lv_at hl 0 rfl) ?_
          refine lv_lor hx hb dX3_oddWalkFrom_85 ?_
          refine lv_topl (fun j14 ej14 => ?_)
          have h := h j14 ej14
          refine lv_lstore_n (lv' := [(2, .long j14), (7, .long r6), (0, .ref (q 4)), (1, .int v1), (4, .long v4), (6, .int v6)]) hx hb dX3_oddWalkFrom_86 rfl hl (by decide) rfl (fun ls hl => ?_)
          refine lv_lload hx hb dX3_oddWalkFrom_87 (lv_at hl 1 rfl) ?_
          refine lv_iload_n hx hb dX3_oddWalkFrom_89 rfl (lv_at hl 3 rfl) ?_
          refine cl_pl (va_runSN (host := "MaskParts") (As := [.int v1]) (rest := [.long r6]) ⟨hx, hb, hml, hown, hts⟩ (ktX4_bit l H.size v1 h) ⟨va_cnB 1 hts gX3_oddWalkFrom_X4_bit_n46 rfl rfl rfl hN.2.2 (hts _ nwX3_oddWalkFrom_i) (by decide +kernel) ⟨Nat.le_of_ble_eq_true rfl, Nat.le_of_ble_eq_true rfl⟩, hts _ nwX3_oddWalkFrom_s, trivial⟩ ⟨pz.blind, fun U hU _ => ⟨rfl, pz.at hU⟩⟩ rfl rfl hl.1 rfl (lv_room (Nat.le_of_ble_eq_true rfl)) dX3_oddWalkFrom_90 ⟨Nat.le_of_ble_eq_true rfl, Nat.le_of_ble_eq_true rfl⟩) hP hS (fun r15 _ H locs h hP hS => ?_)
          refine lv_land hx hb dX3_oddWalkFrom_93 ?_
          refine lv_lconst (v := 0) hx hb dX3_oddWalkFrom_94 (by decide) ?_
          refine W.lcmp hx hb dX3_oddWalkFrom_95 ?_
          refine lv_if_eq (tgt := 125) hx hb dX3_oddWalkFrom_96 (by decide) (fun c17 => ?_) (fun c17 => ?_)
          · have h := h.1 c17
            exact mX3_oddWalkFrom_125 pg ps nf np nq ns po pt rf rl bx xl xr yl yh ms wt pf nr sl cl hu uu pd ro C hK ha hN (fun rc v1 v2 v4 v6 ls H locs h hl hP hS => ih rc v1 v2 v4 v6 ls H locs h hl hP hS) f13 v1 j14 v4 v6 ls H locs h (lv_sub hl [2, 3, 0, 4, 5] rfl) hP hS
          · have h := h.2 c17
            exact hk99 f13 v6 ls H locs h (lv_sub hl [5] rfl) hP hS
def wX3_oddWalkFrom (np : Int32) (nr : (Nat → Int64)) (rc : (Nat → Int64)) (v1 : Int32) (K : Int32 → (Nat → Int64) → Prop) : Prop := (wX4_bit v1 (fun r18 : Int64 => (wX4_bit v1 (fun r20 : Int64 => (vp_in 0 81 ∧ (∀ f23 : (Nat → Int64), f23 = vp_updL rc (0 : Int32).toNatClampNeg r20 → (∃ z21, lpX3_oddWalkFrom_21 np nr K (fun (rc : (Nat → Int64)) (v6 : Int32) => K v6 rc) (fun (rc : (Nat → Int64)) => K 0 rc) z21 f23 v1 0 r18 1)))))))
set_option maxHeartbeats 4000000 in
set_option maxRecDepth 100000 in
theorem ktX3_oddWalkFrom (l : Launch) (dC : Nat → ClassId) (dI : Nat → Nat → Nat) (q : Nat → Nat) (cI cJ cZ : ClassId) (sz : Nat) (pg : Int32) (ps : Int32) (nf : Int32) (np : Int32) (nq : Int32) (ns : Int32) (po : Int32) (pt : Int32) (rf : Int32) (rl : Int32) (bx : (Nat → Int32)) (xl : (Nat → Int32)) (xr : (Nat → Int32)) (yl : (Nat → Int32)) (yh : (Nat → Int32)) (ms : (Nat → Int32)) (wt : (Nat → Int32)) (pf : (Nat → Int32)) (nr : (Nat → Int64)) (sl : (Nat → Int32)) (cl : (Nat → Int32)) (hu : (Nat → Int32)) (uu : (Nat → Int32)) (pd : (Nat → Int64)) (ro : (Nat → Int32)) (rc : (Nat → Int64)) (v1 : Int32) {K : Int32 → (Nat → Int64) → Prop} (h : wX3_oddWalkFrom np nr rc v1 K) : Met l yX3_oddWalkFrom wsX3_oddWalkFrom { frames := 2, cells := 0, slots := 0, locals := 45 } (va_Pc [.ref (q 4), .int v1] (wd dC dI cI cJ cZ q 21 sz (WC q cI cJ cZ pg ps nf np nq ns po pt rf rl bx xl xr yl yh ms wt pf nr sl cl hu uu pd ro rc))) (QX3_oddWalkFrom dC dI cI cJ cZ q sz pg ps nf np nq ns po pt rf rl bx xl xr yl yh ms wt pf nr sl cl hu uu pd ro K) 0 0 (AF q 21 sz) := by
  refine met_of [.ref (q 4), .int v1] (by decide +kernel) rfl (Nat.le_of_ble_eq_true rfl) ?_
  intro p e s m below meth c ls hsz C hK ha hN hl hP
  subst hsz
  obtain ⟨hx, hb, hr, hml, hown, hts, hlk⟩ := id C
  have hl : lv_has ls 9 [(0, .ref (q 4)), (1, .int v1)] := hl
  refine w_go (Pw := fun H => va_P (dC, dI) vwCl (WC q cI cJ cZ pg ps nf np nq ns po pt rf rl bx xl xr yl yh ms wt pf nr sl cl hu uu pd ro rc) H) (A := AF q 21 s.heap.size) (fun H locs hP hS => ?_) hP
  unfold wX3_oddWalkFrom at h
  refine lv_lconst (v := 0) hx hb dX3_oddWalkFrom_0 (by decide) ?_
  refine lv_lstore_n (lv' := [(2, .long 0), (0, .ref (q 4)), (1, .int v1)]) hx hb dX3_oddWalkFrom_1 rfl hl (by decide) rfl (fun ls hl => ?_)
  refine lv_iload_n hx hb dX3_oddWalkFrom_2 rfl (lv_at hl 2 rfl) ?_
  refine cl_pl (va_runSN (host := "MaskParts") (As := [.int v1]) (rest := []) ⟨hx, hb, hml, hown, hts⟩ (ktX4_bit l H.size v1 h) ⟨va_cnB 1 hts gX3_oddWalkFrom_X4_bit_n46 rfl rfl rfl hN.2.2 (hts _ nwX3_oddWalkFrom_i) (by decide +kernel) ⟨Nat.le_of_ble_eq_true rfl, Nat.le_of_ble_eq_true rfl⟩, hts _ nwX3_oddWalkFrom_s, trivial⟩ ⟨pz.blind, fun U hU _ => ⟨rfl, pz.at hU⟩⟩ rfl rfl hl.1 rfl (lv_room (Nat.le_of_ble_eq_true rfl)) dX3_oddWalkFrom_3 ⟨Nat.le_of_ble_eq_true rfl, Nat.le_of_ble_eq_true rfl⟩) hP hS (fun r18 _ H locs h hP hS => ?_)
  refine lv_lstore (lv' := [(4, .long r18), (2, .long 0), (0, .ref (q 4)), (1, .int v1)]) hx hb dX3_oddWalkFrom_6 hl (by decide) rfl (fun ls hl => ?_)
  refine lv_aload_n hx hb dX3_oddWalkFrom_8 rfl (lv_at hl 2 rfl) ?_
  refine va_get (D := (dC, dI)) (ci := 3) (v := .ref (q 20)) (C := RX3) (T := TX3) (N := 5) hx hb hts iwX3_oddWalkFrom_X3 hown hK hP 4 rfl rfl 4 (by decide) (hts _ fwX3_oddWalkFrom_23) (fun _ h9 => h9) rfl dX3_oddWalkFrom_9 ?_
  refine lv_iconst (v := 0) hx hb dX3_oddWalkFrom_12 (by decide) ?_
  refine lv_iload_n hx hb dX3_oddWalkFrom_13 rfl (lv_at hl 3 rfl) ?_
  refine cl_pl (va_runSN (host := "MaskParts") (As := [.int v1]) (rest := [.int 0, .ref (q 20)]) ⟨hx, hb, hml, hown, hts⟩ (ktX4_bit l H.size v1 h) ⟨va_cnB 1 hts gX3_oddWalkFrom_X4_bit_n46 rfl rfl rfl hN.2.2 (hts _ nwX3_oddWalkFrom_i) (by decide +kernel) ⟨Nat.le_of_ble_eq_true rfl, Nat.le_of_ble_eq_true rfl⟩, hts _ nwX3_oddWalkFrom_s, trivial⟩ ⟨pz.blind, fun U hU _ => ⟨rfl, pz.at hU⟩⟩ rfl rfl hl.1 rfl (lv_room (Nat.le_of_ble_eq_true rfl)) dX3_oddWalkFrom_14 ⟨Nat.le_of_ble_eq_true rfl, Nat.le_of_ble_eq_true rfl⟩) hP hS (fun r20 _ H locs h hP hS => ?_)
  obtain ⟨b22, h⟩ := h
  refine va_last (D := (dC, dI)) hx hb hK hP (d_WC ha) hS 20 1 rfl rfl b22 dX3_oddWalkFrom_17 (fun H locs hP _ hS => ?_)
  obtain ⟨f23, ef23⟩ : ∃ z : (Nat → Int64), z = vp_updL rc (0 : Int32).toNatClampNeg r20 := ⟨_, rfl⟩
  have h := h f23 ef23
  have hP : va_P (dC, dI) vwCl (WC q cI cJ cZ pg ps nf np nq ns po pt rf rl bx xl xr yl yh ms wt pf nr sl cl hu uu pd ro f23) H := by rw [ef23]; exact hP
  refine lv_iconst (v := 1) hx hb dX3_oddWalkFrom_18 (by decide) ?_
  refine lv_istore (lv' := [(6, .int 1), (4, .long r18), (2, .long 0), (0, .ref (q 4)), (1, .int v1)]) hx hb dX3_oddWalkFrom_19 hl (by decide) rfl (fun ls hl => ?_)
  obtain ⟨n9, h⟩ := h
  exact mX3_oddWalkFrom_21 pg ps nf np nq ns po pt rf rl bx xl xr yl yh ms wt pf nr sl cl hu uu pd ro C hK ha hN (fun rc v6 ls H locs h hl hP hS => by
      refine lv_iload hx hb dX3_oddWalkFrom_99 (lv_at hl 0 rfl) ?_
      exact rt_i rc hx hb hr hlk h (fun t ht => by rw [ht]; exact hP) hS dX3_oddWalkFrom_101) (fun rc ls H locs h hl hP hS => by
      refine lv_iconst (v := 0) hx hb dX3_oddWalkFrom_131 (by decide) ?_
      exact rt_i rc hx hb hr hlk h (fun t ht => by rw [ht]; exact hP) hS dX3_oddWalkFrom_132) n9 f23 v1 0 r18 1 ls H locs h (lv_sub hl [3, 4, 2, 1, 0] rfl) hP hS

theorem fwX3_fillRow_15 : Cond.fieldLink RX3 15 "MaskParts$Ring" "length" "I" ∈ wsX3_fillRow := by decide +kernel
set_option maxRecDepth 20000 in
theorem iwX3_fillRow_X3 : ∀ w ∈ wsX30, w ∈ wsX3_fillRow := by decide +kernel
theorem fwX3_fillRow_19 : Cond.fieldLink RX3 19 "MaskParts$Ring" "row" "[I" ∈ wsX3_fillRow := by decide +kernel
theorem fwX3_fillRow_27 : Cond.fieldLink RX3 27 "MaskParts$Ring" "net" "LMaskParts$Net;" ∈ wsX3_fillRow := by decide +kernel
theorem fwX3_fillRow_56 : Cond.fieldLink RX3 56 "MaskParts$Net" "near" "[J" ∈ wsX3_fillRow := by decide +kernel
set_option maxRecDepth 20000 in
theorem iwX3_fillRow_X0 : ∀ w ∈ wsX00, w ∈ wsX3_fillRow := by decide +kernel
theorem fwX3_fillRow_23 : Cond.fieldLink RX3 23 "MaskParts$Ring" "reached" "[J" ∈ wsX3_fillRow := by decide +kernel
abbrev QX3_fillRow (dC : Nat → ClassId) (dI : Nat → Nat → Nat) (cI cJ cZ : ClassId) (q : Nat → Nat) (sz : Nat) (pg : Int32) (ps : Int32) (nf : Int32) (np : Int32) (nq : Int32) (ns : Int32) (po : Int32) (pt : Int32) (rf : Int32) (rl : Int32) (bx : (Nat → Int32)) (xl : (Nat → Int32)) (xr : (Nat → Int32)) (yl : (Nat → Int32)) (yh : (Nat → Int32)) (ms : (Nat → Int32)) (wt : (Nat → Int32)) (pf : (Nat → Int32)) (nr : (Nat → Int64)) (sl : (Nat → Int32)) (cl : (Nat → Int32)) (hu : (Nat → Int32)) (uu : (Nat → Int32)) (pd : (Nat → Int64)) (K : ((Nat → Int32) × (Nat → Int64)) → Prop) : Array Value → State → Outcome → State → Prop := va_Qv (fun (u : (Nat → Int32) × (Nat → Int64)) => K u) (fun (u : (Nat → Int32) × (Nat → Int64)) t => va_P (dC, dI) vwCl (WC q cI cJ cZ pg ps nf np nq ns po pt rf rl bx xl xr yl yh ms wt pf nr sl cl hu uu pd u.1 u.2) t.heap) (AF q 21 sz)
def lpX3_fillRow_13 (np : Int32) (rl : Int32) (nr : (Nat → Int64)) (K : ((Nat → Int32) × (Nat → Int64)) → Prop) (k65 : (Nat → Int32) → (Nat → Int64) → Prop) : Nat → (Nat → Int32) → (Nat → Int64) → Int32 → Prop
  | 0, _, _, _ => False
  | n + 1, ro, rc, v1 => ((rl ≤ v1 → k65 ro rc) ∧ (¬ (rl ≤ v1) → (vp_in ((v1 - 1)) 40 ∧ (vp_in ((ro ((v1 - 1) : Int32).toNatClampNeg)) 40 ∧ (vp_in ((rl - v1)) 81 ∧ (wX3_leastOf np (((nr ((ro ((v1 - 1) : Int32).toNatClampNeg) : Int32).toNatClampNeg) &&& (rc ((rl - v1) : Int32).toNatClampNeg))) (fun (r5 : Int32) => (vp_in v1 40 ∧ (∀ f8 : (Nat → Int32), f8 = upd ro v1.toNatClampNeg r5 → (∀ i9 : Int32, i9 = v1 + 1 → lpX3_fillRow_13 np rl nr K k65 n f8 rc i9))))))))))
set_option maxHeartbeats 4000000 in
set_option maxRecDepth 100000 in
theorem mX3_fillRow_13 {p : Program} {l : Launch} {e : Env} {s : State} {m : MethodId} {av : Array Value} {below : List Frame} {meth : Method} {c : Code} {dC : Nat → ClassId} {dI : Nat → Nat → Nat} {cI cJ cZ : ClassId} {q : Nat → Nat} {K : ((Nat → Int32) × (Nat → Int64)) → Prop} {k65 : (Nat → Int32) → (Nat → Int64) → Prop} (pg : Int32) (ps : Int32) (nf : Int32) (np : Int32) (nq : Int32) (ns : Int32) (po : Int32) (pt : Int32) (rf : Int32) (rl : Int32) (bx : (Nat → Int32)) (xl : (Nat → Int32)) (xr : (Nat → Int32)) (yl : (Nat → Int32)) (yh : (Nat → Int32)) (ms : (Nat → Int32)) (wt : (Nat → Int32)) (pf : (Nat → Int32)) (nr : (Nat → Int64)) (sl : (Nat → Int32)) (cl : (Nat → Int32)) (hu : (Nat → Int32)) (uu : (Nat → Int32)) (pd : (Nat → Int64)) (C : CX p s m av meth c cX3_fillRow 2 none RX3 wsX3_fillRow) (hK : va_K (dC, dI) vwCl (TY cI cJ cZ) s) (ha : apart q 21) (hN : NX s) (hk65 : ∀ (ro : (Nat → Int32)) (rc : (Nat → Int64)) (ls : Array Slot) (H : Heap) (locs : List Loc), k65 ro rc → lv_has ls 2 [] → va_P (dC, dI) vwCl (WC q cI cJ cZ pg ps nf np nq ns po pt rf rl bx xl xr yl yh ms wt pf nr sl cl hu uu pd ro rc) H → va_S (AF q 21 s.heap.size) s.heap H locs → W p l e { frames := 3, cells := 0, slots := 0, locals := 73 } s m av below meth c H locs 0 0 (MQ below (QX3_fillRow dC dI cI cJ cZ q s.heap.size pg ps nf np nq ns po pt rf rl bx xl xr yl yh ms wt pf nr sl cl hu uu pd K) av s 0 0 (AF q 21 s.heap.size)) (F0 m 65 ls [])) : ∀ (n : Nat) (ro : (Nat → Int32)) (rc : (Nat → Int64)) (v1 : Int32) (ls : Array Slot) (H : Heap) (locs : List Loc), lpX3_fillRow_13 np rl nr K k65 n ro rc v1 → lv_has ls 2 [(0, .ref (q 4)), (1, .int v1)] → va_P (dC, dI) vwCl (WC q cI cJ cZ pg ps nf np nq ns po pt rf rl bx xl xr yl yh ms wt pf nr sl cl hu uu pd ro rc) H → va_S (AF q 21 s.heap.size) s.heap H locs → W p l e { frames := 3, cells := 0, slots := 0, locals := 73 } s m av below meth c H locs 0 0 (MQ below (QX3_fillRow dC dI cI cJ cZ q s.heap.size pg ps nf np nq ns po pt rf rl bx xl xr yl yh ms wt pf nr sl cl hu uu pd K) av s 0 0 (AF q 21 s.heap.size)) (F0 m 13 ls []) := by
  obtain ⟨hx, hb, hr, hml, hown, hts, hlk⟩ := id C
  intro n
  induction n with
  | zero =>
    intro ro rc v1 ls H locs h
    exact h.elim
  | succ n ih =>
    intro ro rc v1 ls H locs h hl hP hS
    rw [lpX3_fillRow_13.eq_2] at h
    refine lv_iload_n hx hb dX3_fillRow_13 rfl (lv_at hl 1 rfl) ?_
    refine lv_aload_n hx hb dX3_fillRow_14 rfl (lv_at hl 0 rfl) ?_
    refine va_get (D := (dC, dI)) (ci := 3) (v := .int rl) (C := RX3) (T := TX3) (N := 5) hx hb hts iwX3_fillRow_X3 hown hK hP 4 rfl rfl 2 (by decide) (hts _ fwX3_fillRow_15) (fun _ h9 => h9) rfl dX3_fillRow_15 ?_
    refine lv_icmp_ge (tgt := 65) hx hb dX3_fillRow_18 (by decide) (fun c1 => ?_) (fun c1 => ?_)
    · have h := h.1 c1
      exact hk65 ro rc ls H locs h (lv_sub hl [] rfl) hP hS
    · have h := h.2 c1
      refine lv_aload_n hx hb dX3_fillRow_21 rfl (lv_at hl 0 rfl) ?_
      refine va_get (D := (dC, dI)) (ci := 3) (v := .ref (q 19)) (C := RX3) (T := TX3) (N := 5) hx hb hts iwX3_fillRow_X3 hown hK hP 4 rfl rfl 3 (by decide) (hts _ fwX3_fillRow_19) (fun _ h9 => h9) rfl dX3_fillRow_22 ?_
      refine lv_iload_n hx hb dX3_fillRow_25 rfl (lv_at hl 1 rfl) ?_
      refine lv_aload_n hx hb dX3_fillRow_26 rfl (lv_at hl 0 rfl) ?_
      refine lv_aload_n hx hb dX3_fillRow_27 rfl (lv_at hl 0 rfl) ?_
      refine va_get (D := (dC, dI)) (ci := 3) (v := .ref (q 2)) (C := RX3) (T := TX3) (N := 5) hx hb hts iwX3_fillRow_X3 hown hK hP 4 rfl rfl 0 (by decide) (hts _ fwX3_fillRow_27) (fun _ h9 => h9) rfl dX3_fillRow_28 ?_
      refine va_get (D := (dC, dI)) (ci := 0) (v := .ref (q 13)) (C := RX0) (T := TX0) (N := 9) hx hb hts iwX3_fillRow_X0 hown hK hP 2 rfl rfl 6 (by decide) (hts _ fwX3_fillRow_56) (fun _ h9 => h9) rfl dX3_fillRow_31 ?_
      refine lv_aload_n hx hb dX3_fillRow_34 rfl (lv_at hl 0 rfl) ?_
      refine va_get (D := (dC, dI)) (ci := 3) (v := .ref (q 19)) (C := RX3) (T := TX3) (N := 5) hx hb hts iwX3_fillRow_X3 hown hK hP 4 rfl rfl 3 (by decide) (hts _ fwX3_fillRow_19) (fun _ h9 => h9) rfl dX3_fillRow_35 ?_
      refine lv_iload_n hx hb dX3_fillRow_38 rfl (lv_at hl 1 rfl) ?_
      refine lv_iconst (v := 1) hx hb dX3_fillRow_39 (by decide) ?_
      refine lv_isub hx hb dX3_fillRow_40 ?_
      obtain ⟨b2, h⟩ := h
      refine va_iald (D := (dC, dI)) hx hb hK hP 19 0 rfl rfl b2 dX3_fillRow_41 ?_
      obtain ⟨b3, h⟩ := h
      refine va_lald (D := (dC, dI)) hx hb hK hP 13 1 rfl rfl b3 dX3_fillRow_42 ?_
      refine lv_aload_n hx hb dX3_fillRow_43 rfl (lv_at hl 0 rfl) ?_
      refine va_get (D := (dC, dI)) (ci := 3) (v := .ref (q 20)) (C := RX3) (T := TX3) (N := 5) hx hb hts iwX3_fillRow_X3 hown hK hP 4 rfl rfl 4 (by decide) (hts _ fwX3_fillRow_23) (fun _ h9 => h9) rfl dX3_fillRow_44 ?_
      refine lv_aload_n hx hb dX3_fillRow_47 rfl (lv_at hl 0 rfl) ?_
      refine va_get (D := (dC, dI)) (ci := 3) (v := .int rl) (C := RX3) (T := TX3) (N := 5) hx hb hts iwX3_fillRow_X3 hown hK hP 4 rfl rfl 2 (by decide) (hts _ fwX3_fillRow_15) (fun _ h9 => h9) rfl dX3_fillRow_48 ?_
      refine lv_iload_n hx hb dX3_fillRow_51 rfl (lv_at hl 1 rfl) ?_
      refine lv_isub hx hb dX3_fillRow_52 ?_
      obtain ⟨b4, h⟩ := h
      refine va_lald (D := (dC, dI)) hx hb hK hP 20 1 rfl rfl b4 dX3_fillRow_53 ?_
      refine lv_land hx hb dX3_fillRow_54 ?_
      refine cl_i (va_runV (As := [.long (((nr ((ro ((v1 - 1) : Int32).toNatClampNeg) : Int32).toNatClampNeg) &&& (rc ((rl - v1) : Int32).toNatClampNeg)))]) (rest := [.int v1, .ref (q 19)]) ⟨hx, hb, hml, hown, hts⟩ (ktX3_leastOf l dC dI q cI cJ cZ H.size pg ps nf np nq ns po pt rf rl bx xl xr yl yh ms wt pf nr sl cl hu uu pd ro rc (((nr ((ro ((v1 - 1) : Int32).toNatClampNeg) : Int32).toNatClampNeg) &&& (rc ((rl - v1) : Int32).toNatClampNeg))) h) (cwV 1 hts gX3_fillRow_X3_leastOf rfl rfl rfl (by decide +kernel) ⟨Nat.le_of_ble_eq_true rfl, Nat.le_of_ble_eq_true rfl⟩) ⟨wd.blind, va_recv hK hP (ci := 3) (q0 := 4) rfl rfl, fun U hU hW => ⟨rfl, wd.at hP hK ha hN hU hW⟩⟩ rfl rfl hl.1 rfl (lv_room (Nat.le_of_ble_eq_true rfl)) dX3_fillRow_55 ⟨Nat.le_of_ble_eq_true rfl, Nat.le_of_ble_eq_true rfl⟩) hS (fun r5 _ H locs h hP hS => ?_)
      have hP : va_P (dC, dI) vwCl (WC q cI cJ cZ pg ps nf np nq ns po pt rf rl bx xl xr yl yh ms wt pf nr sl cl hu uu pd ro rc) H := hP
      obtain ⟨b7, h⟩ := h
      refine va_iast (D := (dC, dI)) hx hb hK hP (d_WC ha) hS 19 0 rfl rfl b7 dX3_fillRow_58 (fun H locs hP _ hS => ?_)
      obtain ⟨f8, ef8⟩ : ∃ z : (Nat → Int32), z = upd ro v1.toNatClampNeg r5 := ⟨_, rfl⟩
      have h := h f8 ef8
      have hP : va_P (dC, dI) vwCl (WC q cI cJ cZ pg ps nf np nq ns po pt rf rl bx xl xr yl yh ms wt pf nr sl cl hu uu pd f8 rc) H := by rw [ef8]; exact hP
      obtain ⟨i9, ei9⟩ : ∃ y : Int32, y = v1 + 1 := ⟨_, rfl⟩
      refine lv_iinc (v := i9) (lv' := [(1, .int i9), (0, .ref (q 4))]) hx hb dX3_fillRow_59 hl (k := 1) rfl (by rw [ei9]; rfl) (by decide) rfl (fun ls hl => ?_)
      have h := h i9 ei9
      refine lv_goto (tgt := 13) hx hb dX3_fillRow_62 (by decide) ?_
      exact ih f8 rc i9 ls H locs h (lv_sub hl [1, 0] rfl) hP hS
def wX3_fillRow (np : Int32) (rl : Int32) (nr : (Nat → Int64)) (ro : (Nat → Int32)) (rc : (Nat → Int64))  (K : ((Nat → Int32) × (Nat → Int64)) → Prop) : Prop := (vp_in 0 40 ∧ (wX3_oddWalkFrom np nr rc ((ro (0 : Int32).toNatClampNeg)) (fun (r11 : Int32) (u12 : (Nat → Int64)) => (∃ z13, lpX3_fillRow_13 np rl nr K (fun (ro : (Nat → Int32)) (rc : (Nat → Int64)) => K (ro, rc)) z13 ro u12 1))))
set_option maxHeartbeats 4000000 in
set_option maxRecDepth 100000 in
theorem ktX3_fillRow (l : Launch) (dC : Nat → ClassId) (dI : Nat → Nat → Nat) (q : Nat → Nat) (cI cJ cZ : ClassId) (sz : Nat) (pg : Int32) (ps : Int32) (nf : Int32) (np : Int32) (nq : Int32) (ns : Int32) (po : Int32) (pt : Int32) (rf : Int32) (rl : Int32) (bx : (Nat → Int32)) (xl : (Nat → Int32)) (xr : (Nat → Int32)) (yl : (Nat → Int32)) (yh : (Nat → Int32)) (ms : (Nat → Int32)) (wt : (Nat → Int32)) (pf : (Nat → Int32)) (nr : (Nat → Int64)) (sl : (Nat → Int32)) (cl : (Nat → Int32)) (hu : (Nat → Int32)) (uu : (Nat → Int32)) (pd : (Nat → Int64)) (ro : (Nat → Int32)) (rc : (Nat → Int64))  {K : ((Nat → Int32) × (Nat → Int64)) → Prop} (h : wX3_fillRow np rl nr ro rc K) : Met l yX3_fillRow wsX3_fillRow { frames := 3, cells := 0, slots := 0, locals := 73 } (va_Pc [.ref (q 4)] (wd dC dI cI cJ cZ q 21 sz (WC q cI cJ cZ pg ps nf np nq ns po pt rf rl bx xl xr yl yh ms wt pf nr sl cl hu uu pd ro rc))) (QX3_fillRow dC dI cI cJ cZ q sz pg ps nf np nq ns po pt rf rl bx xl xr yl yh ms wt pf nr sl cl hu uu pd K) 0 0 (AF q 21 sz) := by
  refine met_of [.ref (q 4)] (by decide +kernel) rfl (Nat.le_of_ble_eq_true rfl) ?_
  intro p e s m below meth c ls hsz C hK ha hN hl hP
  subst hsz
  obtain ⟨hx, hb, hr, hml, hown, hts, hlk⟩ := id C
  have hl : lv_has ls 2 [(0, .ref (q 4))] := hl
  refine w_go (Pw := fun H => va_P (dC, dI) vwCl (WC q cI cJ cZ pg ps nf np nq ns po pt rf rl bx xl xr yl yh ms wt pf nr sl cl hu uu pd ro rc) H) (A := AF q 21 s.heap.size) (fun H locs hP hS => ?_) hP
  unfold wX3_fillRow at h
  refine lv_aload_n hx hb dX3_fillRow_0 rfl (lv_at hl 0 rfl) ?_
  refine lv_aload_n hx hb dX3_fillRow_1 rfl (lv_at hl 0 rfl) ?_
  refine va_get (D := (dC, dI)) (ci := 3) (v := .ref (q 19)) (C := RX3) (T := TX3) (N := 5) hx hb hts iwX3_fillRow_X3 hown hK hP 4 rfl rfl 3 (by decide) (hts _ fwX3_fillRow_19) (fun _ h9 => h9) rfl dX3_fillRow_2 ?_
  refine lv_iconst (v := 0) hx hb dX3_fillRow_5 (by decide) ?_
  obtain ⟨b10, h⟩ := h
  refine va_iald (D := (dC, dI)) hx hb hK hP 19 0 rfl rfl b10 dX3_fillRow_6 ?_
  refine cl_i (va_runV (As := [.int ((ro (0 : Int32).toNatClampNeg))]) (rest := []) ⟨hx, hb, hml, hown, hts⟩ (ktX3_oddWalkFrom l dC dI q cI cJ cZ H.size pg ps nf np nq ns po pt rf rl bx xl xr yl yh ms wt pf nr sl cl hu uu pd ro rc ((ro (0 : Int32).toNatClampNeg)) h) (cwV 1 hts gX3_fillRow_X3_oddWalkFrom rfl rfl rfl (by decide +kernel) ⟨Nat.le_of_ble_eq_true rfl, Nat.le_of_ble_eq_true rfl⟩) ⟨wd.blind, va_recv hK hP (ci := 3) (q0 := 4) rfl rfl, fun U hU hW => ⟨rfl, wd.at hP hK ha hN hU hW⟩⟩ rfl rfl hl.1 rfl (lv_room (Nat.le_of_ble_eq_true rfl)) dX3_fillRow_7 ⟨Nat.le_of_ble_eq_true rfl, Nat.le_of_ble_eq_true rfl⟩) hS (fun r11 u12 H locs h hP hS => ?_)
  have hP : va_P (dC, dI) vwCl (WC q cI cJ cZ pg ps nf np nq ns po pt rf rl bx xl xr yl yh ms wt pf nr sl cl hu uu pd ro u12) H := hP
  refine lv_pop hx hb dX3_fillRow_10 rfl ?_
  refine lv_iconst (v := 1) hx hb dX3_fillRow_11 (by decide) ?_
  refine lv_istore_n (lv' := [(1, .int 1), (0, .ref (q 4))]) hx hb dX3_fillRow_12 rfl hl (by decide) rfl (fun ls hl => ?_)
  obtain ⟨n9, h⟩ := h
  exact mX3_fillRow_13 pg ps nf np nq ns po pt rf rl bx xl xr yl yh ms wt pf nr sl cl hu uu pd C hK ha hN (fun ro rc ls H locs h hl hP hS => by
      exact rt_v (ro, rc) hx hb hr hlk h (fun t ht => by rw [ht]; exact hP) hS dX3_fillRow_65) n9 ro u12 1 ls H locs h (lv_sub hl [1, 0] rfl) hP hS

theorem fwX3_find_15 : Cond.fieldLink RX3 15 "MaskParts$Ring" "length" "I" ∈ wsX3_find := by decide +kernel
set_option maxRecDepth 20000 in
theorem iwX3_find_X3 : ∀ w ∈ wsX30, w ∈ wsX3_find := by decide +kernel
theorem fwX3_find_19 : Cond.fieldLink RX3 19 "MaskParts$Ring" "row" "[I" ∈ wsX3_find := by decide +kernel
theorem fwX3_find_27 : Cond.fieldLink RX3 27 "MaskParts$Ring" "net" "LMaskParts$Net;" ∈ wsX3_find := by decide +kernel
theorem fwX3_find_34 : Cond.fieldLink RX3 34 "MaskParts$Net" "parts" "I" ∈ wsX3_find := by decide +kernel
set_option maxRecDepth 20000 in
theorem iwX3_find_X0 : ∀ w ∈ wsX00, w ∈ wsX3_find := by decide +kernel
abbrev QX3_find (dC : Nat → ClassId) (dI : Nat → Nat → Nat) (cI cJ cZ : ClassId) (q : Nat → Nat) (sz : Nat) (pg : Int32) (ps : Int32) (nf : Int32) (np : Int32) (nq : Int32) (ns : Int32) (po : Int32) (pt : Int32) (rf : Int32) (bx : (Nat → Int32)) (xl : (Nat → Int32)) (xr : (Nat → Int32)) (yl : (Nat → Int32)) (yh : (Nat → Int32)) (ms : (Nat → Int32)) (wt : (Nat → Int32)) (pf : (Nat → Int32)) (nr : (Nat → Int64)) (sl : (Nat → Int32)) (cl : (Nat → Int32)) (hu : (Nat → Int32)) (uu : (Nat → Int32)) (pd : (Nat → Int64)) (K : (Int32 × (Nat → Int32) × (Nat → Int64)) → Prop) : Array Value → State → Outcome → State → Prop := va_Qv (fun (u : Int32 × (Nat → Int32) × (Nat → Int64)) => K u) (fun (u : Int32 × (Nat → Int32) × (Nat → Int64)) t => va_P (dC, dI) vwCl (WC q cI cJ cZ pg ps nf np nq ns po pt rf u.1 bx xl xr yl yh ms wt pf nr sl cl hu uu pd u.2.1 u.2.2) t.heap) (AF q 21 sz)
def bkX3_find_55 (np : Int32) (nr : (Nat → Int64)) (K : (Int32 × (Nat → Int32) × (Nat → Int64)) → Prop) (k7 : Int32 → (Nat → Int32) → (Nat → Int64) → Int32 → Prop) (rl : Int32) (ro : (Nat → Int32)) (rc : (Nat → Int64)) (v1 : Int32) : Prop := (∀ i1 : Int32, i1 = v1 + 1 → k7 rl ro rc i1)
set_option maxHeartbeats 4000000 in
set_option maxRecDepth 100000 in
theorem mX3_find_55 {p : Program} {l : Launch} {e : Env} {s : State} {m : MethodId} {av : Array Value} {below : List Frame} {meth : Method} {c : Code} {dC : Nat → ClassId} {dI : Nat → Nat → Nat} {cI cJ cZ : ClassId} {q : Nat → Nat} {K : (Int32 × (Nat → Int32) × (Nat → Int64)) → Prop} {k7 : Int32 → (Nat → Int32) → (Nat → Int64) → Int32 → Prop} (pg : Int32) (ps : Int32) (nf : Int32) (np : Int32) (nq : Int32) (ns : Int32) (po : Int32) (pt : Int32) (rf : Int32) (bx : (Nat → Int32)) (xl : (Nat → Int32)) (xr : (Nat → Int32)) (yl : (Nat → Int32)) (yh : (Nat → Int32)) (ms : (Nat → Int32)) (wt : (Nat → Int32)) (pf : (Nat → Int32)) (nr : (Nat → Int64)) (sl : (Nat → Int32)) (cl : (Nat → Int32)) (hu : (Nat → Int32)) (uu : (Nat → Int32)) (pd : (Nat → Int64)) (C : CX p s m av meth c cX3_find 3 none RX3 wsX3_find) (hK : va_K (dC, dI) vwCl (TY cI cJ cZ) s) (ha : apart q 21) (hN : NX s) (hk7 : ∀ (rl : Int32) (ro : (Nat → Int32)) (rc : (Nat → Int64)) (v1 : Int32) (ls : Array Slot) (H : Heap) (locs : List Loc), k7 rl ro rc v1 → lv_has ls 3 [(0, .ref (q 4)), (1, .int v1)] → va_P (dC, dI) vwCl (WC q cI cJ cZ pg ps nf np nq ns po pt rf rl bx xl xr yl yh ms wt pf nr sl cl hu uu pd ro rc) H → va_S (AF q 21 s.heap.size) s.heap H locs → W p l e { frames := 4, cells := 0, slots := 0, locals := 94 } s m av below meth c H locs 0 0 (MQ below (QX3_find dC dI cI cJ cZ q s.heap.size pg ps nf np nq ns po pt rf bx xl xr yl yh ms wt pf nr sl cl hu uu pd K) av s 0 0 (AF q 21 s.heap.size)) (F0 m 7 ls [])) : ∀ (rl : Int32) (ro : (Nat → Int32)) (rc : (Nat → Int64)) (v1 : Int32) (ls : Array Slot) (H : Heap) (locs : List Loc), bkX3_find_55 np nr K k7 rl ro rc v1 → lv_has ls 3 [(0, .ref (q 4)), (1, .int v1)] → va_P (dC, dI) vwCl (WC q cI cJ cZ pg ps nf np nq ns po pt rf rl bx xl xr yl yh ms wt pf nr sl cl hu uu pd ro rc) H → va_S (AF q 21 s.heap.size) s.heap H locs → W p l e { frames := 4, cells := 0, slots := 0, locals := 94 } s m av below meth c H locs 0 0 (MQ below (QX3_find dC dI cI cJ cZ q s.heap.size pg ps nf np nq ns po pt rf bx xl xr yl yh ms wt pf nr sl cl hu uu pd K) av s 0 0 (AF q 21 s.heap.size)) (F0 m 55 ls []) := by
  obtain ⟨hx, hb, hr, hml, hown, hts, hlk⟩ := id C
  intro rl ro rc v1 ls H locs h hl hP hS
  unfold bkX3_find_55 at h
  obtain ⟨i1, ei1⟩ : ∃ y : Int32, y = v1 + 1 := ⟨_, rfl⟩
  refine lv_iinc (v := i1) (lv' := [(1, .int i1), (0, .ref (q 4))]) hx hb dX3_find_55 hl (k := 1) rfl (by rw [ei1]; rfl) (by decide) rfl (fun ls hl => ?_)
  have h := h i1 ei1
  refine lv_goto (tgt := 7) hx hb dX3_find_58 (by decide) ?_
  exact hk7 rl ro rc i1 ls H locs h (lv_sub hl [1, 0] rfl) hP hS
def bkX3_find_43 (np : Int32) (nr : (Nat → Int64)) (K : (Int32 × (Nat → Int32) × (Nat → Int64)) → Prop) (k7 : Int32 → (Nat → Int32) → (Nat → Int64) → Int32 → Prop) (rl : Int32) (ro : (Nat → Int32)) (rc : (Nat → Int64)) (v1 : Int32) (v2 : Int32) : Prop := (vp_in 0 40 ∧ (∀ f3 : (Nat → Int32), f3 = upd ro (0 : Int32).toNatClampNeg v1 → bkX3_find_55 np nr K k7 v2 f3 rc v1))
set_option maxHeartbeats 4000000 in
set_option maxRecDepth 100000 in
theorem mX3_find_43 {p : Program} {l : Launch} {e : Env} {s : State} {m : MethodId} {av : Array Value} {below : List Frame} {meth : Method} {c : Code} {dC : Nat → ClassId} {dI : Nat → Nat → Nat} {cI cJ cZ : ClassId} {q : Nat → Nat} {K : (Int32 × (Nat → Int32) × (Nat → Int64)) → Prop} {k7 : Int32 → (Nat → Int32) → (Nat → Int64) → Int32 → Prop} (pg : Int32) (ps : Int32) (nf : Int32) (np : Int32) (nq : Int32) (ns : Int32) (po : Int32) (pt : Int32) (rf : Int32) (bx : (Nat → Int32)) (xl : (Nat → Int32)) (xr : (Nat → Int32)) (yl : (Nat → Int32)) (yh : (Nat → Int32)) (ms : (Nat → Int32)) (wt : (Nat → Int32)) (pf : (Nat → Int32)) (nr : (Nat → Int64)) (sl : (Nat → Int32)) (cl : (Nat → Int32)) (hu : (Nat → Int32)) (uu : (Nat → Int32)) (pd : (Nat → Int64)) (C : CX p s m av meth c cX3_find 3 none RX3 wsX3_find) (hK : va_K (dC, dI) vwCl (TY cI cJ cZ) s) (ha : apart q 21) (hN : NX s) (hk7 : ∀ (rl : Int32) (ro : (Nat → Int32)) (rc : (Nat → Int64)) (v1 : Int32) (ls : Array Slot) (H : Heap) (locs : List Loc), k7 rl ro rc v1 → lv_has ls 3 [(0, .ref (q 4)), (1, .int v1)] → va_P (dC, dI) vwCl (WC q cI cJ cZ pg ps nf np nq ns po pt rf rl bx xl xr yl yh ms wt pf nr sl cl hu uu pd ro rc) H → va_S (AF q 21 s.heap.size) s.heap H locs → W p l e { frames := 4, cells := 0, slots := 0, locals := 94 } s m av below meth c H locs 0 0 (MQ below (QX3_find dC dI cI cJ cZ q s.heap.size pg ps nf np nq ns po pt rf bx xl xr yl yh ms wt pf nr sl cl hu uu pd K) av s 0 0 (AF q 21 s.heap.size)) (F0 m 7 ls [])) : ∀ (rl : Int32) (ro : (Nat → Int32)) (rc : (Nat → Int64)) (v1 : Int32) (v2 : Int32) (ls : Array Slot) (H : Heap) (locs : List Loc), bkX3_find_43 np nr K k7 rl ro rc v1 v2 → lv_has ls 3 [(0, .ref (q 4)), (1, .int v1), (2, .int v2)] → va_P (dC, dI) vwCl (WC q cI cJ cZ pg ps nf np nq ns po pt rf rl bx xl xr yl yh ms wt pf nr sl cl hu uu pd ro rc) H → va_S (AF q 21 s.heap.size) s.heap H locs → W p l e { frames := 4, cells := 0, slots := 0, locals := 94 } s m av below meth c H locs 0 0 (MQ below (QX3_find dC dI cI cJ cZ q s.heap.size pg ps nf np nq ns po pt rf bx xl xr yl yh ms wt pf nr sl cl hu uu pd K) av s 0 0 (AF q 21 s.heap.size)) (F0 m 43 ls []) := by
  obtain ⟨hx, hb, hr, hml, hown, hts, hlk⟩ := id C
  intro rl ro rc v1 v2 ls H locs h hl hP hS
  unfold bkX3_find_43 at h
  refine lv_aload_n hx hb dX3_find_43 rfl (lv_at hl 0 rfl) ?_
  refine lv_iload_n hx hb dX3_find_44 rfl (lv_at hl 2 rfl) ?_
  refine va_put (D := (dC, dI)) (ci := 3) (v := .int v2) (ty := .int) (C := RX3) (T := TX3) (N := 5) hx hb hts iwX3_find_X3 tyX3 tyX3_ok nmX3 hown hK hP (d_WC ha) hS 4 rfl rfl 2 (by decide) (hts _ fwX3_find_15) (fun _ h9 => h9) rfl (by decide +kernel) rfl rfl (Nat.le_of_ble_eq_true rfl) dX3_find_45 (fun H locs hP _ hS => ?_)
  have hP : va_P (dC, dI) vwCl (WC q cI cJ cZ pg ps nf np nq ns po pt rf v2 bx xl xr yl yh ms wt pf nr sl cl hu uu pd ro rc) H := hP
  refine lv_aload_n hx hb dX3_find_48 rfl (lv_at hl 0 rfl) ?_
  refine va_get (D := (dC, dI)) (ci := 3) (v := .ref (q 19)) (C := RX3) (T := TX3) (N := 5) hx hb hts iwX3_find_X3 hown hK hP 4 rfl rfl 3 (by decide) (hts _ fwX3_find_19) (fun _ h9 => h9) rfl dX3_find_49 ?_
  refine lv_iconst (v := 0) hx hb dX3_find_52 (by decide) ?_
  refine lv_iload_n hx hb dX3_find_53 rfl (lv_at hl 1 rfl) ?_
  obtain ⟨b2, h⟩ := h
  refine va_iast (D := (dC, dI)) hx hb hK hP (d_WC ha) hS 19 0 rfl rfl b2 dX3_find_54 (fun H locs hP _ hS => ?_)
  obtain ⟨f3, ef3⟩ : ∃ z : (Nat → Int32), z = upd ro (0 : Int32).toNatClampNeg v1 := ⟨_, rfl⟩
  have h := h f3 ef3
  have hP : va_P (dC, dI) vwCl (WC q cI cJ cZ pg ps nf np nq ns po pt rf v2 bx xl xr yl yh ms wt pf nr sl cl hu uu pd f3 rc) H := by rw [ef3]; exact hP
  exact mX3_find_55 pg ps nf np nq ns po pt rf bx xl xr yl yh ms wt pf nr sl cl hu uu pd C hK ha hN hk7 v2 f3 rc v1 ls H locs h (lv_sub hl [0, 1] rfl) hP hS
def lpX3_find_7 (np : Int32) (nr : (Nat → Int64)) (K : (Int32 × (Nat → Int32) × (Nat → Int64)) → Prop) (k61 : Int32 → (Nat → Int32) → (Nat → Int64) → Prop) : Nat → Int32 → (Nat → Int32) → (Nat → Int64) → Int32 → Prop
  | 0, _, _, _, _ => False
  | n + 1, rl, ro, rc, v1 => ((np ≤ v1 → k61 rl ro rc) ∧ (¬ (np ≤ v1) → (wX3_oddWalkFrom np nr rc v1 (fun (r5 : Int32) (u6 : (Nat → Int64)) => ((r5 = 0 → bkX3_find_55 np nr K (fun rl ro rc v1 => lpX3_find_7 np nr K k61 n rl ro rc v1) rl ro u6 v1) ∧ (¬ (r5 = 0) → ((rl = 0 → bkX3_find_43 np nr K (fun rl ro rc v1 => lpX3_find_7 np nr K k61 n rl ro rc v1) rl ro u6 v1 r5) ∧ (¬ (rl = 0) → ((rl ≤ r5 → bkX3_find_55 np nr K (fun rl ro rc v1 => lpX3_find_7 np nr K k61 n rl ro rc v1) rl ro u6 v1) ∧ (¬ (rl ≤ r5) → bkX3_find_43 np nr K (fun rl ro rc v1 => lpX3_find_7 np nr K k61 n rl ro rc v1) rl ro u6 v1 r5))))))))))
set_option maxHeartbeats 4000000 in
set_option maxRecDepth 100000 in
theorem mX3_find_7 {p : Program} {l : Launch} {e : Env} {s : State} {m : MethodId} {av : Array Value} {below : List Frame} {meth : Method} {c : Code} {dC : Nat → ClassId} {dI : Nat → Nat → Nat} {cI cJ cZ : ClassId} {q : Nat → Nat} {K : (Int32 × (Nat → Int32) × (Nat → Int64)) → Prop} {k61 : Int32 → (Nat → Int32) → (Nat → Int64) → Prop} (pg : Int32) (ps : Int32) (nf : Int32) (np : Int32) (nq : Int32) (ns : Int32) (po : Int32) (pt : Int32) (rf : Int32) (bx : (Nat → Int32)) (xl : (Nat → Int32)) (xr : (Nat → Int32)) (yl : (Nat → Int32)) (yh : (Nat → Int32)) (ms : (Nat → Int32)) (wt : (Nat → Int32)) (pf : (Nat → Int32)) (nr : (Nat → Int64)) (sl : (Nat → Int32)) (cl : (Nat → Int32)) (hu : (Nat → Int32)) (uu : (Nat → Int32)) (pd : (Nat → Int64)) (C : CX p s m av meth c cX3_find 3 none RX3 wsX3_find) (hK : va_K (dC, dI) vwCl (TY cI cJ cZ) s) (ha : apart q 21) (hN : NX s) (hk61 : ∀ (rl : Int32) (ro : (Nat → Int32)) (rc : (Nat → Int64)) (ls : Array Slot) (H : Heap) (locs : List Loc), k61 rl ro rc → lv_has ls 3 [(0, .ref (q 4))] → va_P (dC, dI) vwCl (WC q cI cJ cZ pg ps nf np nq ns po pt rf rl bx xl xr yl yh ms wt pf nr sl cl hu uu pd ro rc) H → va_S (AF q 21 s.heap.size) s.heap H locs → W p l e { frames := 4, cells := 0, slots := 0, locals := 94 } s m av below meth c H locs 0 0 (MQ below (QX3_find dC dI cI cJ cZ q s.heap.size pg ps nf np nq ns po pt rf bx xl xr yl yh ms wt pf nr sl cl hu uu pd K) av s 0 0 (AF q 21 s.heap.size)) (F0 m 61 ls [])) : ∀ (n : Nat) (rl : Int32) (ro : (Nat → Int32)) (rc : (Nat → Int64)) (v1 : Int32) (ls : Array Slot) (H : Heap) (locs : List Loc), lpX3_find_7 np nr K k61 n rl ro rc v1 → lv_has ls 3 [(0, .ref (q 4)), (1, .int v1)] → va_P (dC, dI) vwCl (WC q cI cJ cZ pg ps nf np nq ns po pt rf rl bx xl xr yl yh ms wt pf nr sl cl hu uu pd ro rc) H → va_S (AF q 21 s.heap.size) s.heap H locs → W p l e { frames := 4, cells := 0, slots := 0, locals := 94 } s m av below meth c H locs 0 0 (MQ below (QX3_find dC dI cI cJ cZ q s.heap.size pg ps nf np nq ns po pt rf bx xl xr yl yh ms wt pf nr sl cl hu uu pd K) av s 0 0 (AF q 21 s.heap.size)) (F0 m 7 ls []) := by
  obtain ⟨hx, hb, hr, hml, hown, hts, hlk⟩ := id C
  intro n
  induction n with
  | zero =>
    intro rl ro rc v1 ls H locs h
    exact h.elim
  | succ n ih =>
    intro rl ro rc v1 ls H locs h hl hP hS
    rw [lpX3_find_7.eq_2] at h
    refine lv_iload_n hx hb dX3_find_7 rfl (lv_at hl 1 rfl) ?_
    refine lv_aload_n hx hb dX3_find_8 rfl (lv_at hl 0 rfl) ?_
    refine va_get (D := (dC, dI)) (ci := 3) (v := .ref (q 2)) (C := RX3) (T := TX3) (N := 5) hx hb hts iwX3_find_X3 hown hK hP 4 rfl rfl 0 (by decide) (hts _ fwX3_find_27) (fun _ h9 => h9) rfl dX3_find_9 ?_
    refine va_get (D := (dC, dI)) (ci := 0) (v := .int np) (C := RX0) (T := TX0) (N := 9) hx hb hts iwX3_find_X0 hown hK hP 2 rfl rfl 2 (by decide) (hts _ fwX3_find_34) (fun _ h9 => h9) rfl dX3_find_12 ?_
    refine lv_icmp_ge (tgt := 61) hx hb dX3_find_15 (by decide) (fun c4 => ?_) (fun c4 => ?_)
    · have h := h.1 c4
      exact hk61 rl ro rc ls H locs h (lv_sub hl [0] rfl) hP hS
    · have h := h.2 c4
      refine lv_aload_n hx hb dX3_find_18 rfl (lv_at hl 0 rfl) ?_
      refine lv_iload_n hx hb dX3_find_19 rfl (lv_at hl 1 rfl) ?_
      refine cl_i (va_runV (As := [.int v1]) (rest := []) ⟨hx, hb, hml, hown, hts⟩ (ktX3_oddWalkFrom l dC dI q cI cJ cZ H.size pg ps nf np nq ns po pt rf rl bx xl xr yl yh ms wt pf nr sl cl hu uu pd ro rc v1 h) (cwV 1 hts gX3_find_X3_oddWalkFrom rfl rfl rfl (by decide +kernel) ⟨Nat.le_of_ble_eq_true rfl, Nat.le_of_ble_eq_true rfl⟩) ⟨wd.blind, va_recv hK hP (ci := 3) (q0 := 4) rfl rfl, fun U hU hW => ⟨rfl, wd.at hP hK ha hN hU hW⟩⟩ rfl rfl hl.1 rfl (lv_room (Nat.le_of_ble_eq_true rfl)) dX3_find_20 ⟨Nat.le_of_ble_eq_true rfl, Nat.le_of_ble_eq_true rfl⟩) hS (fun r5 u6 H locs h hP hS => ?_)
      have hP : va_P (dC, dI) vwCl (WC q cI cJ cZ pg ps nf np nq ns po pt rf rl bx xl xr yl yh ms wt pf nr sl cl hu uu pd ro u6) H := hP
      refine lv_istore_n (lv' := [(2, .int r5), (0, .ref (q 4)), (1, .int v1)]) hx hb dX3_find_23 rfl hl (by decide) rfl (fun ls hl => ?_)
      refine lv_iload_n hx hb dX3_find_24 rfl (lv_at hl 0 rfl) ?_
      refine lv_if_eq (tgt := 55) hx hb dX3_find_25 (by decide) (fun c7 => ?_) (fun c7 => ?_)
      · have h := h.1 c7
        exact mX3_find_55 pg ps nf np nq ns po pt rf bx xl xr yl yh ms wt pf nr sl cl hu uu pd C hK ha hN (fun rl ro rc v1 ls H locs h hl hP hS => ih rl ro rc v1 ls H locs h hl hP hS) rl ro u6 v1 ls H locs h (lv_sub hl [1, 2] rfl) hP hS
      · have h := h.2 c7
        refine lv_aload_n hx hb dX3_find_28 rfl (lv_at hl 1 rfl) ?_
        refine va_get (D := (dC, dI)) (ci := 3) (v := .int rl) (C := RX3) (T := TX3) (N := 5) hx hb hts iwX3_find_X3 hown hK hP 4 rfl rfl 2 (by decide) (hts _ fwX3_find_15) (fun _ h9 => h9) rfl dX3_find_29 ?_
        refine lv_if_eq (tgt := 43) hx hb dX3_find_32 (by decide) (fun c8 => ?_) (fun c8 => ?_)
        · have h := h.1 c8
          exact mX3_find_43 pg ps nf np nq ns po pt rf bx xl xr yl yh ms wt pf nr sl cl hu uu pd C hK ha hN (fun rl ro rc v1 ls H locs h hl hP hS => ih rl ro rc v1 ls H locs h hl hP hS) rl ro u6 v1 r5 ls H locs h (lv_sub hl [1, 2, 0] rfl) hP hS
        · have h := h.2 c8
          refine lv_iload_n hx hb dX3_find_35 rfl (lv_at hl 0 rfl) ?_
          refine lv_aload_n hx hb dX3_find_36 rfl (lv_at hl 1 rfl) ?_
          refine va_get (D := (dC, dI)) (ci := 3) (v := .int rl) (C := RX3) (T := TX3) (N := 5) hx hb hts iwX3_find_X3 hown hK hP 4 rfl rfl 2 (by decide) (hts _ fwX3_find_15) (fun _ h9 => h9) rfl dX3_find_37 ?_
          refine lv_icmp_ge (tgt := 55) hx hb dX3_find_40 (by decide) (fun c9 => ?_) (fun c9 => ?_)
          · have h := h.1 c9
            exact mX3_find_55 pg ps nf np nq ns po pt rf bx xl xr yl yh ms wt pf nr sl cl hu uu pd C hK ha hN (fun rl ro rc v1 ls H locs h hl hP hS => ih rl ro rc v1 ls H locs h hl hP hS) rl ro u6 v1 ls H locs h (lv_sub hl [1, 2] rfl) hP hS
          · have h := h.2 c9
            exact mX3_find_43 pg ps nf np nq ns po pt rf bx xl xr yl yh ms wt pf nr sl cl hu uu pd C hK ha hN (fun rl ro rc v1 ls H locs h hl hP hS => ih rl ro rc v1 ls H locs h hl hP hS) rl ro u6 v1 r5 ls H locs h (lv_sub hl [1, 2, 0] rfl) hP hS
def wX3_find (np : Int32) (nr : (Nat → Int64)) (rl : Int32) (ro : (Nat → Int32)) (rc : (Nat → Int64))  (K : (Int32 × (Nat → Int32) × (Nat → Int64)) → Prop) : Prop := (∃ z7, lpX3_find_7 np nr K (fun (rl : Int32) (ro : (Nat → Int32)) (rc : (Nat → Int64)) => ((rl = 0 → K (rl, ro, rc)) ∧ (¬ (rl = 0) → (wX3_fillRow np rl nr ro rc  (fun (u12 : (Nat → Int32) × (Nat → Int64)) => K (rl, u12.1, u12.2)))))) z7 0 ro rc 0)
set_option maxHeartbeats 4000000 in
set_option maxRecDepth 100000 in
theorem ktX3_find (l : Launch) (dC : Nat → ClassId) (dI : Nat → Nat → Nat) (q : Nat → Nat) (cI cJ cZ : ClassId) (sz : Nat) (pg : Int32) (ps : Int32) (nf : Int32) (np : Int32) (nq : Int32) (ns : Int32) (po : Int32) (pt : Int32) (rf : Int32) (rl : Int32) (bx : (Nat → Int32)) (xl : (Nat → Int32)) (xr : (Nat → Int32)) (yl : (Nat → Int32)) (yh : (Nat → Int32)) (ms : (Nat → Int32)) (wt : (Nat → Int32)) (pf : (Nat → Int32)) (nr : (Nat → Int64)) (sl : (Nat → Int32)) (cl : (Nat → Int32)) (hu : (Nat → Int32)) (uu : (Nat → Int32)) (pd : (Nat → Int64)) (ro : (Nat → Int32)) (rc : (Nat → Int64))  {K : (Int32 × (Nat → Int32) × (Nat → Int64)) → Prop} (h : wX3_find np nr rl ro rc K) : Met l yX3_find wsX3_find { frames := 4, cells := 0, slots := 0, locals := 94 } (va_Pc [.ref (q 4)] (wd dC dI cI cJ cZ q 21 sz (WC q cI cJ cZ pg ps nf np nq ns po pt rf rl bx xl xr yl yh ms wt pf nr sl cl hu uu pd ro rc))) (QX3_find dC dI cI cJ cZ q sz pg ps nf np nq ns po pt rf bx xl xr yl yh ms wt pf nr sl cl hu uu pd K) 0 0 (AF q 21 sz) := by
  refine met_of [.ref (q 4)] (by decide +kernel) rfl (Nat.le_of_ble_eq_true rfl) ?_
  intro p e s m below meth c ls hsz C hK ha hN hl hP
  subst hsz
  obtain ⟨hx, hb, hr, hml, hown, hts, hlk⟩ := id C
  have hl : lv_has ls 3 [(0, .ref (q 4))] := hl
  refine w_go (Pw := fun H => va_P (dC, dI) vwCl (WC q cI cJ cZ pg ps nf np nq ns po pt rf rl bx xl xr yl yh ms wt pf nr sl cl hu uu pd ro rc) H) (A := AF q 21 s.heap.size) (fun H locs hP hS => ?_) hP
  unfold wX3_find at h
  refine lv_aload_n hx hb dX3_find_0 rfl (lv_at hl 0 rfl) ?_
  refine lv_iconst (v := 0) hx hb dX3_find_1 (by decide) ?_
  refine va_put (D := (dC, dI)) (ci := 3) (v := .int 0) (ty := .int) (C := RX3) (T := TX3) (N := 5) hx hb hts iwX3_find_X3 tyX3 tyX3_ok nmX3 hown hK hP (d_WC ha) hS 4 rfl rfl 2 (by decide) (hts _ fwX3_find_15) (fun _ h9 => h9) rfl (by decide +kernel) rfl rfl (Nat.le_of_ble_eq_true rfl) dX3_find_2 (fun H locs hP _ hS => ?_)
  have hP : va_P (dC, dI) vwCl (WC q cI cJ cZ pg ps nf np nq ns po pt rf 0 bx xl xr yl yh ms wt pf nr sl cl hu uu pd ro rc) H := hP
  refine lv_iconst (v := 0) hx hb dX3_find_5 (by decide) ?_
  refine lv_istore_n (lv' := [(1, .int 0), (0, .ref (q 4))]) hx hb dX3_find_6 rfl hl (by decide) rfl (fun ls hl => ?_)
  obtain ⟨n9, h⟩ := h
  exact mX3_find_7 pg ps nf np nq ns po pt rf bx xl xr yl yh ms wt pf nr sl cl hu uu pd C hK ha hN (fun rl ro rc ls H locs h hl hP hS => by
      refine lv_aload_n hx hb dX3_find_61 rfl (lv_at hl 0 rfl) ?_
      refine va_get (D := (dC, dI)) (ci := 3) (v := .int rl) (C := RX3) (T := TX3) (N := 5) hx hb hts iwX3_find_X3 hown hK hP 4 rfl rfl 2 (by decide) (hts _ fwX3_find_15) (fun _ h9 => h9) rfl dX3_find_62 ?_
      refine lv_if_eq (tgt := 72) hx hb dX3_find_65 (by decide) (fun c10 => ?_) (fun c10 => ?_)
      · have h := h.1 c10
        exact rt_v (rl, ro, rc) hx hb hr hlk h (fun t ht => by rw [ht]; exact hP) hS dX3_find_72
      · have h := h.2 c10
        refine lv_aload_n hx hb dX3_find_68 rfl (lv_at hl 0 rfl) ?_
        refine cl_v (va_runV (As := []) (rest := []) ⟨hx, hb, hml, hown, hts⟩ (ktX3_fillRow l dC dI q cI cJ cZ H.size pg ps nf np nq ns po pt rf rl bx xl xr yl yh ms wt pf nr sl cl hu uu pd ro rc  h) (cwV 0 hts gX3_find_X3_fillRow rfl rfl rfl (by decide +kernel) ⟨Nat.le_of_ble_eq_true rfl, Nat.le_of_ble_eq_true rfl⟩) ⟨wd.blind, va_recv hK hP (ci := 3) (q0 := 4) rfl rfl, fun U hU hW => ⟨rfl, wd.at hP hK ha hN hU hW⟩⟩ rfl rfl hl.1 rfl (lv_room (Nat.le_of_ble_eq_true rfl)) dX3_find_69 ⟨Nat.le_of_ble_eq_true rfl, Nat.le_of_ble_eq_true rfl⟩) hS (fun u12 H locs h hP hS => ?_)
        have hP : va_P (dC, dI) vwCl (WC q cI cJ cZ pg ps nf np nq ns po pt rf rl bx xl xr yl yh ms wt pf nr sl cl hu uu pd u12.1 u12.2) H := hP
        exact rt_v (rl, u12.1, u12.2) hx hb hr hlk h (fun t ht => by rw [ht]; exact hP) hS dX3_find_72) n9 0 ro rc 0 ls H locs h (lv_sub hl [1, 0] rfl) hP hS

theorem fwX3_refresh_9 : Cond.fieldLink RX3 9 "MaskParts$Ring" "fresh" "Z" ∈ wsX3_refresh := by decide +kernel
set_option maxRecDepth 20000 in
theorem iwX3_refresh_X3 : ∀ w ∈ wsX30, w ∈ wsX3_refresh := by decide +kernel
abbrev QX3_refresh (dC : Nat → ClassId) (dI : Nat → Nat → Nat) (cI cJ cZ : ClassId) (q : Nat → Nat) (sz : Nat) (pg : Int32) (ps : Int32) (nf : Int32) (np : Int32) (nq : Int32) (ns : Int32) (po : Int32) (pt : Int32) (bx : (Nat → Int32)) (xl : (Nat → Int32)) (xr : (Nat → Int32)) (yl : (Nat → Int32)) (yh : (Nat → Int32)) (ms : (Nat → Int32)) (wt : (Nat → Int32)) (pf : (Nat → Int32)) (nr : (Nat → Int64)) (sl : (Nat → Int32)) (cl : (Nat → Int32)) (hu : (Nat → Int32)) (uu : (Nat → Int32)) (pd : (Nat → Int64)) (K : (Int32 × Int32 × (Nat → Int32) × (Nat → Int64)) → Prop) : Array Value → State → Outcome → State → Prop := va_Qv (fun (u : Int32 × Int32 × (Nat → Int32) × (Nat → Int64)) => K u) (fun (u : Int32 × Int32 × (Nat → Int32) × (Nat → Int64)) t => va_P (dC, dI) vwCl (WC q cI cJ cZ pg ps nf np nq ns po pt u.1 u.2.1 bx xl xr yl yh ms wt pf nr sl cl hu uu pd u.2.2.1 u.2.2.2) t.heap) (AF q 21 sz)
def wX3_refresh (np : Int32) (nr : (Nat → Int64)) (rf : Int32) (rl : Int32) (ro : (Nat → Int32)) (rc : (Nat → Int64))  (K : (Int32 × Int32 × (Nat → Int32) × (Nat → Int64)) → Prop) : Prop := ((¬ rf = 0 → K (rf, rl, ro, rc)) ∧ (rf = 0 → (wX3_find np nr rl ro rc  (fun (u3 : Int32 × (Nat → Int32) × (Nat → Int64)) => K (1, u3.1, u3.2.1, u3.2.2)))))
set_option maxHeartbeats 4000000 in
set_option maxRecDepth 100000 in
theorem ktX3_refresh (l : Launch) (dC : Nat → ClassId) (dI : Nat → Nat → Nat) (q : Nat → Nat) (cI cJ cZ : ClassId) (sz : Nat) (pg : Int32) (ps : Int32) (nf : Int32) (np : Int32) (nq : Int32) (ns : Int32) (po : Int32) (pt : Int32) (rf : Int32) (rl : Int32) (bx : (Nat → Int32)) (xl : (Nat → Int32)) (xr : (Nat → Int32)) (yl : (Nat → Int32)) (yh : (Nat → Int32)) (ms : (Nat → Int32)) (wt : (Nat → Int32)) (pf : (Nat → Int32)) (nr : (Nat → Int64)) (sl : (Nat → Int32)) (cl : (Nat → Int32)) (hu : (Nat → Int32)) (uu : (Nat → Int32)) (pd : (Nat → Int64)) (ro : (Nat → Int32)) (rc : (Nat → Int64))  {K : (Int32 × Int32 × (Nat → Int32) × (Nat → Int64)) → Prop} (h : wX3_refresh np nr rf rl ro rc K) : Met l yX3_refresh wsX3_refresh { frames := 5, cells := 0, slots := 0, locals := 116 } (va_Pc [.ref (q 4)] (wd dC dI cI cJ cZ q 21 sz (WC q cI cJ cZ pg ps nf np nq ns po pt rf rl bx xl xr yl yh ms wt pf nr sl cl hu uu pd ro rc))) (QX3_refresh dC dI cI cJ cZ q sz pg ps nf np nq ns po pt bx xl xr yl yh ms wt pf nr sl cl hu uu pd K) 0 0 (AF q 21 sz) := by
  refine met_of [.ref (q 4)] (by decide +kernel) rfl (Nat.le_of_ble_eq_true rfl) ?_
  intro p e s m below meth c ls hsz C hK ha hN hl hP
  subst hsz
  obtain ⟨hx, hb, hr, hml, hown, hts, hlk⟩ := id C
  have hl : lv_has ls 1 [(0, .ref (q 4))] := hl
  refine w_go (Pw := fun H => va_P (dC, dI) vwCl (WC q cI cJ cZ pg ps nf np nq ns po pt rf rl bx xl xr yl yh ms wt pf nr sl cl hu uu pd ro rc) H) (A := AF q 21 s.heap.size) (fun H locs hP hS => ?_) hP
  unfold wX3_refresh at h
  refine lv_aload_n hx hb dX3_refresh_0 rfl (lv_at hl 0 rfl) ?_
  refine va_get (D := (dC, dI)) (ci := 3) (v := .int rf) (C := RX3) (T := TX3) (N := 5) hx hb hts iwX3_refresh_X3 hown hK hP 4 rfl rfl 1 (by decide) (hts _ fwX3_refresh_9) (fun _ h9 => h9) rfl dX3_refresh_1 ?_
  refine lv_if_ne (tgt := 16) hx hb dX3_refresh_4 (by decide) (fun c1 => ?_) (fun c1 => ?_)
  · have h := h.1 c1
    exact rt_v (rf, rl, ro, rc) hx hb hr hlk h (fun t ht => by rw [ht]; exact hP) hS dX3_refresh_16
  · have h := h.2 c1
    refine lv_aload_n hx hb dX3_refresh_7 rfl (lv_at hl 0 rfl) ?_
    refine cl_v (va_runV (As := []) (rest := []) ⟨hx, hb, hml, hown, hts⟩ (ktX3_find l dC dI q cI cJ cZ H.size pg ps nf np nq ns po pt rf rl bx xl xr yl yh ms wt pf nr sl cl hu uu pd ro rc  h) (cwV 0 hts gX3_refresh_X3_find rfl rfl rfl (by decide +kernel) ⟨Nat.le_of_ble_eq_true rfl, Nat.le_of_ble_eq_true rfl⟩) ⟨wd.blind, va_recv hK hP (ci := 3) (q0 := 4) rfl rfl, fun U hU hW => ⟨rfl, wd.at hP hK ha hN hU hW⟩⟩ rfl rfl hl.1 rfl (lv_room (Nat.le_of_ble_eq_true rfl)) dX3_refresh_8 ⟨Nat.le_of_ble_eq_true rfl, Nat.le_of_ble_eq_true rfl⟩) hS (fun u3 H locs h hP hS => ?_)
    have hP : va_P (dC, dI) vwCl (WC q cI cJ cZ pg ps nf np nq ns po pt rf u3.1 bx xl xr yl yh ms wt pf nr sl cl hu uu pd u3.2.1 u3.2.2) H := hP
    refine lv_aload_n hx hb dX3_refresh_11 rfl (lv_at hl 0 rfl) ?_
    refine lv_iconst (v := 1) hx hb dX3_refresh_12 (by decide) ?_
    refine va_put (D := (dC, dI)) (ci := 3) (v := .int 1) (ty := .boolean) (C := RX3) (T := TX3) (N := 5) hx hb hts iwX3_refresh_X3 tyX3 tyX3_ok nmX3 hown hK hP (d_WC ha) hS 4 rfl rfl 1 (by decide) (hts _ fwX3_refresh_9) (fun _ h9 => h9) rfl (by decide +kernel) rfl rfl (Nat.le_of_ble_eq_true rfl) dX3_refresh_13 (fun H locs hP _ hS => ?_)
    have hP : va_P (dC, dI) vwCl (WC q cI cJ cZ pg ps nf np nq ns po pt 1 u3.1 bx xl xr yl yh ms wt pf nr sl cl hu uu pd u3.2.1 u3.2.2) H := hP
    exact rt_v (1, u3.1, u3.2.1, u3.2.2) hx hb hr hlk h (fun t ht => by rw [ht]; exact hP) hS dX3_refresh_16
