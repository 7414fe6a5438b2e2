abbrev QJ7_fill_d0a16 (dC : Nat → ClassId) (dI : Nat → Nat → Nat) (cI cJ cZ : ClassId) (q : Nat → Nat) (sz : Nat) (pg : Int32) (ps : Int32) (nf : Int32) (np : Int32) (nq : Int32) (ns : Int32) (po : Int32) (pt : Int32) (rf : Int32) (rl : Int32) (bx : (Nat → Int32)) (xl : (Nat → Int32)) (xr : (Nat → Int32)) (yl : (Nat → Int32)) (yh : (Nat → Int32)) (ms : (Nat → Int32)) (wt : (Nat → Int32)) (pf : (Nat → Int32)) (nr : (Nat → Int64)) (sl : (Nat → Int32)) (cl : (Nat → Int32)) (hu : (Nat → Int32)) (uu : (Nat → Int32)) (ro : (Nat → Int32)) (rc : (Nat → Int64)) (K : (Nat → Int64) → Prop) : Array Value → State → Outcome → State → Prop := va_Qv (fun (u : (Nat → Int64)) => K u) (fun (u : (Nat → Int64)) t => va_P (dC, dI) vwCl (WC q cI cJ cZ pg ps nf np nq ns po pt rf rl bx xl xr yl yh ms wt pf nr sl cl hu uu u ro rc) t.heap) (AF q 21 sz)
def lpJ7_fill_d0a16_6 (K : (Nat → Int64) → Prop) (k22 : (Nat → Int64) → Prop) : Nat → (Nat → Int64) → Int64 → Int32 → Int32 → Prop
  | 0, _, _, _, _ => False
  | n + 1, pd, v1, v3, v4 => ((v4 ≤ v3 → k22 pd) ∧ (¬ (v4 ≤ v3) → (vp_in v3 4 ∧ (∀ f3 : (Nat → Int64), f3 = vp_updL pd v3.toNatClampNeg v1 → (∀ i4 : Int32, i4 = v3 + 1 → lpJ7_fill_d0a16_6 K k22 n f3 v1 i4 v4)))))
set_option maxHeartbeats 4000000 in
set_option maxRecDepth 100000 in
theorem mJ7_fill_d0a16_6 {p : Program} {l : Launch} {e : Env} {s : State} {m : MethodId} {av : Array Value} {below : List Frame} {meth : Method} {c : Code} {dC : Nat → ClassId} {dI : Nat → Nat → Nat} {cI cJ cZ : ClassId} {q : Nat → Nat} {K : (Nat → Int64) → Prop} {k22 : (Nat → Int64) → Prop} (pg : Int32) (ps : Int32) (nf : Int32) (np : Int32) (nq : Int32) (ns : Int32) (po : Int32) (pt : Int32) (rf : Int32) (rl : Int32) (bx : (Nat → Int32)) (xl : (Nat → Int32)) (xr : (Nat → Int32)) (yl : (Nat → Int32)) (yh : (Nat → Int32)) (ms : (Nat → Int32)) (wt : (Nat → Int32)) (pf : (Nat → Int32)) (nr : (Nat → Int64)) (sl : (Nat → Int32)) (cl : (Nat → Int32)) (hu : (Nat → Int32)) (uu : (Nat → Int32)) (ro : (Nat → Int32)) (rc : (Nat → Int64)) (C : CX p s m av meth c cJ7_fill_d0a16 5 none RJ7 wsJ7_fill_d0a16) (hK : va_K (dC, dI) vwCl (TY cI cJ cZ) s) (ha : apart q 21) (hN : NX s) (hk22 : ∀ (pd : (Nat → Int64)) (ls : Array Slot) (H : Heap) (locs : List Loc), k22 pd → lv_has ls 5 [] → va_P (dC, dI) vwCl (WC q cI cJ cZ pg ps nf np nq ns po pt rf rl bx xl xr yl yh ms wt pf nr sl cl hu uu pd ro rc) H → va_S (AF q 21 s.heap.size) s.heap H locs → W p l e { frames := 0, cells := 0, slots := 0, locals := 0 } s m av below meth c H locs 0 0 (MQ below (QJ7_fill_d0a16 dC dI cI cJ cZ q s.heap.size pg ps nf np nq ns po pt rf rl bx xl xr yl yh ms wt pf nr sl cl hu uu ro rc K) av s 0 0 (AF q 21 s.heap.size)) (F0 m 22 ls [])) : ∀ (n : Nat) (pd : (Nat → Int64)) (v1 : Int64) (v3 : Int32) (v4 : Int32) (ls : Array Slot) (H : Heap) (locs : List Loc), lpJ7_fill_d0a16_6 K k22 n pd v1 v3 v4 → lv_has ls 5 [(0, .ref (q 18)), (1, .long v1), (3, .int v3), (4, .int v4)] → va_P (dC, dI) vwCl (WC q cI cJ cZ pg ps nf np nq ns po pt rf rl bx xl xr yl yh ms wt pf nr sl cl hu uu pd ro rc) H → va_S (AF q 21 s.heap.size) s.heap H locs → W p l e { frames := 0, cells := 0, slots := 0, locals := 0 } s m av below meth c H locs 0 0 (MQ below (QJ7_fill_d0a16 dC dI cI cJ cZ q s.heap.size pg ps nf np nq ns po pt rf rl bx xl xr yl yh ms wt pf nr sl cl hu uu ro rc K) av s 0 0 (AF q 21 s.heap.size)) (F0 m 6 ls []) := by
  obtain ⟨hx, hb, hr, hml, hown, hts, hlk⟩ := id C
  intro n
  induction n with
  | zero =>
    intro pd v1 v3 v4 ls H locs h
    exact h.elim
  | succ n ih =>
    intro pd v1 v3 v4 ls H locs h hl hP hS
    rw [lpJ7_fill_d0a16_6.eq_2] at h
    refine lv_iload_n hx hb dJ7_fill_d0a16_6 rfl (lv_at hl 2 rfl) ?_
    refine lv_iload hx hb dJ7_fill_d0a16_7 (lv_at hl 3 rfl) ?_
    refine lv_icmp_ge (tgt := 22) hx hb dJ7_fill_d0a16_9 (by decide) (fun c1 => ?_) (fun c1 => ?_)
    · have h := h.1 c1
      exact hk22 pd ls H locs h (lv_sub hl [] rfl) hP hS
    · have h := h.2 c1
      refine lv_aload_n hx hb dJ7_fill_d0a16_12 rfl (lv_at hl 0 rfl) ?_
      refine lv_iload_n hx hb dJ7_fill_d0a16_13 rfl (lv_at hl 2 rfl) ?_
      refine lv_lload_n hx hb dJ7_fill_d0a16_14 rfl (lv_at hl 1 rfl) ?_
      obtain ⟨b2, h⟩ := h
      refine va_last (D := (dC, dI)) hx hb hK hP (d_WC ha) hS 18 1 rfl rfl b2 dJ7_fill_d0a16_15 (fun H locs hP _ hS => ?_)
      obtain ⟨f3, ef3⟩ : ∃ z : (Nat → Int64), z = vp_updL pd v3.toNatClampNeg v1 := ⟨_, rfl⟩
      have h := h f3 ef3
      have hP : va_P (dC, dI) vwCl (WC q cI cJ cZ pg ps nf np nq ns po pt rf rl bx xl xr yl yh ms wt pf nr sl cl hu uu f3 ro rc) H := by rw [ef3]; exact hP
      obtain ⟨i4, ei4⟩ : ∃ y : Int32, y = v3 + 1 := ⟨_, rfl⟩
      refine lv_iinc (v := i4) (lv' := [(3, .int i4), (0, .ref (q 18)), (1, .long v1), (4, .int v4)]) hx hb dJ7_fill_d0a16_16 hl (k := 2) rfl (by rw [ei4]; rfl) (by decide) rfl (fun ls hl => ?_)
      have h := h i4 ei4
      refine lv_goto (tgt := 6) hx hb dJ7_fill_d0a16_19 (by decide) ?_
      exact ih f3 v1 i4 v4 ls H locs h (lv_sub hl [1, 2, 0, 3] rfl) hP hS
def wJ7_fill_d0a16 (pd : (Nat → Int64)) (v1 : Int64) (K : (Nat → Int64) → Prop) : Prop := (∃ z6, lpJ7_fill_d0a16_6 K (fun (pd : (Nat → Int64)) => K pd) z6 pd v1 0 4)
set_option maxHeartbeats 4000000 in
set_option maxRecDepth 100000 in
theorem ktJ7_fill_d0a16 (l : Launch) (dC : Nat → ClassId) (dI : Nat → Nat → Nat) (q : Nat → Nat) (cI cJ cZ : ClassId) (sz : Nat) (pg : Int32) (ps : Int32) (nf : Int32) (np : Int32) (nq : Int32) (ns : Int32) (po : Int32) (pt : Int32) (rf : Int32) (rl : Int32) (bx : (Nat → Int32)) (xl : (Nat → Int32)) (xr : (Nat → Int32)) (yl : (Nat → Int32)) (yh : (Nat → Int32)) (ms : (Nat → Int32)) (wt : (Nat → Int32)) (pf : (Nat → Int32)) (nr : (Nat → Int64)) (sl : (Nat → Int32)) (cl : (Nat → Int32)) (hu : (Nat → Int32)) (uu : (Nat → Int32)) (pd : (Nat → Int64)) (ro : (Nat → Int32)) (rc : (Nat → Int64)) (v1 : Int64) {K : (Nat → Int64) → Prop} (h : wJ7_fill_d0a16 pd v1 K) : Met l yJ7_fill_d0a16 wsJ7_fill_d0a16 { frames := 0, cells := 0, slots := 0, locals := 0 } (va_Pc [.ref (q 18), .long v1] (wd dC dI cI cJ cZ q 21 sz (WC q cI cJ cZ pg ps nf np nq ns po pt rf rl bx xl xr yl yh ms wt pf nr sl cl hu uu pd ro rc))) (QJ7_fill_d0a16 dC dI cI cJ cZ q sz pg ps nf np nq ns po pt rf rl bx xl xr yl yh ms wt pf nr sl cl hu uu ro rc K) 0 0 (AF q 21 sz) := by
  refine met_of [.ref (q 18), .long v1] (by decide +kernel) rfl (Nat.le_of_ble_eq_true rfl) ?_
  intro p e s m below meth c ls hsz C hK ha hN hl hP
  subst hsz
  obtain ⟨hx, hb, hr, hml, hown, hts, hlk⟩ := id C
  have hl : lv_has ls 5 [(0, .ref (q 18)), (1, .long v1)] := hl
  refine w_go (Pw := fun H => va_P (dC, dI) vwCl (WC q cI cJ cZ pg ps nf np nq ns po pt rf rl bx xl xr yl yh ms wt pf nr sl cl hu uu pd ro rc) H) (A := AF q 21 s.heap.size) (fun H locs hP hS => ?_) hP
  unfold wJ7_fill_d0a16 at h
  refine lv_iconst (v := 0) hx hb dJ7_fill_d0a16_0 (by decide) ?_
  refine lv_istore_n (lv' := [(3, .int 0), (0, .ref (q 18)), (1, .long v1)]) hx hb dJ7_fill_d0a16_1 rfl hl (by decide) rfl (fun ls hl => ?_)
  refine lv_aload_n hx hb dJ7_fill_d0a16_2 rfl (lv_at hl 1 rfl) ?_
  refine va_alen (D := (dC, dI)) (v := 4) hx hb hK hP 18 1 rfl rfl rfl dJ7_fill_d0a16_3 ?_
  refine lv_istore (lv' := [(4, .int 4), (3, .int 0), (0, .ref (q 18)), (1, .long v1)]) hx hb dJ7_fill_d0a16_4 hl (by decide) rfl (fun ls hl => ?_)
  obtain ⟨n9, h⟩ := h
  exact mJ7_fill_d0a16_6 pg ps nf np nq ns po pt rf rl bx xl xr yl yh ms wt pf nr sl cl hu uu ro rc C hK ha hN (fun pd ls H locs h hl hP hS => by
      exact rt_v pd hx hb hr hlk h (fun t ht => by rw [ht]; exact hP) hS dJ7_fill_d0a16_22) n9 pd v1 0 4 ls H locs h (lv_sub hl [2, 3, 1, 0] rfl) hP hS

theorem fwX1_clear_9 : Cond.fieldLink RX1 9 "MaskParts$Painter" "outcome" "I" ∈ wsX1_clear := by decide +kernel
set_option maxRecDepth 20000 in
theorem iwX1_clear_X1 : ∀ w ∈ wsX10, w ∈ wsX1_clear := by decide +kernel
theorem fwX1_clear_15 : Cond.fieldLink RX1 15 "MaskParts$Painter" "taken" "I" ∈ wsX1_clear := by decide +kernel
abbrev QX1_clear (dC : Nat → ClassId) (dI : Nat → Nat → Nat) (cI cJ cZ : ClassId) (q : Nat → Nat) (sz : Nat) (pg : Int32) (ps : Int32) (nf : Int32) (np : Int32) (nq : Int32) (ns : Int32) (rf : Int32) (rl : Int32) (bx : (Nat → Int32)) (xl : (Nat → Int32)) (xr : (Nat → Int32)) (yl : (Nat → Int32)) (yh : (Nat → Int32)) (ms : (Nat → Int32)) (wt : (Nat → Int32)) (pf : (Nat → Int32)) (nr : (Nat → Int64)) (sl : (Nat → Int32)) (cl : (Nat → Int32)) (hu : (Nat → Int32)) (uu : (Nat → Int32)) (pd : (Nat → Int64)) (ro : (Nat → Int32)) (rc : (Nat → Int64)) (K : (Int32 × Int32) → Prop) : Array Value → State → Outcome → State → Prop := va_Qv (fun (u : Int32 × Int32) => K u) (fun (u : Int32 × Int32) t => va_P (dC, dI) vwCl (WC q cI cJ cZ pg ps nf np nq ns u.1 u.2 rf rl bx xl xr yl yh ms wt pf nr sl cl hu uu pd ro rc) t.heap) (AF q 21 sz)
def wX1_clear (po : Int32) (pt : Int32)  (K : (Int32 × Int32) → Prop) : Prop := K ((-1), 0)
set_option maxHeartbeats 4000000 in
set_option maxRecDepth 100000 in
theorem ktX1_clear (l : Launch) (dC : Nat → ClassId) (dI : Nat → Nat → Nat) (q : Nat → Nat) (cI cJ cZ : ClassId) (sz : Nat) (pg : Int32) (ps : Int32) (nf : Int32) (np : Int32) (nq : Int32) (ns : Int32) (po : Int32) (pt : Int32) (rf : Int32) (rl : Int32) (bx : (Nat → Int32)) (xl : (Nat → Int32)) (xr : (Nat → Int32)) (yl : (Nat → Int32)) (yh : (Nat → Int32)) (ms : (Nat → Int32)) (wt : (Nat → Int32)) (pf : (Nat → Int32)) (nr : (Nat → Int64)) (sl : (Nat → Int32)) (cl : (Nat → Int32)) (hu : (Nat → Int32)) (uu : (Nat → Int32)) (pd : (Nat → Int64)) (ro : (Nat → Int32)) (rc : (Nat → Int64))  {K : (Int32 × Int32) → Prop} (h : wX1_clear po pt K) : Met l yX1_clear wsX1_clear { frames := 0, cells := 0, slots := 0, locals := 0 } (va_Pc [.ref (q 3)] (wd dC dI cI cJ cZ q 21 sz (WC q cI cJ cZ pg ps nf np nq ns po pt rf rl bx xl xr yl yh ms wt pf nr sl cl hu uu pd ro rc))) (QX1_clear dC dI cI cJ cZ q sz pg ps nf np nq ns rf rl bx xl xr yl yh ms wt pf nr sl cl hu uu pd ro rc K) 0 0 (AF q 21 sz) := by
  refine met_of [.ref (q 3)] (by decide +kernel) rfl (Nat.le_of_ble_eq_true rfl) ?_
  intro p e s m below meth c ls hsz C hK ha hN hl hP
  subst hsz
  obtain ⟨hx, hb, hr, hml, hown, hts, hlk⟩ := id C
  have hl : lv_has ls 1 [(0, .ref (q 3))] := hl
  refine w_go (Pw := fun H => va_P (dC, dI) vwCl (WC q cI cJ cZ pg ps nf np nq ns po pt rf rl bx xl xr yl yh ms wt pf nr sl cl hu uu pd ro rc) H) (A := AF q 21 s.heap.size) (fun H locs hP hS => ?_) hP
  unfold wX1_clear at h
  refine lv_aload_n hx hb dX1_clear_0 rfl (lv_at hl 0 rfl) ?_
  refine lv_iconst (v := (-1)) hx hb dX1_clear_1 (by decide) ?_
  refine va_put (D := (dC, dI)) (ci := 1) (v := .int (-1)) (ty := .int) (C := RX1) (T := TX1) (N := 6) hx hb hts iwX1_clear_X1 tyX1 tyX1_ok nmX1 hown hK hP (d_WC ha) hS 3 rfl rfl 1 (by decide) (hts _ fwX1_clear_9) (fun _ h9 => h9) rfl (by decide +kernel) rfl rfl (Nat.le_of_ble_eq_true rfl) dX1_clear_2 (fun H locs hP _ hS => ?_)
  have hP : va_P (dC, dI) vwCl (WC q cI cJ cZ pg ps nf np nq ns (-1) pt rf rl bx xl xr yl yh ms wt pf nr sl cl hu uu pd ro rc) H := hP
  refine lv_aload_n hx hb dX1_clear_5 rfl (lv_at hl 0 rfl) ?_
  refine lv_iconst (v := 0) hx hb dX1_clear_6 (by decide) ?_
  refine va_put (D := (dC, dI)) (ci := 1) (v := .int 0) (ty := .int) (C := RX1) (T := TX1) (N := 6) hx hb hts iwX1_clear_X1 tyX1 tyX1_ok nmX1 hown hK hP (d_WC ha) hS 3 rfl rfl 2 (by decide) (hts _ fwX1_clear_15) (fun _ h9 => h9) rfl (by decide +kernel) rfl rfl (Nat.le_of_ble_eq_true rfl) dX1_clear_7 (fun H locs hP _ hS => ?_)
  have hP : va_P (dC, dI) vwCl (WC q cI cJ cZ pg ps nf np nq ns (-1) 0 rf rl bx xl xr yl yh ms wt pf nr sl cl hu uu pd ro rc) H := hP
  exact rt_v ((-1), 0) hx hb hr hlk h (fun t ht => by rw [ht]; exact hP) hS dX1_clear_10

theorem fwX1_usedWith_22 : Cond.fieldLink RX1 22 "MaskParts$Painter" "usedUpTo" "[I" ∈ wsX1_usedWith := by decide +kernel
set_option maxRecDepth 20000 in
theorem iwX1_usedWith_X1 : ∀ w ∈ wsX10, w ∈ wsX1_usedWith := by decide +kernel
theorem fwX1_usedWith_29 : Cond.fieldLink RX1 29 "MaskParts$Painter" "net" "LMaskParts$Net;" ∈ wsX1_usedWith := by decide +kernel
theorem fwX1_usedWith_73 : Cond.fieldLink RX1 73 "MaskParts$Net" "stitchedToLast" "[Z" ∈ wsX1_usedWith := by decide +kernel
set_option maxRecDepth 20000 in
theorem iwX1_usedWith_X0 : ∀ w ∈ wsX00, w ∈ wsX1_usedWith := by decide +kernel
theorem fwX1_usedWith_18 : Cond.fieldLink RX1 18 "MaskParts$Painter" "hue" "[I" ∈ wsX1_usedWith := by decide +kernel
abbrev QX1_usedWith (dC : Nat → ClassId) (dI : Nat → Nat → Nat) (cI cJ cZ : ClassId) (q : Nat → Nat) (sz : Nat) (pg : Int32) (ps : Int32) (nf : Int32) (np : Int32) (nq : Int32) (ns : Int32) (po : Int32) (pt : Int32) (rf : Int32) (rl : Int32) (bx : (Nat → Int32)) (xl : (Nat → Int32)) (xr : (Nat → Int32)) (yl : (Nat → Int32)) (yh : (Nat → Int32)) (ms : (Nat → Int32)) (wt : (Nat → Int32)) (pf : (Nat → Int32)) (nr : (Nat → Int64)) (sl : (Nat → Int32)) (cl : (Nat → Int32)) (hu : (Nat → Int32)) (uu : (Nat → Int32)) (pd : (Nat → Int64)) (ro : (Nat → Int32)) (rc : (Nat → Int64)) (K : Int32 → Prop) : Array Value → State → Outcome → State → Prop := va_Qi (fun (r : Int32) (u : Unit) => K r) (fun (u : Unit) t => va_P (dC, dI) vwCl (WC q cI cJ cZ pg ps nf np nq ns po pt rf rl bx xl xr yl yh ms wt pf nr sl cl hu uu pd ro rc) t.heap) (AF q 21 sz)
def bkX1_usedWith_40 (sl : (Nat → Int32)) (hu : (Nat → Int32)) (uu : (Nat → Int32)) (K : Int32 → Prop) (v1 : Int32) (s0 : Int32) : Prop := (vp_in ((v1 - 1)) 40 ∧ ((s0 = 0 → K (((uu ((v1 - 1) : Int32).toNatClampNeg) + 0)) ) ∧ (¬ (s0 = 0) → K (((uu ((v1 - 1) : Int32).toNatClampNeg) + 1)) )))
set_option maxHeartbeats 4000000 in
set_option maxRecDepth 100000 in
theorem mX1_usedWith_40 {p : Program} {l : Launch} {e : Env} {s : State} {m : MethodId} {av : Array Value} {below : List Frame} {meth : Method} {c : Code} {dC : Nat → ClassId} {dI : Nat → Nat → Nat} {cI cJ cZ : ClassId} {q : Nat → Nat} {K : Int32 → Prop} (pg : Int32) (ps : Int32) (nf : Int32) (np : Int32) (nq : Int32) (ns : Int32) (po : Int32) (pt : Int32) (rf : Int32) (rl : Int32) (bx : (Nat → Int32)) (xl : (Nat → Int32)) (xr : (Nat → Int32)) (yl : (Nat → Int32)) (yh : (Nat → Int32)) (ms : (Nat → Int32)) (wt : (Nat → Int32)) (pf : (Nat → Int32)) (nr : (Nat → Int64)) (sl : (Nat → Int32)) (cl : (Nat → Int32)) (hu : (Nat → Int32)) (uu : (Nat → Int32)) (pd : (Nat → Int64)) (ro : (Nat → Int32)) (rc : (Nat → Int64)) (C : CX p s m av meth c cX1_usedWith 3 (some .int) RX1 wsX1_usedWith) (hK : va_K (dC, dI) vwCl (TY cI cJ cZ) s) (ha : apart q 21) (hN : NX s)  : ∀ (v1 : Int32) (s0 : Int32) (ls : Array Slot) (H : Heap) (locs : List Loc), bkX1_usedWith_40 sl hu uu K v1 s0 → lv_has ls 3 [(0, .ref (q 3)), (1, .int v1)] → va_P (dC, dI) vwCl (WC q cI cJ cZ pg ps nf np nq ns po pt rf rl bx xl xr yl yh ms wt pf nr sl cl hu uu pd ro rc) H → va_S (AF q 21 s.heap.size) s.heap H locs → W p l e { frames := 0, cells := 0, slots := 0, locals := 0 } s m av below meth c H locs 0 0 (MQ below (QX1_usedWith dC dI cI cJ cZ q s.heap.size pg ps nf np nq ns po pt rf rl bx xl xr yl yh ms wt pf nr sl cl hu uu pd ro rc K) av s 0 0 (AF q 21 s.heap.size)) (F0 m 40 ls [.int s0]) := by
  obtain ⟨hx, hb, hr, hml, hown, hts, hlk⟩ := id C
  intro v1 s0 ls H locs h hl hP hS
  unfold bkX1_usedWith_40 at h
  refine lv_istore_n (lv' := [(2, .int s0), (0, .ref (q 3)), (1, .int v1)]) hx hb dX1_usedWith_40 rfl hl (by decide) rfl (fun ls hl => ?_)
  refine lv_aload_n hx hb dX1_usedWith_41 rfl (lv_at hl 1 rfl) ?_
  refine va_get (D := (dC, dI)) (ci := 1) (v := .ref (q 17)) (C := RX1) (T := TX1) (N := 6) hx hb hts iwX1_usedWith_X1 hown hK hP 3 rfl rfl 4 (by decide) (hts _ fwX1_usedWith_22) (fun _ h9 => h9) rfl dX1_usedWith_42 ?_
  refine lv_iload_n hx hb dX1_usedWith_45 rfl (lv_at hl 2 rfl) ?_
  refine lv_iconst (v := 1) hx hb dX1_usedWith_46 (by decide) ?_
  refine lv_isub hx hb dX1_usedWith_47 ?_
  obtain ⟨b1, h⟩ := h
  refine va_iald (D := (dC, dI)) hx hb hK hP 17 0 rfl rfl b1 dX1_usedWith_48 ?_
  refine lv_iload_n hx hb dX1_usedWith_49 rfl (lv_at hl 0 rfl) ?_
  refine lv_if_eq (tgt := 57) hx hb dX1_usedWith_50 (by decide) (fun c2 => ?_) (fun c2 => ?_)
  · have h := h.1 c2
    refine lv_iconst (v := 0) hx hb dX1_usedWith_57 (by decide) ?_
    refine lv_iadd hx hb dX1_usedWith_58 ?_
    exact rt_i () hx hb hr hlk h (fun t ht => by rw [ht]; exact hP) hS dX1_usedWith_59
  · have h := h.2 c2
    refine lv_iconst (v := 1) hx hb dX1_usedWith_53 (by decide) ?_
    refine lv_goto (tgt := 58) hx hb dX1_usedWith_54 (by decide) ?_
    refine lv_iadd hx hb dX1_usedWith_58 ?_
    exact rt_i () hx hb hr hlk h (fun t ht => by rw [ht]; exact hP) hS dX1_usedWith_59
def bkX1_usedWith_39 (sl : (Nat → Int32)) (hu : (Nat → Int32)) (uu : (Nat → Int32)) (K : Int32 → Prop) (v1 : Int32) : Prop := bkX1_usedWith_40 sl hu uu K v1 0
set_option maxHeartbeats 4000000 in
set_option maxRecDepth 100000 in
theorem mX1_usedWith_39 {p : Program} {l : Launch} {e : Env} {s : State} {m : MethodId} {av : Array Value} {below : List Frame} {meth : Method} {c : Code} {dC : Nat → ClassId} {dI : Nat → Nat → Nat} {cI cJ cZ : ClassId} {q : Nat → Nat} {K : Int32 → Prop} (pg : Int32) (ps : Int32) (nf : Int32) (np : Int32) (nq : Int32) (ns : Int32) (po : Int32) (pt : Int32) (rf : Int32) (rl : Int32) (bx : (Nat → Int32)) (xl : (Nat → Int32)) (xr : (Nat → Int32)) (yl : (Nat → Int32)) (yh : (Nat → Int32)) (ms : (Nat → Int32)) (wt : (Nat → Int32)) (pf : (Nat → Int32)) (nr : (Nat → Int64)) (sl : (Nat → Int32)) (cl : (Nat → Int32)) (hu : (Nat → Int32)) (uu : (Nat → Int32)) (pd : (Nat → Int64)) (ro : (Nat → Int32)) (rc : (Nat → Int64)) (C : CX p s m av meth c cX1_usedWith 3 (some .int) RX1 wsX1_usedWith) (hK : va_K (dC, dI) vwCl (TY cI cJ cZ) s) (ha : apart q 21) (hN : NX s)  : ∀ (v1 : Int32) (ls : Array Slot) (H : Heap) (locs : List Loc), bkX1_usedWith_39 sl hu uu K v1 → lv_has ls 3 [(0, .ref (q 3)), (1, .int v1)] → va_P (dC, dI) vwCl (WC q cI cJ cZ pg ps nf np nq ns po pt rf rl bx xl xr yl yh ms wt pf nr sl cl hu uu pd ro rc) H → va_S (AF q 21 s.heap.size) s.heap H locs → W p l e { frames := 0, cells := 0, slots := 0, locals := 0 } s m av below meth c H locs 0 0 (MQ below (QX1_usedWith dC dI cI cJ cZ q s.heap.size pg ps nf np nq ns po pt rf rl bx xl xr yl yh ms wt pf nr sl cl hu uu pd ro rc K) av s 0 0 (AF q 21 s.heap.size)) (F0 m 39 ls []) := by
  obtain ⟨hx, hb, hr, hml, hown, hts, hlk⟩ := id C
  intro v1 ls H locs h hl hP hS
  unfold bkX1_usedWith_39 at h
  refine lv_iconst (v := 0) hx hb dX1_usedWith_39 (by decide) ?_
  exact mX1_usedWith_40 pg ps nf np nq ns po pt rf rl bx xl xr yl yh ms wt pf nr sl cl hu uu pd ro rc C hK ha hN  v1 0 ls H locs h (lv_sub hl [0, 1] rfl) hP hS
def wX1_usedWith (sl : (Nat → Int32)) (hu : (Nat → Int32)) (uu : (Nat → Int32)) (v1 : Int32) (K : Int32 → Prop) : Prop := ((¬ v1 = 0 → (vp_in v1 40 ∧ (((sl v1.toNatClampNeg) = 0 → bkX1_usedWith_39 sl hu uu K v1) ∧ (¬ ((sl v1.toNatClampNeg) = 0) → (vp_in v1 40 ∧ (vp_in ((v1 - 1)) 40 ∧ (((hu v1.toNatClampNeg) = (hu ((v1 - 1) : Int32).toNatClampNeg) → bkX1_usedWith_39 sl hu uu K v1) ∧ (¬ ((hu v1.toNatClampNeg) = (hu ((v1 - 1) : Int32).toNatClampNeg)) → bkX1_usedWith_40 sl hu uu K v1 1)))))))) ∧ (v1 = 0 → K 0 ))
set_option maxHeartbeats 4000000 in
set_option maxRecDepth 100000 in
theorem ktX1_usedWith (l : Launch) (dC : Nat → ClassId) (dI : Nat → Nat → Nat) (q : Nat → Nat) (cI cJ cZ : ClassId) (sz : Nat) (pg : Int32) (ps : Int32) (nf : Int32) (np : Int32) (nq : Int32) (ns : Int32) (po : Int32) (pt : Int32) (rf : Int32) (rl : Int32) (bx : (Nat → Int32)) (xl : (Nat → Int32)) (xr : (Nat → Int32)) (yl : (Nat → Int32)) (yh : (Nat → Int32)) (ms : (Nat → Int32)) (wt : (Nat → Int32)) (pf : (Nat → Int32)) (nr : (Nat → Int64)) (sl : (Nat → Int32)) (cl : (Nat → Int32)) (hu : (Nat → Int32)) (uu : (Nat → Int32)) (pd : (Nat → Int64)) (ro : (Nat → Int32)) (rc : (Nat → Int64)) (v1 : Int32) {K : Int32 → Prop} (h : wX1_usedWith sl hu uu v1 K) : Met l yX1_usedWith wsX1_usedWith { frames := 0, cells := 0, slots := 0, locals := 0 } (va_Pc [.ref (q 3), .int v1] (wd dC dI cI cJ cZ q 21 sz (WC q cI cJ cZ pg ps nf np nq ns po pt rf rl bx xl xr yl yh ms wt pf nr sl cl hu uu pd ro rc))) (QX1_usedWith dC dI cI cJ cZ q sz pg ps nf np nq ns po pt rf rl bx xl xr yl yh ms wt pf nr sl cl hu uu pd ro rc K) 0 0 (AF q 21 sz) := by
  refine met_of [.ref (q 3), .int v1] (by decide +kernel) rfl (Nat.le_of_ble_eq_true rfl) ?_
  intro p e s m below meth c ls hsz C hK ha hN hl hP
  subst hsz
  obtain ⟨hx, hb, hr, hml, hown, hts, hlk⟩ := id C
  have hl : lv_has ls 3 [(0, .ref (q 3)), (1, .int v1)] := hl
  refine w_go (Pw := fun H => va_P (dC, dI) vwCl (WC q cI cJ cZ pg ps nf np nq ns po pt rf rl bx xl xr yl yh ms wt pf nr sl cl hu uu pd ro rc) H) (A := AF q 21 s.heap.size) (fun H locs hP hS => ?_) hP
  unfold wX1_usedWith at h
  refine lv_iload_n hx hb dX1_usedWith_0 rfl (lv_at hl 1 rfl) ?_
  refine lv_if_ne (tgt := 6) hx hb dX1_usedWith_1 (by decide) (fun c3 => ?_) (fun c3 => ?_)
  · have h := h.1 c3
    refine lv_aload_n hx hb dX1_usedWith_6 rfl (lv_at hl 0 rfl) ?_
    refine va_get (D := (dC, dI)) (ci := 1) (v := .ref (q 2)) (C := RX1) (T := TX1) (N := 6) hx hb hts iwX1_usedWith_X1 hown hK hP 3 rfl rfl 0 (by decide) (hts _ fwX1_usedWith_29) (fun _ h9 => h9) rfl dX1_usedWith_7 ?_
    refine va_get (D := (dC, dI)) (ci := 0) (v := .ref (q 14)) (C := RX0) (T := TX0) (N := 9) hx hb hts iwX1_usedWith_X0 hown hK hP 2 rfl rfl 7 (by decide) (hts _ fwX1_usedWith_73) (fun _ h9 => h9) rfl dX1_usedWith_10 ?_
    refine lv_iload_n hx hb dX1_usedWith_13 rfl (lv_at hl 1 rfl) ?_
    obtain ⟨b4, h⟩ := h
    refine va_zald (D := (dC, dI)) hx hb hK hP 14 2 rfl rfl b4 dX1_usedWith_14 ?_
    refine lv_if_eq (tgt := 39) hx hb dX1_usedWith_15 (by decide) (fun c5 => ?_) (fun c5 => ?_)
    · have h := h.1 c5
      exact mX1_usedWith_39 pg ps nf np nq ns po pt rf rl bx xl xr yl yh ms wt pf nr sl cl hu uu pd ro rc C hK ha hN  v1 ls H locs h (lv_sub hl [0, 1] rfl) hP hS
    · have h := h.2 c5
      refine lv_aload_n hx hb dX1_usedWith_18 rfl (lv_at hl 0 rfl) ?_
      refine va_get (D := (dC, dI)) (ci := 1) (v := .ref (q 16)) (C := RX1) (T := TX1) (N := 6) hx hb hts iwX1_usedWith_X1 hown hK hP 3 rfl rfl 3 (by decide) (hts _ fwX1_usedWith_18) (fun _ h9 => h9) rfl dX1_usedWith_19 ?_
      refine lv_iload_n hx hb dX1_usedWith_22 rfl (lv_at hl 1 rfl) ?_
      obtain ⟨b6, h⟩ := h
      refine va_iald (D := (dC, dI)) hx hb hK hP 16 0 rfl rfl b6 dX1_usedWith_23 ?_
      refine lv_aload_n hx hb dX1_usedWith_24 rfl (lv_at hl 0 rfl) ?_
      refine va_get (D := (dC, dI)) (ci := 1) (v := .ref (q 16)) (C := RX1) (T := TX1) (N := 6) hx hb hts iwX1_usedWith_X1 hown hK hP 3 rfl rfl 3 (by decide) (hts _ fwX1_usedWith_18) (fun _ h9 => h9) rfl dX1_usedWith_25 ?_
      refine lv_iload_n hx hb dX1_usedWith_28 rfl (lv_at hl 1 rfl) ?_
      refine lv_iconst (v := 1) hx hb dX1_usedWith_29 (by decide) ?_
      refine lv_isub hx hb dX1_usedWith_30 ?_
      obtain ⟨b7, h⟩ := h
      refine va_iald (D := (dC, dI)) hx hb hK hP 16 0 rfl rfl b7 dX1_usedWith_31 ?_
      refine lv_icmp_eq (tgt := 39) hx hb dX1_usedWith_32 (by decide) (fun c8 => ?_) (fun c8 => ?_)
      · have h := h.1 c8
        exact mX1_usedWith_39 pg ps nf np nq ns po pt rf rl bx xl xr yl yh ms wt pf nr sl cl hu uu pd ro rc C hK ha hN  v1 ls H locs h (lv_sub hl [0, 1] rfl) hP hS
      · have h := h.2 c8
        refine lv_iconst (v := 1) hx hb dX1_usedWith_35 (by decide) ?_
        refine lv_goto (tgt := 40) hx hb dX1_usedWith_36 (by decide) ?_
        exact mX1_usedWith_40 pg ps nf np nq ns po pt rf rl bx xl xr yl yh ms wt pf nr sl cl hu uu pd ro rc C hK ha hN  v1 1 ls H locs h (lv_sub hl [0, 1] rfl) hP hS
  · have h := h.2 c3
    refine lv_iconst (v := 0) hx hb dX1_usedWith_4 (by decide) ?_
    exact rt_i () hx hb hr hlk h (fun t ht => by rw [ht]; exact hP) hS dX1_usedWith_5

theorem fwX1_fits_22 : Cond.fieldLink RX1 22 "MaskParts$Painter" "usedUpTo" "[I" ∈ wsX1_fits := by decide +kernel
set_option maxRecDepth 20000 in
theorem iwX1_fits_X1 : ∀ w ∈ wsX10, w ∈ wsX1_fits := by decide +kernel
theorem fwX1_fits_29 : Cond.fieldLink RX1 29 "MaskParts$Painter" "net" "LMaskParts$Net;" ∈ wsX1_fits := by decide +kernel
theorem fwX1_fits_67 : Cond.fieldLink RX1 67 "MaskParts$Net" "coloursLeft" "[I" ∈ wsX1_fits := by decide +kernel
set_option maxRecDepth 20000 in
theorem iwX1_fits_X0 : ∀ w ∈ wsX00, w ∈ wsX1_fits := by decide +kernel
theorem fwX1_fits_18 : Cond.fieldLink RX1 18 "MaskParts$Painter" "hue" "[I" ∈ wsX1_fits := by decide +kernel
theorem fwX1_fits_25 : Cond.fieldLink RX1 25 "MaskParts$Painter" "painted" "[J" ∈ wsX1_fits := by decide +kernel
theorem fwX1_fits_70 : Cond.fieldLink RX1 70 "MaskParts$Net" "near" "[J" ∈ wsX1_fits := by decide +kernel
abbrev QX1_fits (dC : Nat → ClassId) (dI : Nat → Nat → Nat) (cI cJ cZ : ClassId) (q : Nat → Nat) (sz : Nat) (pg : Int32) (ps : Int32) (nf : Int32) (np : Int32) (nq : Int32) (ns : Int32) (po : Int32) (pt : Int32) (rf : Int32) (rl : Int32) (bx : (Nat → Int32)) (xl : (Nat → Int32)) (xr : (Nat → Int32)) (yl : (Nat → Int32)) (yh : (Nat → Int32)) (ms : (Nat → Int32)) (wt : (Nat → Int32)) (pf : (Nat → Int32)) (nr : (Nat → Int64)) (sl : (Nat → Int32)) (cl : (Nat → Int32)) (hu : (Nat → Int32)) (pd : (Nat → Int64)) (ro : (Nat → Int32)) (rc : (Nat → Int64)) (K : Int32 → (Nat → Int32) → Prop) : Array Value → State → Outcome → State → Prop := va_Qi (fun (r : Int32) (u : (Nat → Int32)) => K r u) (fun (u : (Nat → Int32)) t => va_P (dC, dI) vwCl (WC q cI cJ cZ pg ps nf np nq ns po pt rf rl bx xl xr yl yh ms wt pf nr sl cl hu u pd ro rc) t.heap) (AF q 21 sz)
def wX1_fits (nr : (Nat → Int64)) (sl : (Nat → Int32)) (cl : (Nat → Int32)) (hu : (Nat → Int32)) (pd : (Nat → Int64)) (uu : (Nat → Int32)) (v1 : Int32) (v2 : Int32) (K : Int32 → (Nat → Int32) → Prop) : Prop := (wX1_usedWith sl hu uu v1 (fun (r1 : Int32) => (vp_in v1 40 ∧ (∀ f4 : (Nat → Int32), f4 = upd uu v1.toNatClampNeg r1 → (vp_in v1 40 ∧ (vp_in v1 40 ∧ ((((cl v1.toNatClampNeg) &&& ((1 : Int32) <<< ((hu v1.toNatClampNeg) &&& 31))) = 0 → K 0 f4) ∧ (¬ (((cl v1.toNatClampNeg) &&& ((1 : Int32) <<< ((hu v1.toNatClampNeg) &&& 31))) = 0) → (vp_in v1 40 ∧ (vp_in ((hu v1.toNatClampNeg)) 4 ∧ (vp_in v1 40 ∧ ((¬ (lg_cmp (((pd ((hu v1.toNatClampNeg) : Int32).toNatClampNeg) &&& (nr v1.toNatClampNeg))) 0) = 0 → K 0 f4) ∧ ((lg_cmp (((pd ((hu v1.toNatClampNeg) : Int32).toNatClampNeg) &&& (nr v1.toNatClampNeg))) 0) = 0 → (vp_in v1 40 ∧ ((v2 < (f4 v1.toNatClampNeg) → K 0 f4) ∧ (¬ (v2 < (f4 v1.toNatClampNeg)) → K 1 f4))))))))))))))))
set_option maxHeartbeats 4000000 in
set_option maxRecDepth 100000 in
theorem ktX1_fits (l : Launch) (dC : Nat → ClassId) (dI : Nat → Nat → Nat) (q : Nat → Nat) (cI cJ cZ : ClassId) (sz : Nat) (pg : Int32) (ps : Int32) (nf : Int32) (np : Int32) (nq : Int32) (ns : Int32) (po : Int32) (pt : Int32) (rf : Int32) (rl : Int32) (bx : (Nat → Int32)) (xl : (Nat → Int32)) (xr : (Nat → Int32)) (yl : (Nat → Int32)) (yh : (Nat → Int32)) (ms : (Nat → Int32)) (wt : (Nat → Int32)) (pf : (Nat → Int32)) (nr : (Nat → Int64)) (sl : (Nat → Int32)) (cl : (Nat → Int32)) (hu : (Nat → Int32)) (uu : (Nat → Int32)) (pd : (Nat → Int64)) (ro : (Nat → Int32)) (rc : (Nat → Int64)) (v1 : Int32) (v2 : Int32) {K : Int32 → (Nat → Int32) → Prop} (h : wX1_fits nr sl cl hu pd uu v1 v2 K) : Met l yX1_fits wsX1_fits { frames := 1, cells := 0, slots := 0, locals := 22 } (va_Pc [.ref (q 3), .int v1, .int v2] (wd dC dI cI cJ cZ q 21 sz (WC q cI cJ cZ pg ps nf np nq ns po pt rf rl bx xl xr yl yh ms wt pf nr sl cl hu uu pd ro rc))) (QX1_fits dC dI cI cJ cZ q sz pg ps nf np nq ns po pt rf rl bx xl xr yl yh ms wt pf nr sl cl hu pd ro rc K) 0 0 (AF q 21 sz) := by
  refine met_of [.ref (q 3), .int v1, .int v2] (by decide +kernel) rfl (Nat.le_of_ble_eq_true rfl) ?_
  intro p e s m below meth c ls hsz C hK ha hN hl hP
  subst hsz
  obtain ⟨hx, hb, hr, hml, hown, hts, hlk⟩ := id C
  have hl : lv_has ls 3 [(0, .ref (q 3)), (1, .int v1), (2, .int v2)] := hl
  refine w_go (Pw := fun H => va_P (dC, dI) vwCl (WC q cI cJ cZ pg ps nf np nq ns po pt rf rl bx xl xr yl yh ms wt pf nr sl cl hu uu pd ro rc) H) (A := AF q 21 s.heap.size) (fun H locs hP hS => ?_) hP
  unfold wX1_fits at h
  refine lv_aload_n hx hb dX1_fits_0 rfl (lv_at hl 0 rfl) ?_
  refine va_get (D := (dC, dI)) (ci := 1) (v := .ref (q 17)) (C := RX1) (T := TX1) (N := 6) hx hb hts iwX1_fits_X1 hown hK hP 3 rfl rfl 4 (by decide) (hts _ fwX1_fits_22) (fun _ h9 => h9) rfl dX1_fits_1 ?_
  refine lv_iload_n hx hb dX1_fits_4 rfl (lv_at hl 1 rfl) ?_
  refine lv_aload_n hx hb dX1_fits_5 rfl (lv_at hl 0 rfl) ?_
  refine lv_iload_n hx hb dX1_fits_6 rfl (lv_at hl 1 rfl) ?_
  refine cl_i (va_runV (As := [.int v1]) (rest := [.int v1, .ref (q 17)]) ⟨hx, hb, hml, hown, hts⟩ (ktX1_usedWith l dC dI q cI cJ cZ H.size pg ps nf np nq ns po pt rf rl bx xl xr yl yh ms wt pf nr sl cl hu uu pd ro rc v1 h) (cwV 1 hts gX1_fits_X1_usedWith rfl rfl rfl (by decide +kernel) ⟨Nat.le_of_ble_eq_true rfl, Nat.le_of_ble_eq_true rfl⟩) ⟨wd.blind, va_recv hK hP (ci := 1) (q0 := 3) rfl rfl, fun U hU hW => ⟨rfl, wd.at hP hK ha hN hU hW⟩⟩ rfl rfl hl.1 rfl (lv_room (Nat.le_of_ble_eq_true rfl)) dX1_fits_7 ⟨Nat.le_of_ble_eq_true rfl, Nat.le_of_ble_eq_true rfl⟩) hS (fun r1 _ H locs h hP hS => ?_)
  have hP : va_P (dC, dI) vwCl (WC q cI cJ cZ pg ps nf np nq ns po pt rf rl bx xl xr yl yh ms wt pf nr sl cl hu uu pd ro rc) H := hP
  obtain ⟨b3, h⟩ := h
  refine va_iast (D := (dC, dI)) hx hb hK hP (d_WC ha) hS 17 0 rfl rfl b3 dX1_fits_10 (fun H locs hP _ hS => ?_)
  obtain ⟨f4, ef4⟩ : ∃ z : (Nat → Int32), z = upd uu v1.toNatClampNeg r1 := ⟨_, rfl⟩
  have h := h f4 ef4
  have hP : va_P (dC, dI) vwCl (WC q cI cJ cZ pg ps nf np nq ns po pt rf rl bx xl xr yl yh ms wt pf nr sl cl hu f4 pd ro rc) H := by rw [ef4]; exact hP
  refine lv_aload_n hx hb dX1_fits_11 rfl (lv_at hl 0 rfl) ?_
  refine va_get (D := (dC, dI)) (ci := 1) (v := .ref (q 2)) (C := RX1) (T := TX1) (N := 6) hx hb hts iwX1_fits_X1 hown hK hP 3 rfl rfl 0 (by decide) (hts _ fwX1_fits_29) (fun _ h9 => h9) rfl dX1_fits_12 ?_
  refine va_get (D := (dC, dI)) (ci := 0) (v := .ref (q 15)) (C := RX0) (T := TX0) (N := 9) hx hb hts iwX1_fits_X0 hown hK hP 2 rfl rfl 8 (by decide) (hts _ fwX1_fits_67) (fun _ h9 => h9) rfl dX1_fits_15 ?_
  refine lv_iload_n hx hb dX1_fits_18 rfl (lv_at hl 1 rfl) ?_
  obtain ⟨b5, h⟩ := h
  refine va_iald (D := (dC, dI)) hx hb hK hP 15 0 rfl rfl b5 dX1_fits_19 ?_
  refine lv_iconst (v := 1) hx hb dX1_fits_20 (by decide) ?_
  refine lv_aload_n hx hb dX1_fits_21 rfl (lv_at hl 0 rfl) ?_
  refine va_get (D := (dC, dI)) (ci := 1) (v := .ref (q 16)) (C := RX1) (T := TX1) (N := 6) hx hb hts iwX1_fits_X1 hown hK hP 3 rfl rfl 3 (by decide) (hts _ fwX1_fits_18) (fun _ h9 => h9) rfl dX1_fits_22 ?_
  refine lv_iload_n hx hb dX1_fits_25 rfl (lv_at hl 1 rfl) ?_
  obtain ⟨b6, h⟩ := h
  refine va_iald (D := (dC, dI)) hx hb hK hP 16 0 rfl rfl b6 dX1_fits_26 ?_
  refine lv_ishl hx hb dX1_fits_27 ?_
  refine lv_iand hx hb dX1_fits_28 ?_
  refine lv_if_eq (tgt := 72) hx hb dX1_fits_29 (by decide) (fun c7 => ?_) (fun c7 => ?_)
  · have h := h.1 c7
    refine lv_iconst (v := 0) hx hb dX1_fits_72 (by decide) ?_
    exact rt_z f4 hx hb hr hlk (by decide) h (fun t ht => by rw [ht]; exact hP) hS dX1_fits_73
  · have h := h.2 c7
    refine lv_aload_n hx hb dX1_fits_32 rfl (lv_at hl 0 rfl) ?_
    refine va_get (D := (dC, dI)) (ci := 1) (v := .ref (q 18)) (C := RX1) (T := TX1) (N := 6) hx hb hts iwX1_fits_X1 hown hK hP 3 rfl rfl 5 (by decide) (hts _ fwX1_fits_25) (fun _ h9 => h9) rfl dX1_fits_33 ?_
    refine lv_aload_n hx hb dX1_fits_36 rfl (lv_at hl 0 rfl) ?_
    refine va_get (D := (dC, dI)) (ci := 1) (v := .ref (q 16)) (C := RX1) (T := TX1) (N := 6) hx hb hts iwX1_fits_X1 hown hK hP 3 rfl rfl 3 (by decide) (hts _ fwX1_fits_18) (fun _ h9 => h9) rfl dX1_fits_37 ?_
    refine lv_iload_n hx hb dX1_fits_40 rfl (lv_at hl 1 rfl) ?_
    obtain ⟨b8, h⟩ := h
    refine va_iald (D := (dC, dI)) hx hb hK hP 16 0 rfl rfl b8 dX1_fits_41 ?_
    obtain ⟨b9, h⟩ := h
    refine va_lald (D := (dC, dI)) hx hb hK hP 18 1 rfl rfl b9 dX1_fits_42 ?_
    refine lv_aload_n hx hb dX1_fits_43 rfl (lv_at hl 0 rfl) ?_
    refine va_get (D := (dC, dI)) (ci := 1) (v := .ref (q 2)) (C := RX1) (T := TX1) (N := 6) hx hb hts iwX1_fits_X1 hown hK hP 3 rfl rfl 0 (by decide) (hts _ fwX1_fits_29) (fun _ h9 => h9) rfl dX1_fits_44 ?_
    refine va_get (D := (dC, dI)) (ci := 0) (v := .ref (q 13)) (C := RX0) (T := TX0) (N := 9) hx hb hts iwX1_fits_X0 hown hK hP 2 rfl rfl 6 (by decide) (hts _ fwX1_fits_70) (fun _ h9 => h9) rfl dX1_fits_47 ?_
    refine lv_iload_n hx hb dX1_fits_50 rfl (lv_at hl 1 rfl) ?_
    obtain ⟨b10, h⟩ := h
    refine va_lald (D := (dC, dI)) hx hb hK hP 13 1 rfl rfl b10 dX1_fits_51 ?_
    refine lv_land hx hb dX1_fits_52 ?_
    refine lv_lconst (v := 0) hx hb dX1_fits_53 (by decide) ?_
    refine W.lcmp hx hb dX1_fits_54 ?_
    refine lv_if_ne (tgt := 72) hx hb dX1_fits_55 (by decide) (fun c11 => ?_) (fun c11 => ?_)
    · have h := h.1 c11
      refine lv_iconst (v := 0) hx hb dX1_fits_72 (by decide) ?_
      exact rt_z f4 hx hb hr hlk (by decide) h (fun t ht => by rw [ht]; exact hP) hS dX1_fits_73
    · have h := h.2 c11
      refine lv_aload_n hx hb dX1_fits_58 rfl (lv_at hl 0 rfl) ?_
      refine va_get (D := (dC, dI)) (ci := 1) (v := .ref (q 17)) (C := RX1) (T := TX1) (N := 6) hx hb hts iwX1_fits_X1 hown hK hP 3 rfl rfl 4 (by decide) (hts _ fwX1_fits_22) (fun _ h9 => h9) rfl dX1_fits_59 ?_
      refine lv_iload_n hx hb dX1_fits_62 rfl (lv_at hl 1 rfl) ?_
      obtain ⟨b12, h⟩ := h
      refine va_iald (D := (dC, dI)) hx hb hK hP 17 0 rfl rfl b12 dX1_fits_63 ?_
      refine lv_iload_n hx hb dX1_fits_64 rfl (lv_at hl 2 rfl) ?_
      refine lv_icmp_gt (tgt := 72) hx hb dX1_fits_65 (by decide) (fun c13 => ?_) (fun c13 => ?_)
      · have h := h.1 c13
        refine lv_iconst (v := 0) hx hb dX1_fits_72 (by decide) ?_
        exact rt_z f4 hx hb hr hlk (by decide) h (fun t ht => by rw [ht]; exact hP) hS dX1_fits_73
      · have h := h.2 c13
        refine lv_iconst (v := 1) hx hb dX1_fits_68 (by decide) ?_
        refine lv_goto (tgt := 73) hx hb dX1_fits_69 (by decide) ?_
        exact rt_z f4 hx hb hr hlk (by decide) h (fun t ht => by rw [ht]; exact hP) hS dX1_fits_73

theorem fwX1_goOn_25 : Cond.fieldLink RX1 25 "MaskParts$Painter" "painted" "[J" ∈ wsX1_goOn := by decide +kernel
set_option maxRecDepth 20000 in
theorem iwX1_goOn_X1 : ∀ w ∈ wsX10, w ∈ wsX1_goOn := by decide +kernel
theorem fwX1_goOn_18 : Cond.fieldLink RX1 18 "MaskParts$Painter" "hue" "[I" ∈ wsX1_goOn := by decide +kernel
theorem nwX1_goOn_i : Cond.initialized RX4 ∈ wsX1_goOn := by decide +kernel
theorem nwX1_goOn_s : Cond.static yX4_bit ∈ wsX1_goOn := by decide +kernel
theorem cwX1_goOn_77 : Cond.constantLong RX1 77 (-1) ∈ wsX1_goOn := by decide +kernel
abbrev QX1_goOn (dC : Nat → ClassId) (dI : Nat → Nat → Nat) (cI cJ cZ : ClassId) (q : Nat → Nat) (sz : Nat) (pg : Int32) (ps : Int32) (nf : Int32) (np : Int32) (nq : Int32) (ns : Int32) (po : Int32) (pt : Int32) (rf : Int32) (rl : Int32) (bx : (Nat → Int32)) (xl : (Nat → Int32)) (xr : (Nat → Int32)) (yl : (Nat → Int32)) (yh : (Nat → Int32)) (ms : (Nat → Int32)) (wt : (Nat → Int32)) (pf : (Nat → Int32)) (nr : (Nat → Int64)) (sl : (Nat → Int32)) (cl : (Nat → Int32)) (uu : (Nat → Int32)) (ro : (Nat → Int32)) (rc : (Nat → Int64)) (K : Int32 → ((Nat → Int32) × (Nat → Int64)) → Prop) : Array Value → State → Outcome → State → Prop := va_Qi (fun (r : Int32) (u : (Nat → Int32) × (Nat → Int64)) => K r u) (fun (u : (Nat → Int32) × (Nat → Int64)) t => va_P (dC, dI) vwCl (WC q cI cJ cZ pg ps nf np nq ns po pt rf rl bx xl xr yl yh ms wt pf nr sl cl u.1 uu u.2 ro rc) t.heap) (AF q 21 sz)
def lpX1_goOn_2 (K : Int32 → ((Nat → Int32) × (Nat → Int64)) → Prop) (k40 : (Nat → Int32) → (Nat → Int64) → Int32 → Prop) (k58 : (Nat → Int32) → (Nat → Int64) → Prop) : Nat → (Nat → Int32) → (Nat → Int64) → Int32 → Int32 → Prop
  | 0, _, _, _, _ => False
  | n + 1, hu, pd, v2, v3 => ((v3 < 0 → k58 hu pd) ∧ (¬ (v3 < 0) → (vp_in v3 40 ∧ (vp_in ((hu v3.toNatClampNeg)) 4 ∧ (wX4_bit v3 (fun r4 : Int64 => (vp_in ((hu v3.toNatClampNeg)) 4 ∧ (∀ f7 : (Nat → Int64), f7 = vp_updL pd ((hu v3.toNatClampNeg) : Int32).toNatClampNeg (((pd ((hu v3.toNatClampNeg) : Int32).toNatClampNeg) &&& (r4 ^^^ (-1)))) → (vp_in v3 40 ∧ ((v2 ≤ ((hu v3.toNatClampNeg) + 1) → (∀ i10 : Int32, i10 = v3 + (-1) → lpX1_goOn_2 K k40 k58 n hu f7 v2 i10)) ∧ (¬ (v2 ≤ ((hu v3.toNatClampNeg) + 1)) → k40 hu f7 v3)))))))))))
set_option maxHeartbeats 4000000 in
set_option maxRecDepth 100000 in
theorem mX1_goOn_2 {p : Program} {l : Launch} {e : Env} {s : State} {m : MethodId} {av : Array Value} {below : List Frame} {meth : Method} {c : Code} {dC : Nat → ClassId} {dI : Nat → Nat → Nat} {cI cJ cZ : ClassId} {q : Nat → Nat} {K : Int32 → ((Nat → Int32) × (Nat → Int64)) → Prop} {k40 : (Nat → Int32) → (Nat → Int64) → Int32 → Prop} {k58 : (Nat → Int32) → (Nat → Int64) → Prop} (pg : Int32) (ps : Int32) (nf : Int32) (np : Int32) (nq : Int32) (ns : Int32) (po : Int32) (pt : Int32) (rf : Int32) (rl : Int32) (bx : (Nat → Int32)) (xl : (Nat → Int32)) (xr : (Nat → Int32)) (yl : (Nat → Int32)) (yh : (Nat → Int32)) (ms : (Nat → Int32)) (wt : (Nat → Int32)) (pf : (Nat → Int32)) (nr : (Nat → Int64)) (sl : (Nat → Int32)) (cl : (Nat → Int32)) (uu : (Nat → Int32)) (ro : (Nat → Int32)) (rc : (Nat → Int64)) (C : CX p s m av meth c cX1_goOn 4 (some .int) RX1 wsX1_goOn) (hK : va_K (dC, dI) vwCl (TY cI cJ cZ) s) (ha : apart q 21) (hN : NX s) (hk40 : ∀ (hu : (Nat → Int32)) (pd : (Nat → Int64)) (v3 : Int32) (ls : Array Slot) (H : Heap) (locs : List Loc), k40 hu pd v3 → lv_has ls 4 [(0, .ref (q 3)), (3, .int v3)] → va_P (dC, dI) vwCl (WC q cI cJ cZ pg ps nf np nq ns po pt rf rl bx xl xr yl yh ms wt pf nr sl cl hu uu pd ro rc) H → va_S (AF q 21 s.heap.size) s.heap H locs → W p l e { frames := 1, cells := 0, slots := 0, locals := 20 } s m av below meth c H locs 0 0 (MQ below (QX1_goOn dC dI cI cJ cZ q s.heap.size pg ps nf np nq ns po pt rf rl bx xl xr yl yh ms wt pf nr sl cl uu ro rc K) av s 0 0 (AF q 21 s.heap.size)) (F0 m 40 ls [])) (hk58 : ∀ (hu : (Nat → Int32)) (pd : (Nat → Int64)) (ls : Array Slot) (H : Heap) (locs : List Loc), k58 hu pd → lv_has ls 4 [] → va_P (dC, dI) vwCl (WC q cI cJ cZ pg ps nf np nq ns po pt rf rl bx xl xr yl yh ms wt pf nr sl cl hu uu pd ro rc) H → va_S (AF q 21 s.heap.size) s.heap H locs → W p l e { frames := 1, cells := 0, slots := 0, locals := 20 } s m av below meth c H locs 0 0 (MQ below (QX1_goOn dC dI cI cJ cZ q s.heap.size pg ps nf np nq ns po pt rf rl bx xl xr yl yh ms wt pf nr sl cl uu ro rc K) av s 0 0 (AF q 21 s.heap.size)) (F0 m 58 ls [])) : ∀ (n : Nat) (hu : (Nat → Int32)) (pd : (Nat → Int64)) (v2 : Int32) (v3 : Int32) (ls : Array Slot) (H : Heap) (locs : List Loc), lpX1_goOn_2 K k40 k58 n hu pd v2 v3 → lv_has ls 4 [(0, .ref (q 3)), (2, .int v2), (3, .int v3)] → va_P (dC, dI) vwCl (WC q cI cJ cZ pg ps nf np nq ns po pt rf rl bx xl xr yl yh ms wt pf nr sl cl hu uu pd ro rc) H → va_S (AF q 21 s.heap.size) s.heap H locs → W p l e { frames := 1, cells := 0, slots := 0, locals := 20 } s m av below meth c H locs 0 0 (MQ below (QX1_goOn dC dI cI cJ cZ q s.heap.size pg ps nf np nq ns po pt rf rl bx xl xr yl yh ms wt pf nr sl cl uu ro rc K) av s 0 0 (AF q 21 s.heap.size)) (F0 m 2 ls []) := by
  obtain ⟨hx, hb, hr, hml, hown, hts, hlk⟩ := id C
  intro n
  induction n with
  | zero =>
    intro hu pd v2 v3 ls H locs h
    exact h.elim
  | succ n ih =>
    intro hu pd v2 v3 ls H locs h hl hP hS
    rw [lpX1_goOn_2.eq_2] at h
    refine lv_iload_n hx hb dX1_goOn_2 rfl (lv_at hl 2 rfl) ?_
    refine lv_if_lt (tgt := 58) hx hb dX1_goOn_3 (by decide) (fun c1 => ?_) (fun c1 => ?_)
    · have h := h.1 c1
      exact hk58 hu pd ls H locs h (lv_sub hl [] rfl) hP hS
    · have h := h.2 c1
      refine lv_aload_n hx hb dX1_goOn_6 rfl (lv_at hl 0 rfl) ?_
      refine va_get (D := (dC, dI)) (ci := 1) (v := .ref (q 18)) (C := RX1) (T := TX1) (N := 6) hx hb hts iwX1_goOn_X1 hown hK hP 3 rfl rfl 5 (by decide) (hts _ fwX1_goOn_25) (fun _ h9 => h9) rfl dX1_goOn_7 ?_
      refine lv_aload_n hx hb dX1_goOn_10 rfl (lv_at hl 0 rfl) ?_
      refine va_get (D := (dC, dI)) (ci := 1) (v := .ref (q 16)) (C := RX1) (T := TX1) (N := 6) hx hb hts iwX1_goOn_X1 hown hK hP 3 rfl rfl 3 (by decide) (hts _ fwX1_goOn_18) (fun _ h9 => h9) rfl dX1_goOn_11 ?_
      refine lv_iload_n hx hb dX1_goOn_14 rfl (lv_at hl 2 rfl) ?_
      obtain ⟨b2, h⟩ := h
      refine va_iald (D := (dC, dI)) hx hb hK hP 16 0 rfl rfl b2 dX1_goOn_15 ?_
      refine lv_dup2_11 hx hb dX1_goOn_16 rfl rfl ?_
      obtain ⟨b3, h⟩ := h
      refine va_lald (D := (dC, dI)) hx hb hK hP 18 1 rfl rfl b3 dX1_goOn_17 ?_
      refine lv_iload_n hx hb dX1_goOn_18 rfl (lv_at hl 2 rfl) ?_
      refine cl_pl (va_runSN (host := "MaskParts") (As := [.int v3]) (rest := [.long (pd ((hu v3.toNatClampNeg) : Int32).toNatClampNeg), .int (hu v3.toNatClampNeg), .ref (q 18)]) ⟨hx, hb, hml, hown, hts⟩ (ktX4_bit l H.size v3 h) ⟨va_cnB 1 hts gX1_goOn_X4_bit_n55 rfl rfl rfl hN.2.1 (hts _ nwX1_goOn_i) (by decide +kernel) ⟨Nat.le_of_ble_eq_true rfl, Nat.le_of_ble_eq_true rfl⟩, hts _ nwX1_goOn_s, trivial⟩ ⟨pz.blind, fun U hU _ => ⟨rfl, pz.at hU⟩⟩ rfl rfl hl.1 rfl (lv_room (Nat.le_of_ble_eq_true rfl)) dX1_goOn_19 ⟨Nat.le_of_ble_eq_true rfl, Nat.le_of_ble_eq_true rfl⟩) hP hS (fun r4 _ H locs h hP hS => ?_)
      refine lv_ldc2 (v := (-1)) hx hb hown (hts _ cwX1_goOn_77) dX1_goOn_22 ?_
      refine lv_lxor hx hb dX1_goOn_25 ?_
      refine lv_land hx hb dX1_goOn_26 ?_
      obtain ⟨b6, h⟩ := h
      refine va_last (D := (dC, dI)) hx hb hK hP (d_WC ha) hS 18 1 rfl rfl b6 dX1_goOn_27 (fun H locs hP _ hS => ?_)
      obtain ⟨f7, ef7⟩ : ∃ z : (Nat → Int64), z = vp_updL pd ((hu v3.toNatClampNeg) : Int32).toNatClampNeg (((pd ((hu v3.toNatClampNeg) : Int32).toNatClampNeg) &&& (r4 ^^^ (-1)))) := ⟨_, rfl⟩
      have h := h f7 ef7
      have hP : va_P (dC, dI) vwCl (WC q cI cJ cZ pg ps nf np nq ns po pt rf rl bx xl xr yl yh ms wt pf nr sl cl hu uu f7 ro rc) H := by rw [ef7]; exact hP
      refine lv_aload_n hx hb dX1_goOn_28 rfl (lv_at hl 0 rfl) ?_
      refine va_get (D := (dC, dI)) (ci := 1) (v := .ref (q 16)) (C := RX1) (T := TX1) (N := 6) hx hb hts iwX1_goOn_X1 hown hK hP 3 rfl rfl 3 (by decide) (hts _ fwX1_goOn_18) (fun _ h9 => h9) rfl dX1_goOn_29 ?_
      refine lv_iload_n hx hb dX1_goOn_32 rfl (lv_at hl 2 rfl) ?_
      obtain ⟨b8, h⟩ := h
      refine va_iald (D := (dC, dI)) hx hb hK hP 16 0 rfl rfl b8 dX1_goOn_33 ?_
      refine lv_iconst (v := 1) hx hb dX1_goOn_34 (by decide) ?_
      refine lv_iadd hx hb dX1_goOn_35 ?_
      refine lv_iload_n hx hb dX1_goOn_36 rfl (lv_at hl 1 rfl) ?_
      refine lv_icmp_ge (tgt := 52) hx hb dX1_goOn_37 (by decide) (fun c9 => ?_) (fun c9 => ?_)
      · have h := h.1 c9
        obtain ⟨i10, ei10⟩ : ∃ y : Int32, y = v3 + (-1) := ⟨_, rfl⟩
        refine lv_iinc (v := i10) (lv' := [(3, .int i10), (0, .ref (q 3)), (2, .int v2)]) hx hb dX1_goOn_52 hl (k := 2) rfl (by rw [ei10]; rfl) (by decide) rfl (fun ls hl => ?_)
        have h := h i10 ei10
        refine lv_goto (tgt := 2) hx hb dX1_goOn_55 (by decide) ?_
        exact ih hu f7 v2 i10 ls H locs h (lv_sub hl [1, 2, 0] rfl) hP hS
      · have h := h.2 c9
        exact hk40 hu f7 v3 ls H locs h (lv_sub hl [0, 2] rfl) hP hS
def wX1_goOn (hu : (Nat → Int32)) (pd : (Nat → Int64)) (v1 : Int32) (v2 : Int32) (K : Int32 → ((Nat → Int32) × (Nat → Int64)) → Prop) : Prop := (∃ z2, lpX1_goOn_2 K (fun (hu : (Nat → Int32)) (pd : (Nat → Int64)) (v3 : Int32) => (vp_in v3 40 ∧ (vp_in v3 40 ∧ (∀ f13 : (Nat → Int32), f13 = upd hu v3.toNatClampNeg (((hu v3.toNatClampNeg) + 1)) → K v3 (f13, pd))))) (fun (hu : (Nat → Int32)) (pd : (Nat → Int64)) => K (-1) (hu, pd)) z2 hu pd v2 v1)
set_option maxHeartbeats 4000000 in
set_option maxRecDepth 100000 in
theorem ktX1_goOn (l : Launch) (dC : Nat → ClassId) (dI : Nat → Nat → Nat) (q : Nat → Nat) (cI cJ cZ : ClassId) (sz : Nat) (pg : Int32) (ps : Int32) (nf : Int32) (np : Int32) (nq : Int32) (ns : Int32) (po : Int32) (pt : Int32) (rf : Int32) (rl : Int32) (bx : (Nat → Int32)) (xl : (Nat → Int32)) (xr : (Nat → Int32)) (yl : (Nat → Int32)) (yh : (Nat → Int32)) (ms : (Nat → Int32)) (wt : (Nat → Int32)) (pf : (Nat → Int32)) (nr : (Nat → Int64)) (sl : (Nat → Int32)) (cl : (Nat → Int32)) (hu : (Nat → Int32)) (uu : (Nat → Int32)) (pd : (Nat → Int64)) (ro : (Nat → Int32)) (rc : (Nat → Int64)) (v1 : Int32) (v2 : Int32) {K : Int32 → ((Nat → Int32) × (Nat → Int64)) → Prop} (h : wX1_goOn hu pd v1 v2 K) : Met l yX1_goOn wsX1_goOn { frames := 1, cells := 0, slots := 0, locals := 20 } (va_Pc [.ref (q 3), .int v1, .int v2] (wd dC dI cI cJ cZ q 21 sz (WC q cI cJ cZ pg ps nf np nq ns po pt rf rl bx xl xr yl yh ms wt pf nr sl cl hu uu pd ro rc))) (QX1_goOn dC dI cI cJ cZ q sz pg ps nf np nq ns po pt rf rl bx xl xr yl yh ms wt pf nr sl cl uu ro rc K) 0 0 (AF q 21 sz) := by
  refine met_of [.ref (q 3), .int v1, .int v2] (by decide +kernel) rfl (Nat.le_of_ble_eq_true rfl) ?_
  intro p e s m below meth c ls hsz C hK ha hN hl hP
  subst hsz
  obtain ⟨hx, hb, hr, hml, hown, hts, hlk⟩ := id C
  have hl : lv_has ls 4 [(0, .ref (q 3)), (1, .int v1), (2, .int v2)] := hl
  refine w_go (Pw := fun H => va_P (dC, dI) vwCl (WC q cI cJ cZ pg ps nf np nq ns po pt rf rl bx xl xr yl yh ms wt pf nr sl cl hu uu pd ro rc) H) (A := AF q 21 s.heap.size) (fun H locs hP hS => ?_) hP
  unfold wX1_goOn at h
  refine lv_iload_n hx hb dX1_goOn_0 rfl (lv_at hl 1 rfl) ?_
  refine lv_istore_n (lv' := [(3, .int v1), (0, .ref (q 3)), (1, .int v1), (2, .int v2)]) hx hb dX1_goOn_1 rfl hl (by decide) rfl (fun ls hl => ?_)
  obtain ⟨n9, h⟩ := h
  exact mX1_goOn_2 pg ps nf np nq ns po pt rf rl bx xl xr yl yh ms wt pf nr sl cl uu ro rc C hK ha hN (fun hu pd v3 ls H locs h hl hP hS => by
      refine lv_aload_n hx hb dX1_goOn_40 rfl (lv_at hl 0 rfl) ?_
      refine va_get (D := (dC, dI)) (ci := 1) (v := .ref (q 16)) (C := RX1) (T := TX1) (N := 6) hx hb hts iwX1_goOn_X1 hown hK hP 3 rfl rfl 3 (by decide) (hts _ fwX1_goOn_18) (fun _ h9 => h9) rfl dX1_goOn_41 ?_
      refine lv_iload_n hx hb dX1_goOn_44 rfl (lv_at hl 1 rfl) ?_
      refine lv_dup2_11 hx hb dX1_goOn_45 rfl rfl ?_
      obtain ⟨b11, h⟩ := h
      refine va_iald (D := (dC, dI)) hx hb hK hP 16 0 rfl rfl b11 dX1_goOn_46 ?_
      refine lv_iconst (v := 1) hx hb dX1_goOn_47 (by decide) ?_
      refine lv_iadd hx hb dX1_goOn_48 ?_
      obtain ⟨b12, h⟩ := h
      refine va_iast (D := (dC, dI)) hx hb hK hP (d_WC ha) hS 16 0 rfl rfl b12 dX1_goOn_49 (fun H locs hP _ hS => ?_)
      obtain ⟨f13, ef13⟩ : ∃ z : (Nat → Int32), z = upd hu v3.toNatClampNeg (((hu v3.toNatClampNeg) + 1)) := ⟨_, rfl⟩
      have h := h f13 ef13
      have hP : va_P (dC, dI) vwCl (WC q cI cJ cZ pg ps nf np nq ns po pt rf rl bx xl xr yl yh ms wt pf nr sl cl f13 uu pd ro rc) H := by rw [ef13]; exact hP
      refine lv_iload_n hx hb dX1_goOn_50 rfl (lv_at hl 1 rfl) ?_
      exact rt_i (f13, pd) hx hb hr hlk h (fun t ht => by rw [ht]; exact hP) hS dX1_goOn_51) (fun hu pd ls H locs h hl hP hS => by
      refine lv_iconst (v := (-1)) hx hb dX1_goOn_58 (by decide) ?_
      exact rt_i (hu, pd) hx hb hr hlk h (fun t ht => by rw [ht]; exact hP) hS dX1_goOn_59) n9 hu pd v2 v1 ls H locs h (lv_sub hl [1, 3, 0] rfl) hP hS

theorem fwX1_search_15 : Cond.fieldLink RX1 15 "MaskParts$Painter" "taken" "I" ∈ wsX1_search := by decide +kernel
set_option maxRecDepth 20000 in
theorem iwX1_search_X1 : ∀ w ∈ wsX10, w ∈ wsX1_search := by decide +kernel
theorem fwX1_search_25 : Cond.fieldLink RX1 25 "MaskParts$Painter" "painted" "[J" ∈ wsX1_search := by decide +kernel
theorem fwX1_search_18 : Cond.fieldLink RX1 18 "MaskParts$Painter" "hue" "[I" ∈ wsX1_search := by decide +kernel
theorem nwX1_search_i : Cond.initialized RX4 ∈ wsX1_search := by decide +kernel
theorem nwX1_search_s : Cond.static yX4_bit ∈ wsX1_search := by decide +kernel
theorem fwX1_search_29 : Cond.fieldLink RX1 29 "MaskParts$Painter" "net" "LMaskParts$Net;" ∈ wsX1_search := by decide +kernel
theorem fwX1_search_42 : Cond.fieldLink RX1 42 "MaskParts$Net" "parts" "I" ∈ wsX1_search := by decide +kernel
set_option maxRecDepth 20000 in
theorem iwX1_search_X0 : ∀ w ∈ wsX00, w ∈ wsX1_search := by decide +kernel
abbrev QX1_search (dC : Nat → ClassId) (dI : Nat → Nat → Nat) (cI cJ cZ : ClassId) (q : Nat → Nat) (sz : Nat) (pg : Int32) (ps : Int32) (nf : Int32) (np : Int32) (nq : Int32) (ns : Int32) (po : Int32) (rf : Int32) (rl : Int32) (bx : (Nat → Int32)) (xl : (Nat → Int32)) (xr : (Nat → Int32)) (yl : (Nat → Int32)) (yh : (Nat → Int32)) (ms : (Nat → Int32)) (wt : (Nat → Int32)) (pf : (Nat → Int32)) (nr : (Nat → Int64)) (sl : (Nat → Int32)) (cl : (Nat → Int32)) (ro : (Nat → Int32)) (rc : (Nat → Int64)) (K : Int32 → (Int32 × (Nat → Int32) × (Nat → Int32) × (Nat → Int64)) → Prop) : Array Value → State → Outcome → State → Prop := va_Qi (fun (r : Int32) (u : Int32 × (Nat → Int32) × (Nat → Int32) × (Nat → Int64)) => K r u) (fun (u : Int32 × (Nat → Int32) × (Nat → Int32) × (Nat → Int64)) t => va_P (dC, dI) vwCl (WC q cI cJ cZ pg ps nf np nq ns po u.1 rf rl bx xl xr yl yh ms wt pf nr sl cl u.2.1 u.2.2.1 u.2.2.2 ro rc) t.heap) (AF q 21 sz)
def lpX1_search_30 (np : Int32) (nr : (Nat → Int64)) (sl : (Nat → Int32)) (cl : (Nat → Int32)) (K : Int32 → (Int32 × (Nat → Int32) × (Nat → Int32) × (Nat → Int64)) → Prop) (k93 : Int32 → (Nat → Int32) → (Nat → Int32) → (Nat → Int64) → Prop) (k120 : Int32 → (Nat → Int32) → (Nat → Int32) → (Nat → Int64) → Prop) (k122 : Int32 → (Nat → Int32) → (Nat → Int32) → (Nat → Int64) → Prop) : Nat → Int32 → (Nat → Int32) → (Nat → Int32) → (Nat → Int64) → Int32 → Int32 → Int32 → Int32 → Prop
  | 0, _, _, _, _, _, _, _, _ => False
  | n + 1, pt, hu, uu, pd, v1, v2, v3, v4 => ((v2 ≤ pt → k122 pt hu uu pd) ∧ (¬ (v2 ≤ pt) → (∀ i2 : Int32, i2 = (pt + 1) → (wX1_fits nr sl cl hu pd uu v4 v3 (fun (r3 : Int32) (u4 : (Nat → Int32)) => ((r3 = 0 → (wX1_goOn hu pd v4 v1 (fun (r6 : Int32) (u7 : (Nat → Int32) × (Nat → Int64)) => ((0 ≤ r6 → lpX1_search_30 np nr sl cl K k93 k120 k122 n i2 u7.1 u4 u7.2 v1 v2 v3 r6) ∧ (¬ (0 ≤ r6) → k120 i2 u7.1 u4 u7.2))))) ∧ (¬ (r3 = 0) → (vp_in v4 40 ∧ (vp_in ((hu v4.toNatClampNeg)) 4 ∧ (wX4_bit v4 (fun r11 : Int64 => (vp_in ((hu v4.toNatClampNeg)) 4 ∧ (∀ f14 : (Nat → Int64), f14 = vp_updL pd ((hu v4.toNatClampNeg) : Int32).toNatClampNeg (((pd ((hu v4.toNatClampNeg) : Int32).toNatClampNeg) ||| r11)) → (∀ i15 : Int32, i15 = v4 + 1 → ((¬ i15 = np → (vp_in i15 40 ∧ (∀ f18 : (Nat → Int32), f18 = upd hu i15.toNatClampNeg 0 → lpX1_search_30 np nr sl cl K k93 k120 k122 n i2 f18 u4 f14 v1 v2 v3 i15))) ∧ (i15 = np → k93 i2 hu u4 f14))))))))))))))))
set_option maxHeartbeats 4000000 in
set_option maxRecDepth 100000 in
theorem mX1_search_30 {p : Program} {l : Launch} {e : Env} {s : State} {m : MethodId} {av : Array Value} {below : List Frame} {meth : Method} {c : Code} {dC : Nat → ClassId} {dI : Nat → Nat → Nat} {cI cJ cZ : ClassId} {q : Nat → Nat} {K : Int32 → (Int32 × (Nat → Int32) × (Nat → Int32) × (Nat → Int64)) → Prop} {k93 : Int32 → (Nat → Int32) → (Nat → Int32) → (Nat → Int64) → Prop} {k120 : Int32 → (Nat → Int32) → (Nat → Int32) → (Nat → Int64) → Prop} {k122 : Int32 → (Nat → Int32) → (Nat → Int32) → (Nat → Int64) → Prop} (pg : Int32) (ps : Int32) (nf : Int32) (np : Int32) (nq : Int32) (ns : Int32) (po : Int32) (rf : Int32) (rl : Int32) (bx : (Nat → Int32)) (xl : (Nat → Int32)) (xr : (Nat → Int32)) (yl : (Nat → Int32)) (yh : (Nat → Int32)) (ms : (Nat → Int32)) (wt : (Nat → Int32)) (pf : (Nat → Int32)) (nr : (Nat → Int64)) (sl : (Nat → Int32)) (cl : (Nat → Int32)) (ro : (Nat → Int32)) (rc : (Nat → Int64)) (C : CX p s m av meth c cX1_search 5 (some .int) RX1 wsX1_search) (hK : va_K (dC, dI) vwCl (TY cI cJ cZ) s) (ha : apart q 21) (hN : NX s) (hk93 : ∀ (pt : Int32) (hu : (Nat → Int32)) (uu : (Nat → Int32)) (pd : (Nat → Int64)) (ls : Array Slot) (H : Heap) (locs : List Loc), k93 pt hu uu pd → lv_has ls 5 [] → va_P (dC, dI) vwCl (WC q cI cJ cZ pg ps nf np nq ns po pt rf rl bx xl xr yl yh ms wt pf nr sl cl hu uu pd ro rc) H → va_S (AF q 21 s.heap.size) s.heap H locs → W p l e { frames := 2, cells := 0, slots := 0, locals := 44 } s m av below meth c H locs 0 0 (MQ below (QX1_search dC dI cI cJ cZ q s.heap.size pg ps nf np nq ns po rf rl bx xl xr yl yh ms wt pf nr sl cl ro rc K) av s 0 0 (AF q 21 s.heap.size)) (F0 m 93 ls [])) (hk120 : ∀ (pt : Int32) (hu : (Nat → Int32)) (uu : (Nat → Int32)) (pd : (Nat → Int64)) (ls : Array Slot) (H : Heap) (locs : List Loc), k120 pt hu uu pd → lv_has ls 5 [] → va_P (dC, dI) vwCl (WC q cI cJ cZ pg ps nf np nq ns po pt rf rl bx xl xr yl yh ms wt pf nr sl cl hu uu pd ro rc) H → va_S (AF q 21 s.heap.size) s.heap H locs → W p l e { frames := 2, cells := 0, slots := 0, locals := 44 } s m av below meth c H locs 0 0 (MQ below (QX1_search dC dI cI cJ cZ q s.heap.size pg ps nf np nq ns po rf rl bx xl xr yl yh ms wt pf nr sl cl ro rc K) av s 0 0 (AF q 21 s.heap.size)) (F0 m 120 ls [])) (hk122 : ∀ (pt : Int32) (hu : (Nat → Int32)) (uu : (Nat → Int32)) (pd : (Nat → Int64)) (ls : Array Slot) (H : Heap) (locs : List Loc), k122 pt hu uu pd → lv_has ls 5 [] → va_P (dC, dI) vwCl (WC q cI cJ cZ pg ps nf np nq ns po pt rf rl bx xl xr yl yh ms wt pf nr sl cl hu uu pd ro rc) H → va_S (AF q 21 s.heap.size) s.heap H locs → W p l e { frames := 2, cells := 0, slots := 0, locals := 44 } s m av below meth c H locs 0 0 (MQ below (QX1_search dC dI cI cJ cZ q s.heap.size pg ps nf np nq ns po rf rl bx xl xr yl yh ms wt pf nr sl cl ro rc K) av s 0 0 (AF q 21 s.heap.size)) (F0 m 122 ls [])) : ∀ (n : Nat) (pt : Int32) (hu : (Nat → Int32)) (uu : (Nat → Int32)) (pd : (Nat → Int64)) (v1 : Int32) (v2 : Int32) (v3 : Int32) (v4 : Int32) (ls : Array Slot) (H : Heap) (locs : List Loc), lpX1_search_30 np nr sl cl K k93 k120 k122 n pt hu uu pd v1 v2 v3 v4 → lv_has ls 5 [(0, .ref (q 3)), (1, .int v1), (2, .int v2), (3, .int v3), (4, .int v4)] → va_P (dC, dI) vwCl (WC q cI cJ cZ pg ps nf np nq ns po pt rf rl bx xl xr yl yh ms wt pf nr sl cl hu uu pd ro rc) H → va_S (AF q 21 s.heap.size) s.heap H locs → W p l e { frames := 2, cells := 0, slots := 0, locals := 44 } s m av below meth c H locs 0 0 (MQ below (QX1_search dC dI cI cJ cZ q s.heap.size pg ps nf np nq ns po rf rl bx xl xr yl yh ms wt pf nr sl cl ro rc K) av s 0 0 (AF q 21 s.heap.size)) (F0 m 30 ls []) := by
  obtain ⟨hx, hb, hr, hml, hown, hts, hlk⟩ := id C
  intro n
  induction n with
  | zero =>
    intro pt hu uu pd v1 v2 v3 v4 ls H locs h
    exact h.elim
  | succ n ih =>
    intro pt hu uu pd v1 v2 v3 v4 ls H locs h hl hP hS
    rw [lpX1_search_30.eq_2] at h
    refine lv_aload_n hx hb dX1_search_30 rfl (lv_at hl 0 rfl) ?_
    refine va_get (D := (dC, dI)) (ci := 1) (v := .int pt) (C := RX1) (T := TX1) (N := 6) hx hb hts iwX1_search_X1 hown hK hP 3 rfl rfl 2 (by decide) (hts _ fwX1_search_15) (fun _ h9 => h9) rfl dX1_search_31 ?_
    refine lv_iload_n hx hb dX1_search_34 rfl (lv_at hl 2 rfl) ?_
    refine lv_icmp_ge (tgt := 122) hx hb dX1_search_35 (by decide) (fun c1 => ?_) (fun c1 => ?_)
    · have h := h.1 c1
      exact hk122 pt hu uu pd ls H locs h (lv_sub hl [] rfl) hP hS
    · have h := h.2 c1
      refine lv_aload_n hx hb dX1_search_38 rfl (lv_at hl 0 rfl) ?_
      refine lv_dup hx hb dX1_search_39 rfl ?_
      refine va_get (D := (dC, dI)) (ci := 1) (v := .int pt) (C := RX1) (T := TX1) (N := 6) hx hb hts iwX1_search_X1 hown hK hP 3 rfl rfl 2 (by decide) (hts _ fwX1_search_15) (fun _ h9 => h9) rfl dX1_search_40 ?_
      refine lv_iconst (v := 1) hx hb dX1_search_43 (by decide) ?_
      refine lv_iadd hx hb dX1_search_44 ?_
      refine lv_topi (fun i2 ei2 => ?_)
      have h := h i2 ei2
      refine va_put (D := (dC, dI)) (ci := 1) (v := .int i2) (ty := .int) (C := RX1) (T := TX1) (N := 6) hx hb hts iwX1_search_X1 tyX1 tyX1_ok nmX1 hown hK hP (d_WC ha) hS 3 rfl rfl 2 (by decide) (hts _ fwX1_search_15) (fun _ h9 => h9) rfl (by decide +kernel) rfl rfl (Nat.le_of_ble_eq_true rfl) dX1_search_45 (fun H locs hP _ hS => ?_)
      have hP : va_P (dC, dI) vwCl (WC q cI cJ cZ pg ps nf np nq ns po i2 rf rl bx xl xr yl yh ms wt pf nr sl cl hu uu pd ro rc) H := hP
      refine lv_aload_n hx hb dX1_search_48 rfl (lv_at hl 0 rfl) ?_
      refine lv_iload hx hb dX1_search_49 (lv_at hl 4 rfl) ?_
      refine lv_iload_n hx hb dX1_search_51 rfl (lv_at hl 3 rfl) ?_
      refine cl_i (va_runV (As := [.int v4, .int v3]) (rest := []) ⟨hx, hb, hml, hown, hts⟩ (ktX1_fits l dC dI q cI cJ cZ H.size pg ps nf np nq ns po i2 rf rl bx xl xr yl yh ms wt pf nr sl cl hu uu pd ro rc v4 v3 h) (cwV 2 hts gX1_search_X1_fits rfl rfl rfl (by decide +kernel) ⟨Nat.le_of_ble_eq_true rfl, Nat.le_of_ble_eq_true rfl⟩) ⟨wd.blind, va_recv hK hP (ci := 1) (q0 := 3) rfl rfl, fun U hU hW => ⟨rfl, wd.at hP hK ha hN hU hW⟩⟩ rfl rfl hl.1 rfl (lv_room (Nat.le_of_ble_eq_true rfl)) dX1_search_52 ⟨Nat.le_of_ble_eq_true rfl, Nat.le_of_ble_eq_true rfl⟩) hS (fun r3 u4 H locs h hP hS => ?_)
      have hP : va_P (dC, dI) vwCl (WC q cI cJ cZ pg ps nf np nq ns po i2 rf rl bx xl xr yl yh ms wt pf nr sl cl hu u4 pd ro rc) H := hP
      refine lv_if_eq (tgt := 106) hx hb dX1_search_55 (by decide) (fun c5 => ?_) (fun c5 => ?_)
      · have h := h.1 c5
        refine lv_aload_n hx hb dX1_search_106 rfl (lv_at hl 0 rfl) ?_
        refine lv_iload hx hb dX1_search_107 (lv_at hl 4 rfl) ?_
        refine lv_iload_n hx hb dX1_search_109 rfl (lv_at hl 1 rfl) ?_
        refine cl_i (va_runV (As := [.int v4, .int v1]) (rest := []) ⟨hx, hb, hml, hown, hts⟩ (ktX1_goOn l dC dI q cI cJ cZ H.size pg ps nf np nq ns po i2 rf rl bx xl xr yl yh ms wt pf nr sl cl hu u4 pd ro rc v4 v1 h) (cwV 2 hts gX1_search_X1_goOn rfl rfl rfl (by decide +kernel) ⟨Nat.le_of_ble_eq_true rfl, Nat.le_of_ble_eq_true rfl⟩) ⟨wd.blind, va_recv hK hP (ci := 1) (q0 := 3) rfl rfl, fun U hU hW => ⟨rfl, wd.at hP hK ha hN hU hW⟩⟩ rfl rfl hl.1 rfl (lv_room (Nat.le_of_ble_eq_true rfl)) dX1_search_110 ⟨Nat.le_of_ble_eq_true rfl, Nat.le_of_ble_eq_true rfl⟩) hS (fun r6 u7 H locs h hP hS => ?_)
        have hP : va_P (dC, dI) vwCl (WC q cI cJ cZ pg ps nf np nq ns po i2 rf rl bx xl xr yl yh ms wt pf nr sl cl u7.1 u4 u7.2 ro rc) H := hP
        refine lv_istore (lv' := [(4, .int r6), (0, .ref (q 3)), (1, .int v1), (2, .int v2), (3, .int v3)]) hx hb dX1_search_113 hl (by decide) rfl (fun ls hl => ?_)
        refine lv_iload hx hb dX1_search_115 (lv_at hl 0 rfl) ?_
        refine lv_if_ge (tgt := 30) hx hb dX1_search_117 (by decide) (fun c8 => ?_) (fun c8 => ?_)
        · have h := h.1 c8
          exact ih i2 u7.1 u4 u7.2 v1 v2 v3 r6 ls H locs h (lv_sub hl [1, 2, 3, 4, 0] rfl) hP hS
        · have h := h.2 c8
          exact hk120 i2 u7.1 u4 u7.2 ls H locs h (lv_sub hl [] rfl) hP hS
      · have h := h.2 c5
        refine lv_aload_n hx hb dX1_search_58 rfl (lv_at hl 0 rfl) ?_
        refine va_get (D := (dC, dI)) (ci := 1) (v := .ref (q 18)) (C := RX1) (T := TX1) (N := 6) hx hb hts iwX1_search_X1 hown hK hP 3 rfl rfl 5 (by decide) (hts _ fwX1_search_25) (fun _ h9 => h9) rfl dX1_search_59 ?_
        refine lv_aload_n hx hb dX1_search_62 rfl (lv_at hl 0 rfl) ?_
        refine va_get (D := (dC, dI)) (ci := 1) (v := .ref (q 16)) (C := RX1) (T := TX1) (N := 6) hx hb hts iwX1_search_X1 hown hK hP 3 rfl rfl 3 (by decide) (hts _ fwX1_search_18) (fun _ h9 => h9) rfl dX1_search_63 ?_
        refine lv_iload hx hb dX1_search_66 (lv_at hl 4 rfl) ?_
        obtain ⟨b9, h⟩ := h
        refine va_iald (D := (dC, dI)) hx hb hK hP 16 0 rfl rfl b9 dX1_search_68 ?_
        refine lv_dup2_11 hx hb dX1_search_69 rfl rfl ?_
        obtain ⟨b10, h⟩ := h
        refine va_lald (D := (dC, dI)) hx hb hK hP 18 1 rfl rfl b10 dX1_search_70 ?_
        refine lv_iload hx hb dX1_search_71 (lv_at hl 4 rfl) ?_
        refine cl_pl (va_runSN (host := "MaskParts") (As := [.int v4]) (rest := [.long (pd ((hu v4.toNatClampNeg) : Int32).toNatClampNeg), .int (hu v4.toNatClampNeg), .ref (q 18)]) ⟨hx, hb, hml, hown, hts⟩ (ktX4_bit l H.size v4 h) ⟨va_cnB 1 hts gX1_search_X4_bit_n55 rfl rfl rfl hN.2.1 (hts _ nwX1_search_i) (by decide +kernel) ⟨Nat.le_of_ble_eq_true rfl, Nat.le_of_ble_eq_true rfl⟩, hts _ nwX1_search_s, trivial⟩ ⟨pz.blind, fun U hU _ => ⟨rfl, pz.at hU⟩⟩ rfl rfl hl.1 rfl (lv_room (Nat.le_of_ble_eq_true rfl)) dX1_search_73 ⟨Nat.le_of_ble_eq_true rfl, Nat.le_of_ble_eq_true rfl⟩) hP hS (fun r11 _ H locs h hP hS => ?_)
        refine lv_lor hx hb dX1_search_76 ?_
        obtain ⟨b13, h⟩ := h
        refine va_last (D := (dC, dI)) hx hb hK hP (d_WC ha) hS 18 1 rfl rfl b13 dX1_search_77 (fun H locs hP _ hS => ?_)
        obtain ⟨f14, ef14⟩ : ∃ z : (Nat → Int64), z = vp_updL pd ((hu v4.toNatClampNeg) : Int32).toNatClampNeg (((pd ((hu v4.toNatClampNeg) : Int32).toNatClampNeg) ||| r11)) := ⟨_, rfl⟩
        have h := h f14 ef14
        have hP : va_P (dC, dI) vwCl (WC q cI cJ cZ pg ps nf np nq ns po i2 rf rl bx xl xr yl yh ms wt pf nr sl cl hu u4 f14 ro rc) H := by rw [ef14]; exact hP
        obtain ⟨i15, ei15⟩ : ∃ y : Int32, y = v4 + 1 := ⟨_, rfl⟩
        refine lv_iinc (v := i15) (lv' := [(4, .int i15), (0, .ref (q 3)), (1, .int v1), (2, .int v2), (3, .int v3)]) hx hb dX1_search_78 hl (k := 4) rfl (by rw [ei15]; rfl) (by decide) rfl (fun ls hl => ?_)
        have h := h i15 ei15
        refine lv_iload hx hb dX1_search_81 (lv_at hl 0 rfl) ?_
        refine lv_aload_n hx hb dX1_search_83 rfl (lv_at hl 1 rfl) ?_
        refine va_get (D := (dC, dI)) (ci := 1) (v := .ref (q 2)) (C := RX1) (T := TX1) (N := 6) hx hb hts iwX1_search_X1 hown hK hP 3 rfl rfl 0 (by decide) (hts _ fwX1_search_29) (fun _ h9 => h9) rfl dX1_search_84 ?_
        refine va_get (D := (dC, dI)) (ci := 0) (v := .int np) (C := RX0) (T := TX0) (N := 9) hx hb hts iwX1_search_X0 hown hK hP 2 rfl rfl 2 (by decide) (hts _ fwX1_search_42) (fun _ h9 => h9) rfl dX1_search_87 ?_
        refine lv_icmp_ne (tgt := 95) hx hb dX1_search_90 (by decide) (fun c16 => ?_) (fun c16 => ?_)
        · have h := h.1 c16
          refine lv_aload_n hx hb dX1_search_95 rfl (lv_at hl 1 rfl) ?_
          refine va_get (D := (dC, dI)) (ci := 1) (v := .ref (q 16)) (C := RX1) (T := TX1) (N := 6) hx hb hts iwX1_search_X1 hown hK hP 3 rfl rfl 3 (by decide) (hts _ fwX1_search_18) (fun _ h9 => h9) rfl dX1_search_96 ?_
          refine lv_iload hx hb dX1_search_99 (lv_at hl 0 rfl) ?_
          refine lv_iconst (v := 0) hx hb dX1_search_101 (by decide) ?_
          obtain ⟨b17, h⟩ := h
          refine va_iast (D := (dC, dI)) hx hb hK hP (d_WC ha) hS 16 0 rfl rfl b17 dX1_search_102 (fun H locs hP _ hS => ?_)
          obtain ⟨f18, ef18⟩ : ∃ z : (Nat → Int32), z = upd hu i15.toNatClampNeg 0 := ⟨_, rfl⟩
          have h := h f18 ef18
          have hP : va_P (dC, dI) vwCl (WC q cI cJ cZ pg ps nf np nq ns po i2 rf rl bx xl xr yl yh ms wt pf nr sl cl f18 u4 f14 ro rc) H := by rw [ef18]; exact hP
          refine lv_goto (tgt := 30) hx hb dX1_search_103 (by decide) ?_
          exact ih i2 f18 u4 f14 v1 v2 v3 i15 ls H locs h (lv_sub hl [1, 2, 3, 4, 0] rfl) hP hS
        · have h := h.2 c16
          exact hk93 i2 hu u4 f14 ls H locs h (lv_sub hl [] rfl) hP hS
def wX1_search (np : Int32) (nr : (Nat → Int64)) (sl : (Nat → Int32)) (cl : (Nat → Int32)) (pt : Int32) (hu : (Nat → Int32)) (uu : (Nat → Int32)) (pd : (Nat → Int64)) (v1 : Int32) (v2 : Int32) (v3 : Int32) (K : Int32 → (Int32 × (Nat → Int32) × (Nat → Int32) × (Nat → Int64)) → Prop) : Prop := ((¬ np = 0 → (wJ7_fill_d0a16 pd 0 (fun (u21 : (Nat → Int64)) => (vp_in 0 40 ∧ (∀ f23 : (Nat → Int32), f23 = upd hu (0 : Int32).toNatClampNeg 0 → (∃ z30, lpX1_search_30 np nr sl cl K (fun (pt : Int32) (hu : (Nat → Int32)) (uu : (Nat → Int32)) (pd : (Nat → Int64)) => K 0 (pt, hu, uu, pd)) (fun (pt : Int32) (hu : (Nat → Int32)) (uu : (Nat → Int32)) (pd : (Nat → Int64)) => K 1 (pt, hu, uu, pd)) (fun (pt : Int32) (hu : (Nat → Int32)) (uu : (Nat → Int32)) (pd : (Nat → Int64)) => K 2 (pt, hu, uu, pd)) z30 pt f23 uu u21 v1 v2 v3 0)))))) ∧ (np = 0 → K 0 (pt, hu, uu, pd)))
set_option maxHeartbeats 4000000 in
set_option maxRecDepth 100000 in
theorem ktX1_search (l : Launch) (dC : Nat → ClassId) (dI : Nat → Nat → Nat) (q : Nat → Nat) (cI cJ cZ : ClassId) (sz : Nat) (pg : Int32) (ps : Int32) (nf : Int32) (np : Int32) (nq : Int32) (ns : Int32) (po : Int32) (pt : Int32) (rf : Int32) (rl : Int32) (bx : (Nat → Int32)) (xl : (Nat → Int32)) (xr : (Nat → Int32)) (yl : (Nat → Int32)) (yh : (Nat → Int32)) (ms : (Nat → Int32)) (wt : (Nat → Int32)) (pf : (Nat → Int32)) (nr : (Nat → Int64)) (sl : (Nat → Int32)) (cl : (Nat → Int32)) (hu : (Nat → Int32)) (uu : (Nat → Int32)) (pd : (Nat → Int64)) (ro : (Nat → Int32)) (rc : (Nat → Int64)) (v1 : Int32) (v2 : Int32) (v3 : Int32) {K : Int32 → (Int32 × (Nat → Int32) × (Nat → Int32) × (Nat → Int64)) → Prop} (h : wX1_search np nr sl cl pt hu uu pd v1 v2 v3 K) : Met l yX1_search wsX1_search { frames := 2, cells := 0, slots := 0, locals := 44 } (va_Pc [.ref (q 3), .int v1, .int v2, .int v3] (wd dC dI cI cJ cZ q 21 sz (WC q cI cJ cZ pg ps nf np nq ns po pt rf rl bx xl xr yl yh ms wt pf nr sl cl hu uu pd ro rc))) (QX1_search dC dI cI cJ cZ q sz pg ps nf np nq ns po rf rl bx xl xr yl yh ms wt pf nr sl cl ro rc K) 0 0 (AF q 21 sz) := by
  refine met_of [.ref (q 3), .int v1, .int v2, .int v3] (by decide +kernel) rfl (Nat.le_of_ble_eq_true rfl) ?_
  intro p e s m below meth c ls hsz C hK ha hN hl hP
  subst hsz
  obtain ⟨hx, hb, hr, hml, hown, hts, hlk⟩ := id C
  have hl : lv_has ls 5 [(0, .ref (q 3)), (1, .int v1), (2, .int v2), (3, .int v3)] := hl
  refine w_go (Pw := fun H => va_P (dC, dI) vwCl (WC q cI cJ cZ pg ps nf np nq ns po pt rf rl bx xl xr yl yh ms wt pf nr sl cl hu uu pd ro rc) H) (A := AF q 21 s.heap.size) (fun H locs hP hS => ?_) hP
  unfold wX1_search at h
  refine lv_aload_n hx hb dX1_search_0 rfl (lv_at hl 0 rfl) ?_
  refine va_get (D := (dC, dI)) (ci := 1) (v := .ref (q 2)) (C := RX1) (T := TX1) (N := 6) hx hb hts iwX1_search_X1 hown hK hP 3 rfl rfl 0 (by decide) (hts _ fwX1_search_29) (fun _ h9 => h9) rfl dX1_search_1 ?_
  refine va_get (D := (dC, dI)) (ci := 0) (v := .int np) (C := RX0) (T := TX0) (N := 9) hx hb hts iwX1_search_X0 hown hK hP 2 rfl rfl 2 (by decide) (hts _ fwX1_search_42) (fun _ h9 => h9) rfl dX1_search_4 ?_
  refine lv_if_ne (tgt := 12) hx hb dX1_search_7 (by decide) (fun c19 => ?_) (fun c19 => ?_)
  · have h := h.1 c19
    refine lv_aload_n hx hb dX1_search_12 rfl (lv_at hl 0 rfl) ?_
    refine va_get (D := (dC, dI)) (ci := 1) (v := .ref (q 18)) (C := RX1) (T := TX1) (N := 6) hx hb hts iwX1_search_X1 hown hK hP 3 rfl rfl 5 (by decide) (hts _ fwX1_search_25) (fun _ h9 => h9) rfl dX1_search_13 ?_
    refine lv_lconst (v := 0) hx hb dX1_search_16 (by decide) ?_
    refine cl_v (va_runS (As := [.ref (q 18), .long 0]) (rest := []) ⟨hx, hb, hml, hown, hts⟩ (ktJ7_fill_d0a16 l dC dI q cI cJ cZ H.size pg ps nf np nq ns po pt rf rl bx xl xr yl yh ms wt pf nr sl cl hu uu pd ro rc 0 h) (va_cwS 2 hts gX1_search_J7_fill_d0a16 rfl rfl rfl (by decide +kernel) ⟨Nat.le_of_ble_eq_true rfl, Nat.le_of_ble_eq_true rfl⟩) ⟨wd.blind, fun U hU hW => ⟨rfl, wd.at hP hK ha hN hU hW⟩⟩ rfl rfl hl.1 rfl (lv_room (Nat.le_of_ble_eq_true rfl)) dX1_search_17 ⟨Nat.le_of_ble_eq_true rfl, Nat.le_of_ble_eq_true rfl⟩) hS (fun u21 H locs h hP hS => ?_)
    have hP : va_P (dC, dI) vwCl (WC q cI cJ cZ pg ps nf np nq ns po pt rf rl bx xl xr yl yh ms wt pf nr sl cl hu uu u21 ro rc) H := hP
    refine lv_iconst (v := 0) hx hb dX1_search_20 (by decide) ?_
    refine lv_istore (lv' := [(4, .int 0), (0, .ref (q 3)), (1, .int v1), (2, .int v2), (3, .int v3)]) hx hb dX1_search_21 hl (by decide) rfl (fun ls hl => ?_)
    refine lv_aload_n hx hb dX1_search_23 rfl (lv_at hl 1 rfl) ?_
    refine va_get (D := (dC, dI)) (ci := 1) (v := .ref (q 16)) (C := RX1) (T := TX1) (N := 6) hx hb hts iwX1_search_X1 hown hK hP 3 rfl rfl 3 (by decide) (hts _ fwX1_search_18) (fun _ h9 => h9) rfl dX1_search_24 ?_
    refine lv_iconst (v := 0) hx hb dX1_search_27 (by decide) ?_
    refine lv_iconst (v := 0) hx hb dX1_search_28 (by decide) ?_
    obtain ⟨b22, h⟩ := h
    refine va_iast (D := (dC, dI)) hx hb hK hP (d_WC ha) hS 16 0 rfl rfl b22 dX1_search_29 (fun H locs hP _ hS => ?_)
    obtain ⟨f23, ef23⟩ : ∃ z : (Nat → Int32), z = upd hu (0 : Int32).toNatClampNeg 0 := ⟨_, rfl⟩
    have h := h f23 ef23
    have hP : va_P (dC, dI) vwCl (WC q cI cJ cZ pg ps nf np nq ns po pt rf rl bx xl xr yl yh ms wt pf nr sl cl f23 uu u21 ro rc) H := by rw [ef23]; exact hP
    obtain ⟨n9, h⟩ := h
    exact mX1_search_30 pg ps nf np nq ns po rf rl bx xl xr yl yh ms wt pf nr sl cl ro rc C hK ha hN (fun pt hu uu pd ls H locs h hl hP hS => by
        refine lv_iconst (v := 0) hx hb dX1_search_93 (by decide) ?_
        exact rt_i (pt, hu, uu, pd) hx hb hr hlk h (fun t ht => by rw [ht]; exact hP) hS dX1_search_94) (fun pt hu uu pd ls H locs h hl hP hS => by
        refine lv_iconst (v := 1) hx hb dX1_search_120 (by decide) ?_
        exact rt_i (pt, hu, uu, pd) hx hb hr hlk h (fun t ht => by rw [ht]; exact hP) hS dX1_search_121) (fun pt hu uu pd ls H locs h hl hP hS => by
        refine lv_iconst (v := 2) hx hb dX1_search_122 (by decide) ?_
        exact rt_i (pt, hu, uu, pd) hx hb hr hlk h (fun t ht => by rw [ht]; exact hP) hS dX1_search_123) n9 pt f23 uu u21 v1 v2 v3 0 ls H locs h (lv_sub hl [1, 2, 3, 4, 0] rfl) hP hS
  · have h := h.2 c19
    refine lv_iconst (v := 0) hx hb dX1_search_10 (by decide) ?_
    exact rt_i (pt, hu, uu, pd) hx hb hr hlk h (fun t ht => by rw [ht]; exact hP) hS dX1_search_11

theorem fwX1_paint_29 : Cond.fieldLink RX1 29 "MaskParts$Painter" "net" "LMaskParts$Net;" ∈ wsX1_paint := by decide +kernel
set_option maxRecDepth 20000 in
theorem iwX1_paint_X1 : ∀ w ∈ wsX10, w ∈ wsX1_paint := by decide +kernel
theorem fwX1_paint_33 : Cond.fieldLink RX1 33 "MaskParts$Net" "stitches" "I" ∈ wsX1_paint := by decide +kernel
set_option maxRecDepth 20000 in
theorem iwX1_paint_X0 : ∀ w ∈ wsX00, w ∈ wsX1_paint := by decide +kernel
theorem fwX1_paint_9 : Cond.fieldLink RX1 9 "MaskParts$Painter" "outcome" "I" ∈ wsX1_paint := by decide +kernel
theorem fwX1_paint_15 : Cond.fieldLink RX1 15 "MaskParts$Painter" "taken" "I" ∈ wsX1_paint := by decide +kernel
abbrev QX1_paint (dC : Nat → ClassId) (dI : Nat → Nat → Nat) (cI cJ cZ : ClassId) (q : Nat → Nat) (sz : Nat) (pg : Int32) (ps : Int32) (nf : Int32) (np : Int32) (nq : Int32) (ns : Int32) (rf : Int32) (rl : Int32) (bx : (Nat → Int32)) (xl : (Nat → Int32)) (xr : (Nat → Int32)) (yl : (Nat → Int32)) (yh : (Nat → Int32)) (ms : (Nat → Int32)) (wt : (Nat → Int32)) (pf : (Nat → Int32)) (nr : (Nat → Int64)) (sl : (Nat → Int32)) (cl : (Nat → Int32)) (ro : (Nat → Int32)) (rc : (Nat → Int64)) (K : (Int32 × Int32 × (Nat → Int32) × (Nat → Int32) × (Nat → Int64)) → Prop) : Array Value → State → Outcome → State → Prop := va_Qv (fun (u : Int32 × Int32 × (Nat → Int32) × (Nat → Int32) × (Nat → Int64)) => K u) (fun (u : Int32 × Int32 × (Nat → Int32) × (Nat → Int32) × (Nat → Int64)) t => va_P (dC, dI) vwCl (WC q cI cJ cZ pg ps nf np nq ns u.1 u.2.1 rf rl bx xl xr yl yh ms wt pf nr sl cl u.2.2.1 u.2.2.2.1 u.2.2.2.2 ro rc) t.heap) (AF q 21 sz)
def lpX1_paint_12 (np : Int32) (ns : Int32) (nr : (Nat → Int64)) (sl : (Nat → Int32)) (cl : (Nat → Int32)) (K : (Int32 × Int32 × (Nat → Int32) × (Nat → Int32) × (Nat → Int64)) → Prop) (k48 : Int32 → Int32 → (Nat → Int32) → (Nat → Int32) → (Nat → Int64) → Prop) : Nat → Int32 → Int32 → (Nat → Int32) → (Nat → Int32) → (Nat → Int64) → Int32 → Int32 → Int32 → Prop
  | 0, _, _, _, _, _, _, _, _ => False
  | n + 1, po, pt, hu, uu, pd, v1, v2, v3 => ((ns < v3 → k48 po pt hu uu pd) ∧ (¬ (ns < v3) → ((¬ po = 1 → k48 po pt hu uu pd) ∧ (po = 1 → (wX1_search np nr sl cl pt hu uu pd v1 v2 v3 (fun (r3 : Int32) (u4 : Int32 × (Nat → Int32) × (Nat → Int32) × (Nat → Int64)) => (∀ i5 : Int32, i5 = v3 + 1 → lpX1_paint_12 np ns nr sl cl K k48 n r3 u4.1 u4.2.1 u4.2.2.1 u4.2.2.2 v1 v2 i5)))))))
set_option maxHeartbeats 4000000 in
set_option maxRecDepth 100000 in
theorem mX1_paint_12 {p : Program} {l : Launch} {e : Env} {s : State} {m : MethodId} {av : Array Value} {below : List Frame} {meth : Method} {c : Code} {dC : Nat → ClassId} {dI : Nat → Nat → Nat} {cI cJ cZ : ClassId} {q : Nat → Nat} {K : (Int32 × Int32 × (Nat → Int32) × (Nat → Int32) × (Nat → Int64)) → Prop} {k48 : Int32 → Int32 → (Nat → Int32) → (Nat → Int32) → (Nat → Int64) → Prop} (pg : Int32) (ps : Int32) (nf : Int32) (np : Int32) (nq : Int32) (ns : Int32) (rf : Int32) (rl : Int32) (bx : (Nat → Int32)) (xl : (Nat → Int32)) (xr : (Nat → Int32)) (yl : (Nat → Int32)) (yh : (Nat → Int32)) (ms : (Nat → Int32)) (wt : (Nat → Int32)) (pf : (Nat → Int32)) (nr : (Nat → Int64)) (sl : (Nat → Int32)) (cl : (Nat → Int32)) (ro : (Nat → Int32)) (rc : (Nat → Int64)) (C : CX p s m av meth c cX1_paint 4 none RX1 wsX1_paint) (hK : va_K (dC, dI) vwCl (TY cI cJ cZ) s) (ha : apart q 21) (hN : NX s) (hk48 : ∀ (po : Int32) (pt : Int32) (hu : (Nat → Int32)) (uu : (Nat → Int32)) (pd : (Nat → Int64)) (ls : Array Slot) (H : Heap) (locs : List Loc), k48 po pt hu uu pd → lv_has ls 4 [] → va_P (dC, dI) vwCl (WC q cI cJ cZ pg ps nf np nq ns po pt rf rl bx xl xr yl yh ms wt pf nr sl cl hu uu pd ro rc) H → va_S (AF q 21 s.heap.size) s.heap H locs → W p l e { frames := 3, cells := 0, slots := 0, locals := 68 } s m av below meth c H locs 0 0 (MQ below (QX1_paint dC dI cI cJ cZ q s.heap.size pg ps nf np nq ns rf rl bx xl xr yl yh ms wt pf nr sl cl ro rc K) av s 0 0 (AF q 21 s.heap.size)) (F0 m 48 ls [])) : ∀ (n : Nat) (po : Int32) (pt : Int32) (hu : (Nat → Int32)) (uu : (Nat → Int32)) (pd : (Nat → Int64)) (v1 : Int32) (v2 : Int32) (v3 : Int32) (ls : Array Slot) (H : Heap) (locs : List Loc), lpX1_paint_12 np ns nr sl cl K k48 n po pt hu uu pd v1 v2 v3 → lv_has ls 4 [(0, .ref (q 3)), (1, .int v1), (2, .int v2), (3, .int v3)] → va_P (dC, dI) vwCl (WC q cI cJ cZ pg ps nf np nq ns po pt rf rl bx xl xr yl yh ms wt pf nr sl cl hu uu pd ro rc) H → va_S (AF q 21 s.heap.size) s.heap H locs → W p l e { frames := 3, cells := 0, slots := 0, locals := 68 } s m av below meth c H locs 0 0 (MQ below (QX1_paint dC dI cI cJ cZ q s.heap.size pg ps nf np nq ns rf rl bx xl xr yl yh ms wt pf nr sl cl ro rc K) av s 0 0 (AF q 21 s.heap.size)) (F0 m 12 ls []) := by
  obtain ⟨hx, hb, hr, hml, hown, hts, hlk⟩ := id C
  intro n
  induction n with
  | zero =>
    intro po pt hu uu pd v1 v2 v3 ls H locs h
    exact h.elim
  | succ n ih =>
    intro po pt hu uu pd v1 v2 v3 ls H locs h hl hP hS
    rw [lpX1_paint_12.eq_2] at h
    refine lv_iload_n hx hb dX1_paint_12 rfl (lv_at hl 3 rfl) ?_
    refine lv_aload_n hx hb dX1_paint_13 rfl (lv_at hl 0 rfl) ?_
    refine va_get (D := (dC, dI)) (ci := 1) (v := .ref (q 2)) (C := RX1) (T := TX1) (N := 6) hx hb hts iwX1_paint_X1 hown hK hP 3 rfl rfl 0 (by decide) (hts _ fwX1_paint_29) (fun _ h9 => h9) rfl dX1_paint_14 ?_
    refine va_get (D := (dC, dI)) (ci := 0) (v := .int ns) (C := RX0) (T := TX0) (N := 9) hx hb hts iwX1_paint_X0 hown hK hP 2 rfl rfl 4 (by decide) (hts _ fwX1_paint_33) (fun _ h9 => h9) rfl dX1_paint_17 ?_
    refine lv_icmp_gt (tgt := 48) hx hb dX1_paint_20 (by decide) (fun c1 => ?_) (fun c1 => ?_)
    · have h := h.1 c1
      exact hk48 po pt hu uu pd ls H locs h (lv_sub hl [] rfl) hP hS
    · have h := h.2 c1
      refine lv_aload_n hx hb dX1_paint_23 rfl (lv_at hl 0 rfl) ?_
      refine va_get (D := (dC, dI)) (ci := 1) (v := .int po) (C := RX1) (T := TX1) (N := 6) hx hb hts iwX1_paint_X1 hown hK hP 3 rfl rfl 1 (by decide) (hts _ fwX1_paint_9) (fun _ h9 => h9) rfl dX1_paint_24 ?_
      refine lv_iconst (v := 1) hx hb dX1_paint_27 (by decide) ?_
      refine lv_icmp_ne (tgt := 48) hx hb dX1_paint_28 (by decide) (fun c2 => ?_) (fun c2 => ?_)
      · have h := h.1 c2
        exact hk48 po pt hu uu pd ls H locs h (lv_sub hl [] rfl) hP hS
      · have h := h.2 c2
        refine lv_aload_n hx hb dX1_paint_31 rfl (lv_at hl 0 rfl) ?_
        refine lv_aload_n hx hb dX1_paint_32 rfl (lv_at hl 0 rfl) ?_
        refine lv_iload_n hx hb dX1_paint_33 rfl (lv_at hl 1 rfl) ?_
        refine lv_iload_n hx hb dX1_paint_34 rfl (lv_at hl 2 rfl) ?_
        refine lv_iload_n hx hb dX1_paint_35 rfl (lv_at hl 3 rfl) ?_
        refine cl_i (va_runV (As := [.int v1, .int v2, .int v3]) (rest := [.ref (q 3)]) ⟨hx, hb, hml, hown, hts⟩ (ktX1_search l dC dI q cI cJ cZ H.size pg ps nf np nq ns po pt rf rl bx xl xr yl yh ms wt pf nr sl cl hu uu pd ro rc v1 v2 v3 h) (cwV 3 hts gX1_paint_X1_search rfl rfl rfl (by decide +kernel) ⟨Nat.le_of_ble_eq_true rfl, Nat.le_of_ble_eq_true rfl⟩) ⟨wd.blind, va_recv hK hP (ci := 1) (q0 := 3) rfl rfl, fun U hU hW => ⟨rfl, wd.at hP hK ha hN hU hW⟩⟩ rfl rfl hl.1 rfl (lv_room (Nat.le_of_ble_eq_true rfl)) dX1_paint_36 ⟨Nat.le_of_ble_eq_true rfl, Nat.le_of_ble_eq_true rfl⟩) hS (fun r3 u4 H locs h hP hS => ?_)
        have hP : va_P (dC, dI) vwCl (WC q cI cJ cZ pg ps nf np nq ns po u4.1 rf rl bx xl xr yl yh ms wt pf nr sl cl u4.2.1 u4.2.2.1 u4.2.2.2 ro rc) H := hP
        refine va_put (D := (dC, dI)) (ci := 1) (v := .int r3) (ty := .int) (C := RX1) (T := TX1) (N := 6) hx hb hts iwX1_paint_X1 tyX1 tyX1_ok nmX1 hown hK hP (d_WC ha) hS 3 rfl rfl 1 (by decide) (hts _ fwX1_paint_9) (fun _ h9 => h9) rfl (by decide +kernel) rfl rfl (Nat.le_of_ble_eq_true rfl) dX1_paint_39 (fun H locs hP _ hS => ?_)
        have hP : va_P (dC, dI) vwCl (WC q cI cJ cZ pg ps nf np nq ns r3 u4.1 rf rl bx xl xr yl yh ms wt pf nr sl cl u4.2.1 u4.2.2.1 u4.2.2.2 ro rc) H := hP
        obtain ⟨i5, ei5⟩ : ∃ y : Int32, y = v3 + 1 := ⟨_, rfl⟩
        refine lv_iinc (v := i5) (lv' := [(3, .int i5), (0, .ref (q 3)), (1, .int v1), (2, .int v2)]) hx hb dX1_paint_42 hl (k := 3) rfl (by rw [ei5]; rfl) (by decide) rfl (fun ls hl => ?_)
        have h := h i5 ei5
        refine lv_goto (tgt := 12) hx hb dX1_paint_45 (by decide) ?_
        exact ih r3 u4.1 u4.2.1 u4.2.2.1 u4.2.2.2 v1 v2 i5 ls H locs h (lv_sub hl [1, 2, 3, 0] rfl) hP hS
def wX1_paint (np : Int32) (ns : Int32) (nr : (Nat → Int64)) (sl : (Nat → Int32)) (cl : (Nat → Int32)) (po : Int32) (pt : Int32) (hu : (Nat → Int32)) (uu : (Nat → Int32)) (pd : (Nat → Int64)) (v1 : Int32) (v2 : Int32) (K : (Int32 × Int32 × (Nat → Int32) × (Nat → Int32) × (Nat → Int64)) → Prop) : Prop := (∃ z12, lpX1_paint_12 np ns nr sl cl K (fun (po : Int32) (pt : Int32) (hu : (Nat → Int32)) (uu : (Nat → Int32)) (pd : (Nat → Int64)) => K (po, pt, hu, uu, pd)) z12 1 0 hu uu pd v1 v2 0)
set_option maxHeartbeats 4000000 in
set_option maxRecDepth 100000 in
theorem ktX1_paint (l : Launch) (dC : Nat → ClassId) (dI : Nat → Nat → Nat) (q : Nat → Nat) (cI cJ cZ : ClassId) (sz : Nat) (pg : Int32) (ps : Int32) (nf : Int32) (np : Int32) (nq : Int32) (ns : Int32) (po : Int32) (pt : Int32) (rf : Int32) (rl : Int32) (bx : (Nat → Int32)) (xl : (Nat → Int32)) (xr : (Nat → Int32)) (yl : (Nat → Int32)) (yh : (Nat → Int32)) (ms : (Nat → Int32)) (wt : (Nat → Int32)) (pf : (Nat → Int32)) (nr : (Nat → Int64)) (sl : (Nat → Int32)) (cl : (Nat → Int32)) (hu : (Nat → Int32)) (uu : (Nat → Int32)) (pd : (Nat → Int64)) (ro : (Nat → Int32)) (rc : (Nat → Int64)) (v1 : Int32) (v2 : Int32) {K : (Int32 × Int32 × (Nat → Int32) × (Nat → Int32) × (Nat → Int64)) → Prop} (h : wX1_paint np ns nr sl cl po pt hu uu pd v1 v2 K) : Met l yX1_paint wsX1_paint { frames := 3, cells := 0, slots := 0, locals := 68 } (va_Pc [.ref (q 3), .int v1, .int v2] (wd dC dI cI cJ cZ q 21 sz (WC q cI cJ cZ pg ps nf np nq ns po pt rf rl bx xl xr yl yh ms wt pf nr sl cl hu uu pd ro rc))) (QX1_paint dC dI cI cJ cZ q sz pg ps nf np nq ns rf rl bx xl xr yl yh ms wt pf nr sl cl ro rc K) 0 0 (AF q 21 sz) := by
  refine met_of [.ref (q 3), .int v1, .int v2] (by decide +kernel) rfl (Nat.le_of_ble_eq_true rfl) ?_
  intro p e s m below meth c ls hsz C hK ha hN hl hP
  subst hsz
  obtain ⟨hx, hb, hr, hml, hown, hts, hlk⟩ := id C
  have hl : lv_has ls 4 [(0, .ref (q 3)), (1, .int v1), (2, .int v2)] := hl
  refine w_go (Pw := fun H => va_P (dC, dI) vwCl (WC q cI cJ cZ pg ps nf np nq ns po pt rf rl bx xl xr yl yh ms wt pf nr sl cl hu uu pd ro rc) H) (A := AF q 21 s.heap.size) (fun H locs hP hS => ?_) hP
  unfold wX1_paint at h
  refine lv_aload_n hx hb dX1_paint_0 rfl (lv_at hl 0 rfl) ?_
  refine lv_iconst (v := 0) hx hb dX1_paint_1 (by decide) ?_
  refine va_put (D := (dC, dI)) (ci := 1) (v := .int 0) (ty := .int) (C := RX1) (T := TX1) (N := 6) hx hb hts iwX1_paint_X1 tyX1 tyX1_ok nmX1 hown hK hP (d_WC ha) hS 3 rfl rfl 2 (by decide) (hts _ fwX1_paint_15) (fun _ h9 => h9) rfl (by decide +kernel) rfl rfl (Nat.le_of_ble_eq_true rfl) dX1_paint_2 (fun H locs hP _ hS => ?_)
  have hP : va_P (dC, dI) vwCl (WC q cI cJ cZ pg ps nf np nq ns po 0 rf rl bx xl xr yl yh ms wt pf nr sl cl hu uu pd ro rc) H := hP
  refine lv_aload_n hx hb dX1_paint_5 rfl (lv_at hl 0 rfl) ?_
  refine lv_iconst (v := 1) hx hb dX1_paint_6 (by decide) ?_
  refine va_put (D := (dC, dI)) (ci := 1) (v := .int 1) (ty := .int) (C := RX1) (T := TX1) (N := 6) hx hb hts iwX1_paint_X1 tyX1 tyX1_ok nmX1 hown hK hP (d_WC ha) hS 3 rfl rfl 1 (by decide) (hts _ fwX1_paint_9) (fun _ h9 => h9) rfl (by decide +kernel) rfl rfl (Nat.le_of_ble_eq_true rfl) dX1_paint_7 (fun H locs hP _ hS => ?_)
  have hP : va_P (dC, dI) vwCl (WC q cI cJ cZ pg ps nf np nq ns 1 0 rf rl bx xl xr yl yh ms wt pf nr sl cl hu uu pd ro rc) H := hP
  refine lv_iconst (v := 0) hx hb dX1_paint_10 (by decide) ?_
  refine lv_istore_n (lv' := [(3, .int 0), (0, .ref (q 3)), (1, .int v1), (2, .int v2)]) hx hb dX1_paint_11 rfl hl (by decide) rfl (fun ls hl => ?_)
  obtain ⟨n9, h⟩ := h
  exact mX1_paint_12 pg ps nf np nq ns rf rl bx xl xr yl yh ms wt pf nr sl cl ro rc C hK ha hN (fun po pt hu uu pd ls H locs h hl hP hS => by
      exact rt_v (po, pt, hu, uu, pd) hx hb hr hlk h (fun t ht => by rw [ht]; exact hP) hS dX1_paint_48) n9 1 0 hu uu pd v1 v2 0 ls H locs h (lv_sub hl [1, 2, 3, 0] rfl) hP hS

theorem fwX1_stitchesUsed_29 : Cond.fieldLink RX1 29 "MaskParts$Painter" "net" "LMaskParts$Net;" ∈ wsX1_stitchesUsed := by decide +kernel
set_option maxRecDepth 20000 in
theorem iwX1_stitchesUsed_X1 : ∀ w ∈ wsX10, w ∈ wsX1_stitchesUsed := by decide +kernel
theorem fwX1_stitchesUsed_42 : Cond.fieldLink RX1 42 "MaskParts$Net" "parts" "I" ∈ wsX1_stitchesUsed := by decide +kernel
set_option maxRecDepth 20000 in
theorem iwX1_stitchesUsed_X0 : ∀ w ∈ wsX00, w ∈ wsX1_stitchesUsed := by decide +kernel
theorem fwX1_stitchesUsed_22 : Cond.fieldLink RX1 22 "MaskParts$Painter" "usedUpTo" "[I" ∈ wsX1_stitchesUsed := by decide +kernel
abbrev QX1_stitchesUsed (dC : Nat → ClassId) (dI : Nat → Nat → Nat) (cI cJ cZ : ClassId) (q : Nat → Nat) (sz : Nat) (pg : Int32) (ps : Int32) (nf : Int32) (np : Int32) (nq : Int32) (ns : Int32) (po : Int32) (pt : Int32) (rf : Int32) (rl : Int32) (bx : (Nat → Int32)) (xl : (Nat → Int32)) (xr : (Nat → Int32)) (yl : (Nat → Int32)) (yh : (Nat → Int32)) (ms : (Nat → Int32)) (wt : (Nat → Int32)) (pf : (Nat → Int32)) (nr : (Nat → Int64)) (sl : (Nat → Int32)) (cl : (Nat → Int32)) (hu : (Nat → Int32)) (uu : (Nat → Int32)) (pd : (Nat → Int64)) (ro : (Nat → Int32)) (rc : (Nat → Int64)) (K : Int32 → Prop) : Array Value → State → Outcome → State → Prop := va_Qi (fun (r : Int32) (u : Unit) => K r) (fun (u : Unit) t => va_P (dC, dI) vwCl (WC q cI cJ cZ pg ps nf np nq ns po pt rf rl bx xl xr yl yh ms wt pf nr sl cl hu uu pd ro rc) t.heap) (AF q 21 sz)
def wX1_stitchesUsed (np : Int32) (uu : (Nat → Int32))  (K : Int32 → Prop) : Prop := ((¬ np = 0 → (vp_in ((np - 1)) 40 ∧ K ((uu ((np - 1) : Int32).toNatClampNeg)) )) ∧ (np = 0 → K 0 ))
set_option maxHeartbeats 4000000 in
set_option maxRecDepth 100000 in
theorem ktX1_stitchesUsed (l : Launch) (dC : Nat → ClassId) (dI : Nat → Nat → Nat) (q : Nat → Nat) (cI cJ cZ : ClassId) (sz : Nat) (pg : Int32) (ps : Int32) (nf : Int32) (np : Int32) (nq : Int32) (ns : Int32) (po : Int32) (pt : Int32) (rf : Int32) (rl : Int32) (bx : (Nat → Int32)) (xl : (Nat → Int32)) (xr : (Nat → Int32)) (yl : (Nat → Int32)) (yh : (Nat → Int32)) (ms : (Nat → Int32)) (wt : (Nat → Int32)) (pf : (Nat → Int32)) (nr : (Nat → Int64)) (sl : (Nat → Int32)) (cl : (Nat → Int32)) (hu : (Nat → Int32)) (uu : (Nat → Int32)) (pd : (Nat → Int64)) (ro : (Nat → Int32)) (rc : (Nat → Int64))  {K : Int32 → Prop} (h : wX1_stitchesUsed np uu K) : Met l yX1_stitchesUsed wsX1_stitchesUsed { frames := 0, cells := 0, slots := 0, locals := 0 } (va_Pc [.ref (q 3)] (wd dC dI cI cJ cZ q 21 sz (WC q cI cJ cZ pg ps nf np nq ns po pt rf rl bx xl xr yl yh ms wt pf nr sl cl hu uu pd ro rc))) (QX1_stitchesUsed dC dI cI cJ cZ q sz pg ps nf np nq ns po pt rf rl bx xl xr yl yh ms wt pf nr sl cl hu uu pd ro rc K) 0 0 (AF q 21 sz) := by
  refine met_of [.ref (q 3)] (by decide +kernel) rfl (Nat.le_of_ble_eq_true rfl) ?_
  intro p e s m below meth c ls hsz C hK ha hN hl hP
  subst hsz
  obtain ⟨hx, hb, hr, hml, hown, hts, hlk⟩ := id C
  have hl : lv_has ls 1 [(0, .ref (q 3))] := hl
  refine w_go (Pw := fun H => va_P (dC, dI) vwCl (WC q cI cJ cZ pg ps nf np nq ns po pt rf rl bx xl xr yl yh ms wt pf nr sl cl hu uu pd ro rc) H) (A := AF q 21 s.heap.size) (fun H locs hP hS => ?_) hP
  unfold wX1_stitchesUsed at h
  refine lv_aload_n hx hb dX1_stitchesUsed_0 rfl (lv_at hl 0 rfl) ?_
  refine va_get (D := (dC, dI)) (ci := 1) (v := .ref (q 2)) (C := RX1) (T := TX1) (N := 6) hx hb hts iwX1_stitchesUsed_X1 hown hK hP 3 rfl rfl 0 (by decide) (hts _ fwX1_stitchesUsed_29) (fun _ h9 => h9) rfl dX1_stitchesUsed_1 ?_
  refine va_get (D := (dC, dI)) (ci := 0) (v := .int np) (C := RX0) (T := TX0) (N := 9) hx hb hts iwX1_stitchesUsed_X0 hown hK hP 2 rfl rfl 2 (by decide) (hts _ fwX1_stitchesUsed_42) (fun _ h9 => h9) rfl dX1_stitchesUsed_4 ?_
  refine lv_if_ne (tgt := 14) hx hb dX1_stitchesUsed_7 (by decide) (fun c1 => ?_) (fun c1 => ?_)
  · have h := h.1 c1
    refine lv_aload_n hx hb dX1_stitchesUsed_14 rfl (lv_at hl 0 rfl) ?_
    refine va_get (D := (dC, dI)) (ci := 1) (v := .ref (q 17)) (C := RX1) (T := TX1) (N := 6) hx hb hts iwX1_stitchesUsed_X1 hown hK hP 3 rfl rfl 4 (by decide) (hts _ fwX1_stitchesUsed_22) (fun _ h9 => h9) rfl dX1_stitchesUsed_15 ?_
    refine lv_aload_n hx hb dX1_stitchesUsed_18 rfl (lv_at hl 0 rfl) ?_
    refine va_get (D := (dC, dI)) (ci := 1) (v := .ref (q 2)) (C := RX1) (T := TX1) (N := 6) hx hb hts iwX1_stitchesUsed_X1 hown hK hP 3 rfl rfl 0 (by decide) (hts _ fwX1_stitchesUsed_29) (fun _ h9 => h9) rfl dX1_stitchesUsed_19 ?_
    refine va_get (D := (dC, dI)) (ci := 0) (v := .int np) (C := RX0) (T := TX0) (N := 9) hx hb hts iwX1_stitchesUsed_X0 hown hK hP 2 rfl rfl 2 (by decide) (hts _ fwX1_stitchesUsed_42) (fun _ h9 => h9) rfl dX1_stitchesUsed_22 ?_
    refine lv_iconst (v := 1) hx hb dX1_stitchesUsed_25 (by decide) ?_
    refine lv_isub hx hb dX1_stitchesUsed_26 ?_
    obtain ⟨b2, h⟩ := h
    refine va_iald (D := (dC, dI)) hx hb hK hP 17 0 rfl rfl b2 dX1_stitchesUsed_27 ?_
    exact rt_i () hx hb hr hlk h (fun t ht => by rw [ht]; exact hP) hS dX1_stitchesUsed_28
  · have h := h.2 c1
    refine lv_iconst (v := 0) hx hb dX1_stitchesUsed_10 (by decide) ?_
    refine lv_goto (tgt := 28) hx hb dX1_stitchesUsed_11 (by decide) ?_
    exact rt_i () hx hb hr hlk h (fun t ht => by rw [ht]; exact hP) hS dX1_stitchesUsed_28
