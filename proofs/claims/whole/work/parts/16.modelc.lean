theorem fwX5_around_102 : Cond.fieldLink RX5 102 "MaskPartsModel" "parts" "I" ∈ wsX5_around := by decide +kernel
set_option maxRecDepth 20000 in
theorem iwX5_around_X5 : ∀ w ∈ wsX50, w ∈ wsX5_around := by decide +kernel
theorem fwX5_around_45 : Cond.fieldLink RX5 45 "MaskPartsModel" "near" "[J" ∈ wsX5_around := by decide +kernel
abbrev QX5_around (dC : Nat → ClassId) (dI : Nat → Nat → Nat) (cI cJ cZ : ClassId) (q : Nat → Nat) (sz : Nat) (kc : Int32) (kd : Int32) (kn : Int32) (kp : Int32) (ka : Int32) (kt : Int32) (ku : Int32) (kr : Int32) (cn : (Nat → Int32)) (xs : (Nat → Int32)) (ys : (Nat → Int32)) (x2 : (Nat → Int32)) (y2 : (Nat → Int32)) (my : (Nat → Int32)) (tl : (Nat → Int32)) (po : (Nat → Int32)) (so : (Nat → Int32)) (st : (Nat → Int32)) (nr : (Nat → Int64)) (co : (Nat → Int32)) (rg : (Nat → Int32)) (re : (Nat → Int64)) (K : Int64 → Prop) : Array Value → State → Outcome → State → Prop := va_Ql (fun (r : Int64) (u : Unit) => K r) (fun (u : Unit) t => va_P (dC, dI) vwCl (WM q cI cJ cZ kc kd kn kp ka kt ku kr cn xs ys x2 y2 my tl po so st nr co rg re) t.heap) (AF q 15 sz)
def bkX5_around_37 (kp : Int32) (nr : (Nat → Int64)) (K : Int64 → Prop) (k5 : Int64 → Int64 → Int32 → Prop) (v1 : Int64) (v5 : Int32) (s0 : Int64) (s1 : Int64) : Prop := (∀ j1 : Int64, j1 = (s0 ||| s1) → (∀ i2 : Int32, i2 = v5 + 1 → k5 v1 j1 i2))
set_option maxHeartbeats 4000000 in
set_option maxRecDepth 100000 in
theorem mX5_around_37 {p : Program} {l : Launch} {e : Env} {s : State} {m : MethodId} {av : Array Value} {below : List Frame} {meth : Method} {c : Code} {dC : Nat → ClassId} {dI : Nat → Nat → Nat} {cI cJ cZ : ClassId} {q : Nat → Nat} {K : Int64 → Prop} {k5 : Int64 → Int64 → Int32 → Prop} (kc : Int32) (kd : Int32) (kn : Int32) (kp : Int32) (ka : Int32) (kt : Int32) (ku : Int32) (kr : Int32) (cn : (Nat → Int32)) (xs : (Nat → Int32)) (ys : (Nat → Int32)) (x2 : (Nat → Int32)) (y2 : (Nat → Int32)) (my : (Nat → Int32)) (tl : (Nat → Int32)) (po : (Nat → Int32)) (so : (Nat → Int32)) (st : (Nat → Int32)) (nr : (Nat → Int64)) (co : (Nat → Int32)) (rg : (Nat → Int32)) (re : (Nat → Int64)) (C : CX p s m av meth c cX5_around 6 (some .long) RX5 wsX5_around) (hK : va_K (dC, dI) vwCl (TY cI cJ cZ) s) (ha : apart q 15) (hN : NX s) (hk5 : ∀ (v1 : Int64) (v3 : Int64) (v5 : Int32) (ls : Array Slot) (H : Heap) (locs : List Loc), k5 v1 v3 v5 → lv_has ls 6 [(0, .ref (q 0)), (1, .long v1), (3, .long v3), (5, .int v5)] → va_P (dC, dI) vwCl (WM q cI cJ cZ kc kd kn kp ka kt ku kr cn xs ys x2 y2 my tl po so st nr co rg re) H → va_S (AF q 15 s.heap.size) s.heap H locs → W p l e { frames := 0, cells := 0, slots := 0, locals := 0 } s m av below meth c H locs 0 0 (MQ below (QX5_around dC dI cI cJ cZ q s.heap.size kc kd kn kp ka kt ku kr cn xs ys x2 y2 my tl po so st nr co rg re K) av s 0 0 (AF q 15 s.heap.size)) (F0 m 5 ls [])) : ∀ (v1 : Int64) (v5 : Int32) (s0 : Int64) (s1 : Int64) (ls : Array Slot) (H : Heap) (locs : List Loc), bkX5_around_37 kp nr K k5 v1 v5 s0 s1 → lv_has ls 6 [(0, .ref (q 0)), (1, .long v1), (5, .int v5)] → va_P (dC, dI) vwCl (WM q cI cJ cZ kc kd kn kp ka kt ku kr cn xs ys x2 y2 my tl po so st nr co rg re) H → va_S (AF q 15 s.heap.size) s.heap H locs → W p l e { frames := 0, cells := 0, slots := 0, locals := 0 } s m av below meth c H locs 0 0 (MQ below (QX5_around dC dI cI cJ cZ q s.heap.size kc kd kn kp ka kt ku kr cn xs ys x2 y2 my tl po so st nr co rg re K) av s 0 0 (AF q 15 s.heap.size)) (F0 m 37 ls [.long s1, .long s0]) := by
  obtain ⟨hx, hb, hr, hml, hown, hts, hlk⟩ := id C
  intro v1 v5 s0 s1 ls H locs h hl hP hS
  unfold bkX5_around_37 at h
  refine lv_lor hx hb dX5_around_37 ?_
  refine lv_topl (fun j1 ej1 => ?_)
  have h := h j1 ej1
  refine lv_lstore_n (lv' := [(3, .long j1), (0, .ref (q 0)), (1, .long v1), (5, .int v5)]) hx hb dX5_around_38 rfl hl (by decide) rfl (fun ls hl => ?_)
  obtain ⟨i2, ei2⟩ : ∃ y : Int32, y = v5 + 1 := ⟨_, rfl⟩
  refine lv_iinc (v := i2) (lv' := [(5, .int i2), (3, .long j1), (0, .ref (q 0)), (1, .long v1)]) hx hb dX5_around_39 hl (k := 3) rfl (by rw [ei2]; rfl) (by decide) rfl (fun ls hl => ?_)
  have h := h i2 ei2
  refine lv_goto (tgt := 5) hx hb dX5_around_42 (by decide) ?_
  exact hk5 v1 j1 i2 ls H locs h (lv_sub hl [2, 3, 1, 0] rfl) hP hS
def lpX5_around_5 (kp : Int32) (nr : (Nat → Int64)) (K : Int64 → Prop) (k45 : Int64 → Prop) : Nat → Int64 → Int64 → Int32 → Prop
  | 0, _, _, _ => False
  | n + 1, v1, v3, v5 => ((kp ≤ v5 → k45 v3) ∧ (¬ (kp ≤ v5) → ((¬ (lg_cmp ((((v1 : Int64) >>> (v5.toInt64 &&& 63)) &&& 1)) 1) = 0 → bkX5_around_37 kp nr K (fun v1 v3 v5 => lpX5_around_5 kp nr K k45 n v1 v3 v5) v1 v5 v3 0) ∧ ((lg_cmp ((((v1 : Int64) >>> (v5.toInt64 &&& 63)) &&& 1)) 1) = 0 → (vp_in v5 40 ∧ bkX5_around_37 kp nr K (fun v1 v3 v5 => lpX5_around_5 kp nr K k45 n v1 v3 v5) v1 v5 v3 ((nr v5.toNatClampNeg)))))))
set_option maxHeartbeats 4000000 in
set_option maxRecDepth 100000 in
theorem mX5_around_5 {p : Program} {l : Launch} {e : Env} {s : State} {m : MethodId} {av : Array Value} {below : List Frame} {meth : Method} {c : Code} {dC : Nat → ClassId} {dI : Nat → Nat → Nat} {cI cJ cZ : ClassId} {q : Nat → Nat} {K : Int64 → Prop} {k45 : Int64 → Prop} (kc : Int32) (kd : Int32) (kn : Int32) (kp : Int32) (ka : Int32) (kt : Int32) (ku : Int32) (kr : Int32) (cn : (Nat → Int32)) (xs : (Nat → Int32)) (ys : (Nat → Int32)) (x2 : (Nat → Int32)) (y2 : (Nat → Int32)) (my : (Nat → Int32)) (tl : (Nat → Int32)) (po : (Nat → Int32)) (so : (Nat → Int32)) (st : (Nat → Int32)) (nr : (Nat → Int64)) (co : (Nat → Int32)) (rg : (Nat → Int32)) (re : (Nat → Int64)) (C : CX p s m av meth c cX5_around 6 (some .long) RX5 wsX5_around) (hK : va_K (dC, dI) vwCl (TY cI cJ cZ) s) (ha : apart q 15) (hN : NX s) (hk45 : ∀ (v3 : Int64) (ls : Array Slot) (H : Heap) (locs : List Loc), k45 v3 → lv_has ls 6 [(3, .long v3)] → va_P (dC, dI) vwCl (WM q cI cJ cZ kc kd kn kp ka kt ku kr cn xs ys x2 y2 my tl po so st nr co rg re) H → va_S (AF q 15 s.heap.size) s.heap H locs → W p l e { frames := 0, cells := 0, slots := 0, locals := 0 } s m av below meth c H locs 0 0 (MQ below (QX5_around dC dI cI cJ cZ q s.heap.size kc kd kn kp ka kt ku kr cn xs ys x2 y2 my tl po so st nr co rg re K) av s 0 0 (AF q 15 s.heap.size)) (F0 m 45 ls [])) : ∀ (n : Nat) (v1 : Int64) (v3 : Int64) (v5 : Int32) (ls : Array Slot) (H : Heap) (locs : List Loc), lpX5_around_5 kp nr K k45 n v1 v3 v5 → lv_has ls 6 [(0, .ref (q 0)), (1, .long v1), (3, .long v3), (5, .int v5)] → va_P (dC, dI) vwCl (WM q cI cJ cZ kc kd kn kp ka kt ku kr cn xs ys x2 y2 my tl po so st nr co rg re) H → va_S (AF q 15 s.heap.size) s.heap H locs → W p l e { frames := 0, cells := 0, slots := 0, locals := 0 } s m av below meth c H locs 0 0 (MQ below (QX5_around dC dI cI cJ cZ q s.heap.size kc kd kn kp ka kt ku kr cn xs ys x2 y2 my tl po so st nr co rg re K) av s 0 0 (AF q 15 s.heap.size)) (F0 m 5 ls []) := by
  obtain ⟨hx, hb, hr, hml, hown, hts, hlk⟩ := id C
  intro n
  induction n with
  | zero =>
    intro v1 v3 v5 ls H locs h
    exact h.elim
  | succ n ih =>
    intro v1 v3 v5 ls H locs h hl hP hS
    rw [lpX5_around_5.eq_2] at h
    refine lv_iload hx hb dX5_around_5 (lv_at hl 3 rfl) ?_
    refine lv_aload_n hx hb dX5_around_7 rfl (lv_at hl 0 rfl) ?_
    refine va_get (D := (dC, dI)) (ci := 5) (v := .int kp) (C := RX5) (T := TX5) (N := 22) hx hb hts iwX5_around_X5 hown hK hP 0 rfl rfl 10 (by decide) (hts _ fwX5_around_102) (fun _ h9 => h9) rfl dX5_around_8 ?_
    refine lv_icmp_ge (tgt := 45) hx hb dX5_around_11 (by decide) (fun c3 => ?_) (fun c3 => ?_)
    · have h := h.1 c3
      exact hk45 v3 ls H locs h (lv_sub hl [2] rfl) hP hS
    · have h := h.2 c3
      refine lv_lload_n hx hb dX5_around_14 rfl (lv_at hl 2 rfl) ?_
      refine lv_lload_n hx hb dX5_around_15 rfl (lv_at hl 1 rfl) ?_
      refine lv_iload hx hb dX5_around_16 (lv_at hl 3 rfl) ?_
      refine lv_lshr hx hb dX5_around_18 rfl ?_
      refine lv_lconst (v := 1) hx hb dX5_around_19 (by decide) ?_
      refine lv_land hx hb dX5_around_20 ?_
      refine lv_lconst (v := 1) hx hb dX5_around_21 (by decide) ?_
      refine W.lcmp hx hb dX5_around_22 ?_
      refine lv_if_ne (tgt := 36) hx hb dX5_around_23 (by decide) (fun c4 => ?_) (fun c4 => ?_)
      · have h := h.1 c4
        refine lv_lconst (v := 0) hx hb dX5_around_36 (by decide) ?_
        exact mX5_around_37 kc kd kn kp ka kt ku kr cn xs ys x2 y2 my tl po so st nr co rg re C hK ha hN (fun v1 v3 v5 ls H locs h hl hP hS => ih v1 v3 v5 ls H locs h hl hP hS) v1 v5 v3 0 ls H locs h (lv_sub hl [0, 1, 3] rfl) hP hS
      · have h := h.2 c4
        refine lv_aload_n hx hb dX5_around_26 rfl (lv_at hl 0 rfl) ?_
        refine va_get (D := (dC, dI)) (ci := 5) (v := .ref (q 11)) (C := RX5) (T := TX5) (N := 22) hx hb hts iwX5_around_X5 hown hK hP 0 rfl rfl 14 (by decide) (hts _ fwX5_around_45) (fun _ h9 => h9) rfl dX5_around_27 ?_
        refine lv_iload hx hb dX5_around_30 (lv_at hl 3 rfl) ?_
        obtain ⟨b5, h⟩ := h
        refine va_lald (D := (dC, dI)) hx hb hK hP 11 1 rfl rfl b5 dX5_around_32 ?_
        refine lv_goto (tgt := 37) hx hb dX5_around_33 (by decide) ?_
        exact mX5_around_37 kc kd kn kp ka kt ku kr cn xs ys x2 y2 my tl po so st nr co rg re C hK ha hN (fun v1 v3 v5 ls H locs h hl hP hS => ih v1 v3 v5 ls H locs h hl hP hS) v1 v5 v3 ((nr v5.toNatClampNeg)) ls H locs h (lv_sub hl [0, 1, 3] rfl) hP hS
def wX5_around (kp : Int32) (nr : (Nat → Int64)) (v1 : Int64) (K : Int64 → Prop) : Prop := (∃ z5, lpX5_around_5 kp nr K (fun (v3 : Int64) => K v3 ) z5 v1 0 0)
set_option maxHeartbeats 4000000 in
set_option maxRecDepth 100000 in
theorem ktX5_around (l : Launch) (dC : Nat → ClassId) (dI : Nat → Nat → Nat) (q : Nat → Nat) (cI cJ cZ : ClassId) (sz : Nat) (kc : Int32) (kd : Int32) (kn : Int32) (kp : Int32) (ka : Int32) (kt : Int32) (ku : Int32) (kr : Int32) (cn : (Nat → Int32)) (xs : (Nat → Int32)) (ys : (Nat → Int32)) (x2 : (Nat → Int32)) (y2 : (Nat → Int32)) (my : (Nat → Int32)) (tl : (Nat → Int32)) (po : (Nat → Int32)) (so : (Nat → Int32)) (st : (Nat → Int32)) (nr : (Nat → Int64)) (co : (Nat → Int32)) (rg : (Nat → Int32)) (re : (Nat → Int64)) (v1 : Int64) {K : Int64 → Prop} (h : wX5_around kp nr v1 K) : Met l yX5_around wsX5_around { frames := 0, cells := 0, slots := 0, locals := 0 } (va_Pc [.ref (q 0), .long v1] (wd dC dI cI cJ cZ q 15 sz (WM q cI cJ cZ kc kd kn kp ka kt ku kr cn xs ys x2 y2 my tl po so st nr co rg re))) (QX5_around dC dI cI cJ cZ q sz kc kd kn kp ka kt ku kr cn xs ys x2 y2 my tl po so st nr co rg re K) 0 0 (AF q 15 sz) := by
  refine met_of [.ref (q 0), .long v1] (by decide +kernel) rfl (Nat.le_of_ble_eq_true rfl) ?_
  intro p e s m below meth c ls hsz C hK ha hN hl hP
  subst hsz
  obtain ⟨hx, hb, hr, hml, hown, hts, hlk⟩ := id C
  have hl : lv_has ls 6 [(0, .ref (q 0)), (1, .long v1)] := hl
  refine w_go (Pw := fun H => va_P (dC, dI) vwCl (WM q cI cJ cZ kc kd kn kp ka kt ku kr cn xs ys x2 y2 my tl po so st nr co rg re) H) (A := AF q 15 s.heap.size) (fun H locs hP hS => ?_) hP
  unfold wX5_around at h
  refine lv_lconst (v := 0) hx hb dX5_around_0 (by decide) ?_
  refine lv_lstore_n (lv' := [(3, .long 0), (0, .ref (q 0)), (1, .long v1)]) hx hb dX5_around_1 rfl hl (by decide) rfl (fun ls hl => ?_)
  refine lv_iconst (v := 0) hx hb dX5_around_2 (by decide) ?_
  refine lv_istore (lv' := [(5, .int 0), (3, .long 0), (0, .ref (q 0)), (1, .long v1)]) hx hb dX5_around_3 hl (by decide) rfl (fun ls hl => ?_)
  obtain ⟨n9, h⟩ := h
  exact mX5_around_5 kc kd kn kp ka kt ku kr cn xs ys x2 y2 my tl po so st nr co rg re C hK ha hN (fun v3 ls H locs h hl hP hS => by
      refine lv_lload_n hx hb dX5_around_45 rfl (lv_at hl 0 rfl) ?_
      exact rt_l () hx hb hr hlk h (fun t ht => by rw [ht]; exact hP) hS dX5_around_46) n9 v1 0 0 ls H locs h (lv_sub hl [2, 3, 1, 0] rfl) hP hS

theorem fwX5_walk_58 : Cond.fieldLink RX5 58 "MaskPartsModel" "reach" "[J" ∈ wsX5_walk := by decide +kernel
set_option maxRecDepth 20000 in
theorem iwX5_walk_X5 : ∀ w ∈ wsX50, w ∈ wsX5_walk := by decide +kernel
abbrev QX5_walk (dC : Nat → ClassId) (dI : Nat → Nat → Nat) (cI cJ cZ : ClassId) (q : Nat → Nat) (sz : Nat) (kc : Int32) (kd : Int32) (kn : Int32) (kp : Int32) (ka : Int32) (kt : Int32) (ku : Int32) (kr : Int32) (cn : (Nat → Int32)) (xs : (Nat → Int32)) (ys : (Nat → Int32)) (x2 : (Nat → Int32)) (y2 : (Nat → Int32)) (my : (Nat → Int32)) (tl : (Nat → Int32)) (po : (Nat → Int32)) (so : (Nat → Int32)) (st : (Nat → Int32)) (nr : (Nat → Int64)) (co : (Nat → Int32)) (rg : (Nat → Int32)) (K : (Nat → Int64) → Prop) : Array Value → State → Outcome → State → Prop := va_Qv (fun (u : (Nat → Int64)) => K u) (fun (u : (Nat → Int64)) t => va_P (dC, dI) vwCl (WM q cI cJ cZ kc kd kn kp ka kt ku kr cn xs ys x2 y2 my tl po so st nr co rg u) t.heap) (AF q 15 sz)
def lpX5_walk_11 (kp : Int32) (nr : (Nat → Int64)) (K : (Nat → Int64) → Prop) (k40 : (Nat → Int64) → Prop) : Nat → (Nat → Int64) → Int32 → Int32 → Prop
  | 0, _, _, _ => False
  | n + 1, re, v2, v3 => ((v2 < v3 → k40 re) ∧ (¬ (v2 < v3) → (vp_in ((v3 - 1)) 42 ∧ (wX5_around kp nr ((re ((v3 - 1) : Int32).toNatClampNeg)) (fun (r3 : Int64) => (vp_in v3 42 ∧ (∀ f6 : (Nat → Int64), f6 = vp_updL re v3.toNatClampNeg r3 → (∀ i7 : Int32, i7 = v3 + 1 → lpX5_walk_11 kp nr K k40 n f6 v2 i7))))))))
set_option maxHeartbeats 4000000 in
set_option maxRecDepth 100000 in
theorem mX5_walk_11 {p : Program} {l : Launch} {e : Env} {s : State} {m : MethodId} {av : Array Value} {below : List Frame} {meth : Method} {c : Code} {dC : Nat → ClassId} {dI : Nat → Nat → Nat} {cI cJ cZ : ClassId} {q : Nat → Nat} {K : (Nat → Int64) → Prop} {k40 : (Nat → Int64) → Prop} (kc : Int32) (kd : Int32) (kn : Int32) (kp : Int32) (ka : Int32) (kt : Int32) (ku : Int32) (kr : Int32) (cn : (Nat → Int32)) (xs : (Nat → Int32)) (ys : (Nat → Int32)) (x2 : (Nat → Int32)) (y2 : (Nat → Int32)) (my : (Nat → Int32)) (tl : (Nat → Int32)) (po : (Nat → Int32)) (so : (Nat → Int32)) (st : (Nat → Int32)) (nr : (Nat → Int64)) (co : (Nat → Int32)) (rg : (Nat → Int32)) (C : CX p s m av meth c cX5_walk 4 none RX5 wsX5_walk) (hK : va_K (dC, dI) vwCl (TY cI cJ cZ) s) (ha : apart q 15) (hN : NX s) (hk40 : ∀ (re : (Nat → Int64)) (ls : Array Slot) (H : Heap) (locs : List Loc), k40 re → lv_has ls 4 [] → va_P (dC, dI) vwCl (WM q cI cJ cZ kc kd kn kp ka kt ku kr cn xs ys x2 y2 my tl po so st nr co rg re) H → va_S (AF q 15 s.heap.size) s.heap H locs → W p l e { frames := 1, cells := 0, slots := 0, locals := 25 } s m av below meth c H locs 0 0 (MQ below (QX5_walk dC dI cI cJ cZ q s.heap.size kc kd kn kp ka kt ku kr cn xs ys x2 y2 my tl po so st nr co rg K) av s 0 0 (AF q 15 s.heap.size)) (F0 m 40 ls [])) : ∀ (n : Nat) (re : (Nat → Int64)) (v2 : Int32) (v3 : Int32) (ls : Array Slot) (H : Heap) (locs : List Loc), lpX5_walk_11 kp nr K k40 n re v2 v3 → lv_has ls 4 [(0, .ref (q 0)), (2, .int v2), (3, .int v3)] → va_P (dC, dI) vwCl (WM q cI cJ cZ kc kd kn kp ka kt ku kr cn xs ys x2 y2 my tl po so st nr co rg re) H → va_S (AF q 15 s.heap.size) s.heap H locs → W p l e { frames := 1, cells := 0, slots := 0, locals := 25 } s m av below meth c H locs 0 0 (MQ below (QX5_walk dC dI cI cJ cZ q s.heap.size kc kd kn kp ka kt ku kr cn xs ys x2 y2 my tl po so st nr co rg K) av s 0 0 (AF q 15 s.heap.size)) (F0 m 11 ls []) := by
  obtain ⟨hx, hb, hr, hml, hown, hts, hlk⟩ := id C
  intro n
  induction n with
  | zero =>
    intro re v2 v3 ls H locs h
    exact h.elim
  | succ n ih =>
    intro re v2 v3 ls H locs h hl hP hS
    rw [lpX5_walk_11.eq_2] at h
    refine lv_iload_n hx hb dX5_walk_11 rfl (lv_at hl 2 rfl) ?_
    refine lv_iload_n hx hb dX5_walk_12 rfl (lv_at hl 1 rfl) ?_
    refine lv_icmp_gt (tgt := 40) hx hb dX5_walk_13 (by decide) (fun c1 => ?_) (fun c1 => ?_)
    · have h := h.1 c1
      exact hk40 re ls H locs h (lv_sub hl [] rfl) hP hS
    · have h := h.2 c1
      refine lv_aload_n hx hb dX5_walk_16 rfl (lv_at hl 0 rfl) ?_
      refine va_get (D := (dC, dI)) (ci := 5) (v := .ref (q 14)) (C := RX5) (T := TX5) (N := 22) hx hb hts iwX5_walk_X5 hown hK hP 0 rfl rfl 21 (by decide) (hts _ fwX5_walk_58) (fun _ h9 => h9) rfl dX5_walk_17 ?_
      refine lv_iload_n hx hb dX5_walk_20 rfl (lv_at hl 2 rfl) ?_
      refine lv_aload_n hx hb dX5_walk_21 rfl (lv_at hl 0 rfl) ?_
      refine lv_aload_n hx hb dX5_walk_22 rfl (lv_at hl 0 rfl) ?_
      refine va_get (D := (dC, dI)) (ci := 5) (v := .ref (q 14)) (C := RX5) (T := TX5) (N := 22) hx hb hts iwX5_walk_X5 hown hK hP 0 rfl rfl 21 (by decide) (hts _ fwX5_walk_58) (fun _ h9 => h9) rfl dX5_walk_23 ?_
      refine lv_iload_n hx hb dX5_walk_26 rfl (lv_at hl 2 rfl) ?_
      refine lv_iconst (v := 1) hx hb dX5_walk_27 (by decide) ?_
      refine lv_isub hx hb dX5_walk_28 ?_
      obtain ⟨b2, h⟩ := h
      refine va_lald (D := (dC, dI)) hx hb hK hP 14 1 rfl rfl b2 dX5_walk_29 ?_
      refine cl_l (va_runV (As := [.long ((re ((v3 - 1) : Int32).toNatClampNeg))]) (rest := [.int v3, .ref (q 14)]) ⟨hx, hb, hml, hown, hts⟩ (ktX5_around l dC dI q cI cJ cZ H.size kc kd kn kp ka kt ku kr cn xs ys x2 y2 my tl po so st nr co rg re ((re ((v3 - 1) : Int32).toNatClampNeg)) h) (cwV 1 hts gX5_walk_X5_around rfl rfl rfl (by decide +kernel) ⟨Nat.le_of_ble_eq_true rfl, Nat.le_of_ble_eq_true rfl⟩) ⟨wd.blind, va_recv hK hP (ci := 5) (q0 := 0) rfl rfl, fun U hU hW => ⟨rfl, wd.at hP hK ha hN hU hW⟩⟩ rfl rfl hl.1 rfl (lv_room (Nat.le_of_ble_eq_true rfl)) dX5_walk_30 ⟨Nat.le_of_ble_eq_true rfl, Nat.le_of_ble_eq_true rfl⟩) hS (fun r3 _ H locs h hP hS => ?_)
      have hP : va_P (dC, dI) vwCl (WM q cI cJ cZ kc kd kn kp ka kt ku kr cn xs ys x2 y2 my tl po so st nr co rg re) H := hP
      obtain ⟨b5, h⟩ := h
      refine va_last (D := (dC, dI)) hx hb hK hP (d_WM ha) hS 14 1 rfl rfl b5 dX5_walk_33 (fun H locs hP _ hS => ?_)
      obtain ⟨f6, ef6⟩ : ∃ z : (Nat → Int64), z = vp_updL re v3.toNatClampNeg r3 := ⟨_, rfl⟩
      have h := h f6 ef6
      have hP : va_P (dC, dI) vwCl (WM q cI cJ cZ kc kd kn kp ka kt ku kr cn xs ys x2 y2 my tl po so st nr co rg f6) H := by rw [ef6]; exact hP
      obtain ⟨i7, ei7⟩ : ∃ y : Int32, y = v3 + 1 := ⟨_, rfl⟩
      refine lv_iinc (v := i7) (lv' := [(3, .int i7), (0, .ref (q 0)), (2, .int v2)]) hx hb dX5_walk_34 hl (k := 2) rfl (by rw [ei7]; rfl) (by decide) rfl (fun ls hl => ?_)
      have h := h i7 ei7
      refine lv_goto (tgt := 11) hx hb dX5_walk_37 (by decide) ?_
      exact ih f6 v2 i7 ls H locs h (lv_sub hl [1, 2, 0] rfl) hP hS
def wX5_walk (kp : Int32) (nr : (Nat → Int64)) (re : (Nat → Int64)) (v1 : Int32) (v2 : Int32) (K : (Nat → Int64) → Prop) : Prop := (vp_in 0 42 ∧ (∀ f9 : (Nat → Int64), f9 = vp_updL re (0 : Int32).toNatClampNeg (((1 : Int64) <<< (v1.toInt64 &&& 63))) → (∃ z11, lpX5_walk_11 kp nr K (fun (re : (Nat → Int64)) => K re) z11 f9 v2 1)))
set_option maxHeartbeats 4000000 in
set_option maxRecDepth 100000 in
theorem ktX5_walk (l : Launch) (dC : Nat → ClassId) (dI : Nat → Nat → Nat) (q : Nat → Nat) (cI cJ cZ : ClassId) (sz : Nat) (kc : Int32) (kd : Int32) (kn : Int32) (kp : Int32) (ka : Int32) (kt : Int32) (ku : Int32) (kr : Int32) (cn : (Nat → Int32)) (xs : (Nat → Int32)) (ys : (Nat → Int32)) (x2 : (Nat → Int32)) (y2 : (Nat → Int32)) (my : (Nat → Int32)) (tl : (Nat → Int32)) (po : (Nat → Int32)) (so : (Nat → Int32)) (st : (Nat → Int32)) (nr : (Nat → Int64)) (co : (Nat → Int32)) (rg : (Nat → Int32)) (re : (Nat → Int64)) (v1 : Int32) (v2 : Int32) {K : (Nat → Int64) → Prop} (h : wX5_walk kp nr re v1 v2 K) : Met l yX5_walk wsX5_walk { frames := 1, cells := 0, slots := 0, locals := 25 } (va_Pc [.ref (q 0), .int v1, .int v2] (wd dC dI cI cJ cZ q 15 sz (WM q cI cJ cZ kc kd kn kp ka kt ku kr cn xs ys x2 y2 my tl po so st nr co rg re))) (QX5_walk dC dI cI cJ cZ q sz kc kd kn kp ka kt ku kr cn xs ys x2 y2 my tl po so st nr co rg K) 0 0 (AF q 15 sz) := by
  refine met_of [.ref (q 0), .int v1, .int v2] (by decide +kernel) rfl (Nat.le_of_ble_eq_true rfl) ?_
  intro p e s m below meth c ls hsz C hK ha hN hl hP
  subst hsz
  obtain ⟨hx, hb, hr, hml, hown, hts, hlk⟩ := id C
  have hl : lv_has ls 4 [(0, .ref (q 0)), (1, .int v1), (2, .int v2)] := hl
  refine w_go (Pw := fun H => va_P (dC, dI) vwCl (WM q cI cJ cZ kc kd kn kp ka kt ku kr cn xs ys x2 y2 my tl po so st nr co rg re) H) (A := AF q 15 s.heap.size) (fun H locs hP hS => ?_) hP
  unfold wX5_walk at h
  refine lv_aload_n hx hb dX5_walk_0 rfl (lv_at hl 0 rfl) ?_
  refine va_get (D := (dC, dI)) (ci := 5) (v := .ref (q 14)) (C := RX5) (T := TX5) (N := 22) hx hb hts iwX5_walk_X5 hown hK hP 0 rfl rfl 21 (by decide) (hts _ fwX5_walk_58) (fun _ h9 => h9) rfl dX5_walk_1 ?_
  refine lv_iconst (v := 0) hx hb dX5_walk_4 (by decide) ?_
  refine lv_lconst (v := 1) hx hb dX5_walk_5 (by decide) ?_
  refine lv_iload_n hx hb dX5_walk_6 rfl (lv_at hl 1 rfl) ?_
  refine lv_lshl hx hb dX5_walk_7 rfl ?_
  obtain ⟨b8, h⟩ := h
  refine va_last (D := (dC, dI)) hx hb hK hP (d_WM ha) hS 14 1 rfl rfl b8 dX5_walk_8 (fun H locs hP _ hS => ?_)
  obtain ⟨f9, ef9⟩ : ∃ z : (Nat → Int64), z = vp_updL re (0 : Int32).toNatClampNeg (((1 : Int64) <<< (v1.toInt64 &&& 63))) := ⟨_, rfl⟩
  have h := h f9 ef9
  have hP : va_P (dC, dI) vwCl (WM q cI cJ cZ kc kd kn kp ka kt ku kr cn xs ys x2 y2 my tl po so st nr co rg f9) H := by rw [ef9]; exact hP
  refine lv_iconst (v := 1) hx hb dX5_walk_9 (by decide) ?_
  refine lv_istore_n (lv' := [(3, .int 1), (0, .ref (q 0)), (1, .int v1), (2, .int v2)]) hx hb dX5_walk_10 rfl hl (by decide) rfl (fun ls hl => ?_)
  obtain ⟨n9, h⟩ := h
  exact mX5_walk_11 kc kd kn kp ka kt ku kr cn xs ys x2 y2 my tl po so st nr co rg C hK ha hN (fun re ls H locs h hl hP hS => by
      exact rt_v re hx hb hr hlk h (fun t ht => by rw [ht]; exact hP) hS dX5_walk_40) n9 f9 v2 1 ls H locs h (lv_sub hl [1, 3, 0] rfl) hP hS

theorem fwX5_takeRing_55 : Cond.fieldLink RX5 55 "MaskPartsModel" "ring" "[I" ∈ wsX5_takeRing := by decide +kernel
set_option maxRecDepth 20000 in
theorem iwX5_takeRing_X5 : ∀ w ∈ wsX50, w ∈ wsX5_takeRing := by decide +kernel
theorem fwX5_takeRing_58 : Cond.fieldLink RX5 58 "MaskPartsModel" "reach" "[J" ∈ wsX5_takeRing := by decide +kernel
theorem fwX5_takeRing_149 : Cond.fieldLink RX5 149 "MaskPartsModel" "ringSize" "I" ∈ wsX5_takeRing := by decide +kernel
abbrev QX5_takeRing (dC : Nat → ClassId) (dI : Nat → Nat → Nat) (cI cJ cZ : ClassId) (q : Nat → Nat) (sz : Nat) (kc : Int32) (kd : Int32) (kn : Int32) (kp : Int32) (ka : Int32) (kt : Int32) (ku : Int32) (cn : (Nat → Int32)) (xs : (Nat → Int32)) (ys : (Nat → Int32)) (x2 : (Nat → Int32)) (y2 : (Nat → Int32)) (my : (Nat → Int32)) (tl : (Nat → Int32)) (po : (Nat → Int32)) (so : (Nat → Int32)) (st : (Nat → Int32)) (nr : (Nat → Int64)) (co : (Nat → Int32)) (re : (Nat → Int64)) (K : (Int32 × (Nat → Int32)) → Prop) : Array Value → State → Outcome → State → Prop := va_Qv (fun (u : Int32 × (Nat → Int32)) => K u) (fun (u : Int32 × (Nat → Int32)) t => va_P (dC, dI) vwCl (WM q cI cJ cZ kc kd kn kp ka kt ku u.1 cn xs ys x2 y2 my tl po so st nr co u.2 re) t.heap) (AF q 15 sz)
def bkX5_takeRing_57 (nr : (Nat → Int64)) (re : (Nat → Int64)) (K : (Int32 × (Nat → Int32)) → Prop) (k22 : Int32 → (Nat → Int32) → Int32 → Int32 → Int32 → Prop) (kr : Int32) (rg : (Nat → Int32)) (v2 : Int32) (v3 : Int32) (v4 : Int32) : Prop := (∀ i1 : Int32, i1 = v4 + 1 → k22 kr rg v2 v3 i1)
set_option maxHeartbeats 4000000 in
set_option maxRecDepth 100000 in
theorem mX5_takeRing_57 {p : Program} {l : Launch} {e : Env} {s : State} {m : MethodId} {av : Array Value} {below : List Frame} {meth : Method} {c : Code} {dC : Nat → ClassId} {dI : Nat → Nat → Nat} {cI cJ cZ : ClassId} {q : Nat → Nat} {K : (Int32 × (Nat → Int32)) → Prop} {k22 : Int32 → (Nat → Int32) → Int32 → Int32 → Int32 → Prop} (kc : Int32) (kd : Int32) (kn : Int32) (kp : Int32) (ka : Int32) (kt : Int32) (ku : Int32) (cn : (Nat → Int32)) (xs : (Nat → Int32)) (ys : (Nat → Int32)) (x2 : (Nat → Int32)) (y2 : (Nat → Int32)) (my : (Nat → Int32)) (tl : (Nat → Int32)) (po : (Nat → Int32)) (so : (Nat → Int32)) (st : (Nat → Int32)) (nr : (Nat → Int64)) (co : (Nat → Int32)) (re : (Nat → Int64)) (C : CX p s m av meth c cX5_takeRing 5 none RX5 wsX5_takeRing) (hK : va_K (dC, dI) vwCl (TY cI cJ cZ) s) (ha : apart q 15) (hN : NX s) (hk22 : ∀ (kr : Int32) (rg : (Nat → Int32)) (v2 : Int32) (v3 : Int32) (v4 : Int32) (ls : Array Slot) (H : Heap) (locs : List Loc), k22 kr rg v2 v3 v4 → lv_has ls 5 [(0, .ref (q 0)), (2, .int v2), (3, .int v3), (4, .int v4)] → va_P (dC, dI) vwCl (WM q cI cJ cZ kc kd kn kp ka kt ku kr cn xs ys x2 y2 my tl po so st nr co rg re) H → va_S (AF q 15 s.heap.size) s.heap H locs → W p l e { frames := 1, cells := 0, slots := 0, locals := 22 } s m av below meth c H locs 0 0 (MQ below (QX5_takeRing dC dI cI cJ cZ q s.heap.size kc kd kn kp ka kt ku cn xs ys x2 y2 my tl po so st nr co re K) av s 0 0 (AF q 15 s.heap.size)) (F0 m 22 ls [])) : ∀ (kr : Int32) (rg : (Nat → Int32)) (v2 : Int32) (v3 : Int32) (v4 : Int32) (ls : Array Slot) (H : Heap) (locs : List Loc), bkX5_takeRing_57 nr re K k22 kr rg v2 v3 v4 → lv_has ls 5 [(0, .ref (q 0)), (2, .int v2), (3, .int v3), (4, .int v4)] → va_P (dC, dI) vwCl (WM q cI cJ cZ kc kd kn kp ka kt ku kr cn xs ys x2 y2 my tl po so st nr co rg re) H → va_S (AF q 15 s.heap.size) s.heap H locs → W p l e { frames := 1, cells := 0, slots := 0, locals := 22 } s m av below meth c H locs 0 0 (MQ below (QX5_takeRing dC dI cI cJ cZ q s.heap.size kc kd kn kp ka kt ku cn xs ys x2 y2 my tl po so st nr co re K) av s 0 0 (AF q 15 s.heap.size)) (F0 m 57 ls []) := by
  obtain ⟨hx, hb, hr, hml, hown, hts, hlk⟩ := id C
  intro kr rg v2 v3 v4 ls H locs h hl hP hS
  unfold bkX5_takeRing_57 at h
  obtain ⟨i1, ei1⟩ : ∃ y : Int32, y = v4 + 1 := ⟨_, rfl⟩
  refine lv_iinc (v := i1) (lv' := [(4, .int i1), (0, .ref (q 0)), (2, .int v2), (3, .int v3)]) hx hb dX5_takeRing_57 hl (k := 3) rfl (by rw [ei1]; rfl) (by decide) rfl (fun ls hl => ?_)
  have h := h i1 ei1
  refine lv_goto (tgt := 22) hx hb dX5_takeRing_60 (by decide) ?_
  exact hk22 kr rg v2 v3 i1 ls H locs h (lv_sub hl [1, 2, 3, 0] rfl) hP hS
def lpX5_takeRing_22 (nr : (Nat → Int64)) (re : (Nat → Int64)) (K : (Int32 × (Nat → Int32)) → Prop) (k63 : Int32 → (Nat → Int32) → Int32 → Int32 → Int32 → Prop) : Nat → Int32 → (Nat → Int32) → Int32 → Int32 → Int32 → Prop
  | 0, _, _, _, _, _ => False
  | n + 1, kr, rg, v2, v3, v4 => (vp_in ((v3 - 1)) 41 ∧ (wX5_areNear nr ((rg ((v3 - 1) : Int32).toNatClampNeg)) v4 (fun (r3 : Int32) => ((r3 = 0 → bkX5_takeRing_57 nr re K (fun kr rg v2 v3 v4 => lpX5_takeRing_22 nr re K k63 n kr rg v2 v3 v4) kr rg v2 v3 v4) ∧ (¬ (r3 = 0) → (vp_in ((v2 - v3)) 42 ∧ ((¬ (lg_cmp (((((re ((v2 - v3) : Int32).toNatClampNeg) : Int64) >>> (v4.toInt64 &&& 63)) &&& 1)) 0) = 0 → k63 kr rg v2 v3 v4) ∧ ((lg_cmp (((((re ((v2 - v3) : Int32).toNatClampNeg) : Int64) >>> (v4.toInt64 &&& 63)) &&& 1)) 0) = 0 → bkX5_takeRing_57 nr re K (fun kr rg v2 v3 v4 => lpX5_takeRing_22 nr re K k63 n kr rg v2 v3 v4) kr rg v2 v3 v4))))))))
set_option maxHeartbeats 4000000 in
set_option maxRecDepth 100000 in
theorem mX5_takeRing_22 {p : Program} {l : Launch} {e : Env} {s : State} {m : MethodId} {av : Array Value} {below : List Frame} {meth : Method} {c : Code} {dC : Nat → ClassId} {dI : Nat → Nat → Nat} {cI cJ cZ : ClassId} {q : Nat → Nat} {K : (Int32 × (Nat → Int32)) → Prop} {k63 : Int32 → (Nat → Int32) → Int32 → Int32 → Int32 → Prop} (kc : Int32) (kd : Int32) (kn : Int32) (kp : Int32) (ka : Int32) (kt : Int32) (ku : Int32) (cn : (Nat → Int32)) (xs : (Nat → Int32)) (ys : (Nat → Int32)) (x2 : (Nat → Int32)) (y2 : (Nat → Int32)) (my : (Nat → Int32)) (tl : (Nat → Int32)) (po : (Nat → Int32)) (so : (Nat → Int32)) (st : (Nat → Int32)) (nr : (Nat → Int64)) (co : (Nat → Int32)) (re : (Nat → Int64)) (C : CX p s m av meth c cX5_takeRing 5 none RX5 wsX5_takeRing) (hK : va_K (dC, dI) vwCl (TY cI cJ cZ) s) (ha : apart q 15) (hN : NX s) (hk63 : ∀ (kr : Int32) (rg : (Nat → Int32)) (v2 : Int32) (v3 : Int32) (v4 : Int32) (ls : Array Slot) (H : Heap) (locs : List Loc), k63 kr rg v2 v3 v4 → lv_has ls 5 [(0, .ref (q 0)), (2, .int v2), (3, .int v3), (4, .int v4)] → va_P (dC, dI) vwCl (WM q cI cJ cZ kc kd kn kp ka kt ku kr cn xs ys x2 y2 my tl po so st nr co rg re) H → va_S (AF q 15 s.heap.size) s.heap H locs → W p l e { frames := 1, cells := 0, slots := 0, locals := 22 } s m av below meth c H locs 0 0 (MQ below (QX5_takeRing dC dI cI cJ cZ q s.heap.size kc kd kn kp ka kt ku cn xs ys x2 y2 my tl po so st nr co re K) av s 0 0 (AF q 15 s.heap.size)) (F0 m 63 ls [])) : ∀ (n : Nat) (kr : Int32) (rg : (Nat → Int32)) (v2 : Int32) (v3 : Int32) (v4 : Int32) (ls : Array Slot) (H : Heap) (locs : List Loc), lpX5_takeRing_22 nr re K k63 n kr rg v2 v3 v4 → lv_has ls 5 [(0, .ref (q 0)), (2, .int v2), (3, .int v3), (4, .int v4)] → va_P (dC, dI) vwCl (WM q cI cJ cZ kc kd kn kp ka kt ku kr cn xs ys x2 y2 my tl po so st nr co rg re) H → va_S (AF q 15 s.heap.size) s.heap H locs → W p l e { frames := 1, cells := 0, slots := 0, locals := 22 } s m av below meth c H locs 0 0 (MQ below (QX5_takeRing dC dI cI cJ cZ q s.heap.size kc kd kn kp ka kt ku cn xs ys x2 y2 my tl po so st nr co re K) av s 0 0 (AF q 15 s.heap.size)) (F0 m 22 ls []) := by
  obtain ⟨hx, hb, hr, hml, hown, hts, hlk⟩ := id C
  intro n
  induction n with
  | zero =>
    intro kr rg v2 v3 v4 ls H locs h
    exact h.elim
  | succ n ih =>
    intro kr rg v2 v3 v4 ls H locs h hl hP hS
    rw [lpX5_takeRing_22.eq_2] at h
    refine lv_aload_n hx hb dX5_takeRing_22 rfl (lv_at hl 0 rfl) ?_
    refine lv_aload_n hx hb dX5_takeRing_23 rfl (lv_at hl 0 rfl) ?_
    refine va_get (D := (dC, dI)) (ci := 5) (v := .ref (q 13)) (C := RX5) (T := TX5) (N := 22) hx hb hts iwX5_takeRing_X5 hown hK hP 0 rfl rfl 20 (by decide) (hts _ fwX5_takeRing_55) (fun _ h9 => h9) rfl dX5_takeRing_24 ?_
    refine lv_iload_n hx hb dX5_takeRing_27 rfl (lv_at hl 2 rfl) ?_
    refine lv_iconst (v := 1) hx hb dX5_takeRing_28 (by decide) ?_
    refine lv_isub hx hb dX5_takeRing_29 ?_
    obtain ⟨b2, h⟩ := h
    refine va_iald (D := (dC, dI)) hx hb hK hP 13 0 rfl rfl b2 dX5_takeRing_30 ?_
    refine lv_iload hx hb dX5_takeRing_31 (lv_at hl 3 rfl) ?_
    refine cl_i (va_runV (As := [.int ((rg ((v3 - 1) : Int32).toNatClampNeg)), .int v4]) (rest := []) ⟨hx, hb, hml, hown, hts⟩ (ktX5_areNear l dC dI q cI cJ cZ H.size kc kd kn kp ka kt ku kr cn xs ys x2 y2 my tl po so st nr co rg re ((rg ((v3 - 1) : Int32).toNatClampNeg)) v4 h) (cwV 2 hts gX5_takeRing_X5_areNear rfl rfl rfl (by decide +kernel) ⟨Nat.le_of_ble_eq_true rfl, Nat.le_of_ble_eq_true rfl⟩) ⟨wd.blind, va_recv hK hP (ci := 5) (q0 := 0) rfl rfl, fun U hU hW => ⟨rfl, wd.at hP hK ha hN hU hW⟩⟩ rfl rfl hl.1 rfl (lv_room (Nat.le_of_ble_eq_true rfl)) dX5_takeRing_33 ⟨Nat.le_of_ble_eq_true rfl, Nat.le_of_ble_eq_true rfl⟩) hS (fun r3 _ H locs h hP hS => ?_)
    have hP : va_P (dC, dI) vwCl (WM q cI cJ cZ kc kd kn kp ka kt ku kr cn xs ys x2 y2 my tl po so st nr co rg re) H := hP
    refine lv_if_eq (tgt := 57) hx hb dX5_takeRing_36 (by decide) (fun c5 => ?_) (fun c5 => ?_)
    · have h := h.1 c5
      exact mX5_takeRing_57 kc kd kn kp ka kt ku cn xs ys x2 y2 my tl po so st nr co re C hK ha hN (fun kr rg v2 v3 v4 ls H locs h hl hP hS => ih kr rg v2 v3 v4 ls H locs h hl hP hS) kr rg v2 v3 v4 ls H locs h (lv_sub hl [0, 1, 2, 3] rfl) hP hS
    · have h := h.2 c5
      refine lv_aload_n hx hb dX5_takeRing_39 rfl (lv_at hl 0 rfl) ?_
      refine va_get (D := (dC, dI)) (ci := 5) (v := .ref (q 14)) (C := RX5) (T := TX5) (N := 22) hx hb hts iwX5_takeRing_X5 hown hK hP 0 rfl rfl 21 (by decide) (hts _ fwX5_takeRing_58) (fun _ h9 => h9) rfl dX5_takeRing_40 ?_
      refine lv_iload_n hx hb dX5_takeRing_43 rfl (lv_at hl 1 rfl) ?_
      refine lv_iload_n hx hb dX5_takeRing_44 rfl (lv_at hl 2 rfl) ?_
      refine lv_isub hx hb dX5_takeRing_45 ?_
      obtain ⟨b6, h⟩ := h
      refine va_lald (D := (dC, dI)) hx hb hK hP 14 1 rfl rfl b6 dX5_takeRing_46 ?_
      refine lv_iload hx hb dX5_takeRing_47 (lv_at hl 3 rfl) ?_
      refine lv_lshr hx hb dX5_takeRing_49 rfl ?_
      refine lv_lconst (v := 1) hx hb dX5_takeRing_50 (by decide) ?_
      refine lv_land hx hb dX5_takeRing_51 ?_
      refine lv_lconst (v := 0) hx hb dX5_takeRing_52 (by decide) ?_
      refine W.lcmp hx hb dX5_takeRing_53 ?_
      refine lv_if_ne (tgt := 63) hx hb dX5_takeRing_54 (by decide) (fun c7 => ?_) (fun c7 => ?_)
      · have h := h.1 c7
        exact hk63 kr rg v2 v3 v4 ls H locs h (lv_sub hl [0, 1, 2, 3] rfl) hP hS
      · have h := h.2 c7
        exact mX5_takeRing_57 kc kd kn kp ka kt ku cn xs ys x2 y2 my tl po so st nr co re C hK ha hN (fun kr rg v2 v3 v4 ls H locs h hl hP hS => ih kr rg v2 v3 v4 ls H locs h hl hP hS) kr rg v2 v3 v4 ls H locs h (lv_sub hl [0, 1, 2, 3] rfl) hP hS
def lpX5_takeRing_14 (nr : (Nat → Int64)) (re : (Nat → Int64)) (K : (Int32 × (Nat → Int32)) → Prop) (k77 : Int32 → (Nat → Int32) → Prop) : Nat → Int32 → (Nat → Int32) → Int32 → Int32 → Prop
  | 0, _, _, _, _ => False
  | n + 1, kr, rg, v2, v3 => ((v2 ≤ v3 → k77 kr rg) ∧ (¬ (v2 ≤ v3) → (∃ z22, lpX5_takeRing_22 nr re K (fun (kr : Int32) (rg : (Nat → Int32)) (v2 : Int32) (v3 : Int32) (v4 : Int32) => (vp_in v3 41 ∧ (∀ f10 : (Nat → Int32), f10 = upd rg v3.toNatClampNeg v4 → (∀ i11 : Int32, i11 = v3 + 1 → lpX5_takeRing_14 nr re K k77 n kr f10 v2 i11)))) z22 kr rg v2 v3 0)))
set_option maxHeartbeats 4000000 in
set_option maxRecDepth 100000 in
theorem mX5_takeRing_14 {p : Program} {l : Launch} {e : Env} {s : State} {m : MethodId} {av : Array Value} {below : List Frame} {meth : Method} {c : Code} {dC : Nat → ClassId} {dI : Nat → Nat → Nat} {cI cJ cZ : ClassId} {q : Nat → Nat} {K : (Int32 × (Nat → Int32)) → Prop} {k77 : Int32 → (Nat → Int32) → Prop} (kc : Int32) (kd : Int32) (kn : Int32) (kp : Int32) (ka : Int32) (kt : Int32) (ku : Int32) (cn : (Nat → Int32)) (xs : (Nat → Int32)) (ys : (Nat → Int32)) (x2 : (Nat → Int32)) (y2 : (Nat → Int32)) (my : (Nat → Int32)) (tl : (Nat → Int32)) (po : (Nat → Int32)) (so : (Nat → Int32)) (st : (Nat → Int32)) (nr : (Nat → Int64)) (co : (Nat → Int32)) (re : (Nat → Int64)) (C : CX p s m av meth c cX5_takeRing 5 none RX5 wsX5_takeRing) (hK : va_K (dC, dI) vwCl (TY cI cJ cZ) s) (ha : apart q 15) (hN : NX s) (hk77 : ∀ (kr : Int32) (rg : (Nat → Int32)) (ls : Array Slot) (H : Heap) (locs : List Loc), k77 kr rg → lv_has ls 5 [] → va_P (dC, dI) vwCl (WM q cI cJ cZ kc kd kn kp ka kt ku kr cn xs ys x2 y2 my tl po so st nr co rg re) H → va_S (AF q 15 s.heap.size) s.heap H locs → W p l e { frames := 1, cells := 0, slots := 0, locals := 22 } s m av below meth c H locs 0 0 (MQ below (QX5_takeRing dC dI cI cJ cZ q s.heap.size kc kd kn kp ka kt ku cn xs ys x2 y2 my tl po so st nr co re K) av s 0 0 (AF q 15 s.heap.size)) (F0 m 77 ls [])) : ∀ (n : Nat) (kr : Int32) (rg : (Nat → Int32)) (v2 : Int32) (v3 : Int32) (ls : Array Slot) (H : Heap) (locs : List Loc), lpX5_takeRing_14 nr re K k77 n kr rg v2 v3 → lv_has ls 5 [(0, .ref (q 0)), (2, .int v2), (3, .int v3)] → va_P (dC, dI) vwCl (WM q cI cJ cZ kc kd kn kp ka kt ku kr cn xs ys x2 y2 my tl po so st nr co rg re) H → va_S (AF q 15 s.heap.size) s.heap H locs → W p l e { frames := 1, cells := 0, slots := 0, locals := 22 } s m av below meth c H locs 0 0 (MQ below (QX5_takeRing dC dI cI cJ cZ q s.heap.size kc kd kn kp ka kt ku cn xs ys x2 y2 my tl po so st nr co re K) av s 0 0 (AF q 15 s.heap.size)) (F0 m 14 ls []) := by
  obtain ⟨hx, hb, hr, hml, hown, hts, hlk⟩ := id C
  intro n
  induction n with
  | zero =>
    intro kr rg v2 v3 ls H locs h
    exact h.elim
  | succ n ih =>
    intro kr rg v2 v3 ls H locs h hl hP hS
    rw [lpX5_takeRing_14.eq_2] at h
    refine lv_iload_n hx hb dX5_takeRing_14 rfl (lv_at hl 2 rfl) ?_
    refine lv_iload_n hx hb dX5_takeRing_15 rfl (lv_at hl 1 rfl) ?_
    refine lv_icmp_ge (tgt := 77) hx hb dX5_takeRing_16 (by decide) (fun c8 => ?_) (fun c8 => ?_)
    · have h := h.1 c8
      exact hk77 kr rg ls H locs h (lv_sub hl [] rfl) hP hS
    · have h := h.2 c8
      refine lv_iconst (v := 0) hx hb dX5_takeRing_19 (by decide) ?_
      refine lv_istore (lv' := [(4, .int 0), (0, .ref (q 0)), (2, .int v2), (3, .int v3)]) hx hb dX5_takeRing_20 hl (by decide) rfl (fun ls hl => ?_)
      obtain ⟨n9, h⟩ := h
      exact mX5_takeRing_22 kc kd kn kp ka kt ku cn xs ys x2 y2 my tl po so st nr co re C hK ha hN (fun kr rg v2 v3 v4 ls H locs h hl hP hS => by
          refine lv_aload_n hx hb dX5_takeRing_63 rfl (lv_at hl 0 rfl) ?_
          refine va_get (D := (dC, dI)) (ci := 5) (v := .ref (q 13)) (C := RX5) (T := TX5) (N := 22) hx hb hts iwX5_takeRing_X5 hown hK hP 0 rfl rfl 20 (by decide) (hts _ fwX5_takeRing_55) (fun _ h9 => h9) rfl dX5_takeRing_64 ?_
          refine lv_iload_n hx hb dX5_takeRing_67 rfl (lv_at hl 2 rfl) ?_
          refine lv_iload hx hb dX5_takeRing_68 (lv_at hl 3 rfl) ?_
          obtain ⟨b9, h⟩ := h
          refine va_iast (D := (dC, dI)) hx hb hK hP (d_WM ha) hS 13 0 rfl rfl b9 dX5_takeRing_70 (fun H locs hP _ hS => ?_)
          obtain ⟨f10, ef10⟩ : ∃ z : (Nat → Int32), z = upd rg v3.toNatClampNeg v4 := ⟨_, rfl⟩
          have h := h f10 ef10
          have hP : va_P (dC, dI) vwCl (WM q cI cJ cZ kc kd kn kp ka kt ku kr cn xs ys x2 y2 my tl po so st nr co f10 re) H := by rw [ef10]; exact hP
          obtain ⟨i11, ei11⟩ : ∃ y : Int32, y = v3 + 1 := ⟨_, rfl⟩
          refine lv_iinc (v := i11) (lv' := [(3, .int i11), (0, .ref (q 0)), (2, .int v2), (4, .int v4)]) hx hb dX5_takeRing_71 hl (k := 2) rfl (by rw [ei11]; rfl) (by decide) rfl (fun ls hl => ?_)
          have h := h i11 ei11
          refine lv_goto (tgt := 14) hx hb dX5_takeRing_74 (by decide) ?_
          exact ih kr f10 v2 i11 ls H locs h (lv_sub hl [1, 2, 0] rfl) hP hS) n9 kr rg v2 v3 0 ls H locs h (lv_sub hl [1, 2, 3, 0] rfl) hP hS
def wX5_takeRing (nr : (Nat → Int64)) (re : (Nat → Int64)) (kr : Int32) (rg : (Nat → Int32)) (v1 : Int32) (v2 : Int32) (K : (Int32 × (Nat → Int32)) → Prop) : Prop := (vp_in 0 41 ∧ (∀ f13 : (Nat → Int32), f13 = upd rg (0 : Int32).toNatClampNeg v1 → (∃ z14, lpX5_takeRing_14 nr re K (fun (kr : Int32) (rg : (Nat → Int32)) => K (kr, rg)) z14 v2 f13 v2 1)))
set_option maxHeartbeats 4000000 in
set_option maxRecDepth 100000 in
theorem ktX5_takeRing (l : Launch) (dC : Nat → ClassId) (dI : Nat → Nat → Nat) (q : Nat → Nat) (cI cJ cZ : ClassId) (sz : Nat) (kc : Int32) (kd : Int32) (kn : Int32) (kp : Int32) (ka : Int32) (kt : Int32) (ku : Int32) (kr : Int32) (cn : (Nat → Int32)) (xs : (Nat → Int32)) (ys : (Nat → Int32)) (x2 : (Nat → Int32)) (y2 : (Nat → Int32)) (my : (Nat → Int32)) (tl : (Nat → Int32)) (po : (Nat → Int32)) (so : (Nat → Int32)) (st : (Nat → Int32)) (nr : (Nat → Int64)) (co : (Nat → Int32)) (rg : (Nat → Int32)) (re : (Nat → Int64)) (v1 : Int32) (v2 : Int32) {K : (Int32 × (Nat → Int32)) → Prop} (h : wX5_takeRing nr re kr rg v1 v2 K) : Met l yX5_takeRing wsX5_takeRing { frames := 1, cells := 0, slots := 0, locals := 22 } (va_Pc [.ref (q 0), .int v1, .int v2] (wd dC dI cI cJ cZ q 15 sz (WM q cI cJ cZ kc kd kn kp ka kt ku kr cn xs ys x2 y2 my tl po so st nr co rg re))) (QX5_takeRing dC dI cI cJ cZ q sz kc kd kn kp ka kt ku cn xs ys x2 y2 my tl po so st nr co re K) 0 0 (AF q 15 sz) := by
  refine met_of [.ref (q 0), .int v1, .int v2] (by decide +kernel) rfl (Nat.le_of_ble_eq_true rfl) ?_
  intro p e s m below meth c ls hsz C hK ha hN hl hP
  subst hsz
  obtain ⟨hx, hb, hr, hml, hown, hts, hlk⟩ := id C
  have hl : lv_has ls 5 [(0, .ref (q 0)), (1, .int v1), (2, .int v2)] := hl
  refine w_go (Pw := fun H => va_P (dC, dI) vwCl (WM q cI cJ cZ kc kd kn kp ka kt ku kr cn xs ys x2 y2 my tl po so st nr co rg re) H) (A := AF q 15 s.heap.size) (fun H locs hP hS => ?_) hP
  unfold wX5_takeRing at h
  refine lv_aload_n hx hb dX5_takeRing_0 rfl (lv_at hl 0 rfl) ?_
  refine lv_iload_n hx hb dX5_takeRing_1 rfl (lv_at hl 2 rfl) ?_
  refine va_put (D := (dC, dI)) (ci := 5) (v := .int v2) (ty := .int) (C := RX5) (T := TX5) (N := 22) hx hb hts iwX5_takeRing_X5 tyX5 tyX5_ok nmX5 hown hK hP (d_WM ha) hS 0 rfl rfl 19 (by decide) (hts _ fwX5_takeRing_149) (fun _ h9 => h9) rfl (by decide +kernel) rfl rfl (Nat.le_of_ble_eq_true rfl) dX5_takeRing_2 (fun H locs hP _ hS => ?_)
  have hP : va_P (dC, dI) vwCl (WM q cI cJ cZ kc kd kn kp ka kt ku v2 cn xs ys x2 y2 my tl po so st nr co rg re) H := hP
  refine lv_aload_n hx hb dX5_takeRing_5 rfl (lv_at hl 0 rfl) ?_
  refine va_get (D := (dC, dI)) (ci := 5) (v := .ref (q 13)) (C := RX5) (T := TX5) (N := 22) hx hb hts iwX5_takeRing_X5 hown hK hP 0 rfl rfl 20 (by decide) (hts _ fwX5_takeRing_55) (fun _ h9 => h9) rfl dX5_takeRing_6 ?_
  refine lv_iconst (v := 0) hx hb dX5_takeRing_9 (by decide) ?_
  refine lv_iload_n hx hb dX5_takeRing_10 rfl (lv_at hl 1 rfl) ?_
  obtain ⟨b12, h⟩ := h
  refine va_iast (D := (dC, dI)) hx hb hK hP (d_WM ha) hS 13 0 rfl rfl b12 dX5_takeRing_11 (fun H locs hP _ hS => ?_)
  obtain ⟨f13, ef13⟩ : ∃ z : (Nat → Int32), z = upd rg (0 : Int32).toNatClampNeg v1 := ⟨_, rfl⟩
  have h := h f13 ef13
  have hP : va_P (dC, dI) vwCl (WM q cI cJ cZ kc kd kn kp ka kt ku v2 cn xs ys x2 y2 my tl po so st nr co f13 re) H := by rw [ef13]; exact hP
  refine lv_iconst (v := 1) hx hb dX5_takeRing_12 (by decide) ?_
  refine lv_istore_n (lv' := [(3, .int 1), (0, .ref (q 0)), (1, .int v1), (2, .int v2)]) hx hb dX5_takeRing_13 rfl hl (by decide) rfl (fun ls hl => ?_)
  obtain ⟨n9, h⟩ := h
  exact mX5_takeRing_14 kc kd kn kp ka kt ku cn xs ys x2 y2 my tl po so st nr co re C hK ha hN (fun kr rg ls H locs h hl hP hS => by
      exact rt_v (kr, rg) hx hb hr hlk h (fun t ht => by rw [ht]; exact hP) hS dX5_takeRing_77) n9 v2 f13 v2 1 ls H locs h (lv_sub hl [1, 3, 0] rfl) hP hS

theorem fwX5_findRing_102 : Cond.fieldLink RX5 102 "MaskPartsModel" "parts" "I" ∈ wsX5_findRing := by decide +kernel
set_option maxRecDepth 20000 in
theorem iwX5_findRing_X5 : ∀ w ∈ wsX50, w ∈ wsX5_findRing := by decide +kernel
theorem fwX5_findRing_149 : Cond.fieldLink RX5 149 "MaskPartsModel" "ringSize" "I" ∈ wsX5_findRing := by decide +kernel
theorem fwX5_findRing_58 : Cond.fieldLink RX5 58 "MaskPartsModel" "reach" "[J" ∈ wsX5_findRing := by decide +kernel
abbrev QX5_findRing (dC : Nat → ClassId) (dI : Nat → Nat → Nat) (cI cJ cZ : ClassId) (q : Nat → Nat) (sz : Nat) (kc : Int32) (kd : Int32) (kn : Int32) (ka : Int32) (kt : Int32) (ku : Int32) (cn : (Nat → Int32)) (xs : (Nat → Int32)) (ys : (Nat → Int32)) (x2 : (Nat → Int32)) (y2 : (Nat → Int32)) (my : (Nat → Int32)) (tl : (Nat → Int32)) (co : (Nat → Int32)) (K : (Int32 × Int32 × (Nat → Int32) × (Nat → Int32) × (Nat → Int32) × (Nat → Int64) × (Nat → Int32) × (Nat → Int64)) → Prop) : Array Value → State → Outcome → State → Prop := va_Qv (fun (u : Int32 × Int32 × (Nat → Int32) × (Nat → Int32) × (Nat → Int32) × (Nat → Int64) × (Nat → Int32) × (Nat → Int64)) => K u) (fun (u : Int32 × Int32 × (Nat → Int32) × (Nat → Int32) × (Nat → Int32) × (Nat → Int64) × (Nat → Int32) × (Nat → Int64)) t => va_P (dC, dI) vwCl (WM q cI cJ cZ kc kd kn u.1 ka kt ku u.2.1 cn xs ys x2 y2 my tl u.2.2.1 u.2.2.2.1 u.2.2.2.2.1 u.2.2.2.2.2.1 co u.2.2.2.2.2.2.1 u.2.2.2.2.2.2.2) t.heap) (AF q 15 sz)
def bkX5_findRing_70 (kd : Int32) (kn : Int32) (cn : (Nat → Int32)) (xs : (Nat → Int32)) (ys : (Nat → Int32)) (x2 : (Nat → Int32)) (y2 : (Nat → Int32)) (my : (Nat → Int32)) (K : (Int32 × Int32 × (Nat → Int32) × (Nat → Int32) × (Nat → Int32) × (Nat → Int64) × (Nat → Int32) × (Nat → Int64)) → Prop) (k28 : Int32 → Int32 → (Nat → Int32) → (Nat → Int32) → (Nat → Int32) → (Nat → Int64) → (Nat → Int32) → (Nat → Int64) → Int32 → Int32 → Prop) (kp : Int32) (kr : Int32) (po : (Nat → Int32)) (so : (Nat → Int32)) (st : (Nat → Int32)) (nr : (Nat → Int64)) (rg : (Nat → Int32)) (re : (Nat → Int64)) (v1 : Int32) (v2 : Int32) : Prop := (∀ i1 : Int32, i1 = v2 + 1 → k28 kp kr po so st nr rg re v1 i1)
set_option maxHeartbeats 4000000 in
set_option maxRecDepth 100000 in
theorem mX5_findRing_70 {p : Program} {l : Launch} {e : Env} {s : State} {m : MethodId} {av : Array Value} {below : List Frame} {meth : Method} {c : Code} {dC : Nat → ClassId} {dI : Nat → Nat → Nat} {cI cJ cZ : ClassId} {q : Nat → Nat} {K : (Int32 × Int32 × (Nat → Int32) × (Nat → Int32) × (Nat → Int32) × (Nat → Int64) × (Nat → Int32) × (Nat → Int64)) → Prop} {k28 : Int32 → Int32 → (Nat → Int32) → (Nat → Int32) → (Nat → Int32) → (Nat → Int64) → (Nat → Int32) → (Nat → Int64) → Int32 → Int32 → Prop} (kc : Int32) (kd : Int32) (kn : Int32) (ka : Int32) (kt : Int32) (ku : Int32) (cn : (Nat → Int32)) (xs : (Nat → Int32)) (ys : (Nat → Int32)) (x2 : (Nat → Int32)) (y2 : (Nat → Int32)) (my : (Nat → Int32)) (tl : (Nat → Int32)) (co : (Nat → Int32)) (C : CX p s m av meth c cX5_findRing 3 none RX5 wsX5_findRing) (hK : va_K (dC, dI) vwCl (TY cI cJ cZ) s) (ha : apart q 15) (hN : NX s) (hk28 : ∀ (kp : Int32) (kr : Int32) (po : (Nat → Int32)) (so : (Nat → Int32)) (st : (Nat → Int32)) (nr : (Nat → Int64)) (rg : (Nat → Int32)) (re : (Nat → Int64)) (v1 : Int32) (v2 : Int32) (ls : Array Slot) (H : Heap) (locs : List Loc), k28 kp kr po so st nr rg re v1 v2 → lv_has ls 3 [(0, .ref (q 0)), (1, .int v1), (2, .int v2)] → va_P (dC, dI) vwCl (WM q cI cJ cZ kc kd kn kp ka kt ku kr cn xs ys x2 y2 my tl po so st nr co rg re) H → va_S (AF q 15 s.heap.size) s.heap H locs → W p l e { frames := 4, cells := 0, slots := 0, locals := 97 } s m av below meth c H locs 0 0 (MQ below (QX5_findRing dC dI cI cJ cZ q s.heap.size kc kd kn ka kt ku cn xs ys x2 y2 my tl co K) av s 0 0 (AF q 15 s.heap.size)) (F0 m 28 ls [])) : ∀ (kp : Int32) (kr : Int32) (po : (Nat → Int32)) (so : (Nat → Int32)) (st : (Nat → Int32)) (nr : (Nat → Int64)) (rg : (Nat → Int32)) (re : (Nat → Int64)) (v1 : Int32) (v2 : Int32) (ls : Array Slot) (H : Heap) (locs : List Loc), bkX5_findRing_70 kd kn cn xs ys x2 y2 my K k28 kp kr po so st nr rg re v1 v2 → lv_has ls 3 [(0, .ref (q 0)), (1, .int v1), (2, .int v2)] → va_P (dC, dI) vwCl (WM q cI cJ cZ kc kd kn kp ka kt ku kr cn xs ys x2 y2 my tl po so st nr co rg re) H → va_S (AF q 15 s.heap.size) s.heap H locs → W p l e { frames := 4, cells := 0, slots := 0, locals := 97 } s m av below meth c H locs 0 0 (MQ below (QX5_findRing dC dI cI cJ cZ q s.heap.size kc kd kn ka kt ku cn xs ys x2 y2 my tl co K) av s 0 0 (AF q 15 s.heap.size)) (F0 m 70 ls []) := by
  obtain ⟨hx, hb, hr, hml, hown, hts, hlk⟩ := id C
  intro kp kr po so st nr rg re v1 v2 ls H locs h hl hP hS
  unfold bkX5_findRing_70 at h
  obtain ⟨i1, ei1⟩ : ∃ y : Int32, y = v2 + 1 := ⟨_, rfl⟩
  refine lv_iinc (v := i1) (lv' := [(2, .int i1), (0, .ref (q 0)), (1, .int v1)]) hx hb dX5_findRing_70 hl (k := 2) rfl (by rw [ei1]; rfl) (by decide) rfl (fun ls hl => ?_)
  have h := h i1 ei1
  refine lv_goto (tgt := 28) hx hb dX5_findRing_73 (by decide) ?_
  exact hk28 kp kr po so st nr rg re v1 i1 ls H locs h (lv_sub hl [1, 2, 0] rfl) hP hS
def bkX5_findRing_76 (kd : Int32) (kn : Int32) (cn : (Nat → Int32)) (xs : (Nat → Int32)) (ys : (Nat → Int32)) (x2 : (Nat → Int32)) (y2 : (Nat → Int32)) (my : (Nat → Int32)) (K : (Int32 × Int32 × (Nat → Int32) × (Nat → Int32) × (Nat → Int32) × (Nat → Int64) × (Nat → Int32) × (Nat → Int64)) → Prop) (k11 : Int32 → Int32 → (Nat → Int32) → (Nat → Int32) → (Nat → Int32) → (Nat → Int64) → (Nat → Int32) → (Nat → Int64) → Int32 → Prop) (kp : Int32) (kr : Int32) (po : (Nat → Int32)) (so : (Nat → Int32)) (st : (Nat → Int32)) (nr : (Nat → Int64)) (rg : (Nat → Int32)) (re : (Nat → Int64)) (v1 : Int32) : Prop := (∀ i2 : Int32, i2 = v1 + 2 → k11 kp kr po so st nr rg re i2)
set_option maxHeartbeats 4000000 in
set_option maxRecDepth 100000 in
theorem mX5_findRing_76 {p : Program} {l : Launch} {e : Env} {s : State} {m : MethodId} {av : Array Value} {below : List Frame} {meth : Method} {c : Code} {dC : Nat → ClassId} {dI : Nat → Nat → Nat} {cI cJ cZ : ClassId} {q : Nat → Nat} {K : (Int32 × Int32 × (Nat → Int32) × (Nat → Int32) × (Nat → Int32) × (Nat → Int64) × (Nat → Int32) × (Nat → Int64)) → Prop} {k11 : Int32 → Int32 → (Nat → Int32) → (Nat → Int32) → (Nat → Int32) → (Nat → Int64) → (Nat → Int32) → (Nat → Int64) → Int32 → Prop} (kc : Int32) (kd : Int32) (kn : Int32) (ka : Int32) (kt : Int32) (ku : Int32) (cn : (Nat → Int32)) (xs : (Nat → Int32)) (ys : (Nat → Int32)) (x2 : (Nat → Int32)) (y2 : (Nat → Int32)) (my : (Nat → Int32)) (tl : (Nat → Int32)) (co : (Nat → Int32)) (C : CX p s m av meth c cX5_findRing 3 none RX5 wsX5_findRing) (hK : va_K (dC, dI) vwCl (TY cI cJ cZ) s) (ha : apart q 15) (hN : NX s) (hk11 : ∀ (kp : Int32) (kr : Int32) (po : (Nat → Int32)) (so : (Nat → Int32)) (st : (Nat → Int32)) (nr : (Nat → Int64)) (rg : (Nat → Int32)) (re : (Nat → Int64)) (v1 : Int32) (ls : Array Slot) (H : Heap) (locs : List Loc), k11 kp kr po so st nr rg re v1 → lv_has ls 3 [(0, .ref (q 0)), (1, .int v1)] → va_P (dC, dI) vwCl (WM q cI cJ cZ kc kd kn kp ka kt ku kr cn xs ys x2 y2 my tl po so st nr co rg re) H → va_S (AF q 15 s.heap.size) s.heap H locs → W p l e { frames := 4, cells := 0, slots := 0, locals := 97 } s m av below meth c H locs 0 0 (MQ below (QX5_findRing dC dI cI cJ cZ q s.heap.size kc kd kn ka kt ku cn xs ys x2 y2 my tl co K) av s 0 0 (AF q 15 s.heap.size)) (F0 m 11 ls [])) : ∀ (kp : Int32) (kr : Int32) (po : (Nat → Int32)) (so : (Nat → Int32)) (st : (Nat → Int32)) (nr : (Nat → Int64)) (rg : (Nat → Int32)) (re : (Nat → Int64)) (v1 : Int32) (ls : Array Slot) (H : Heap) (locs : List Loc), bkX5_findRing_76 kd kn cn xs ys x2 y2 my K k11 kp kr po so st nr rg re v1 → lv_has ls 3 [(0, .ref (q 0)), (1, .int v1)] → va_P (dC, dI) vwCl (WM q cI cJ cZ kc kd kn kp ka kt ku kr cn xs ys x2 y2 my tl po so st nr co rg re) H → va_S (AF q 15 s.heap.size) s.heap H locs → W p l e { frames := 4, cells := 0, slots := 0, locals := 97 } s m av below meth c H locs 0 0 (MQ below (QX5_findRing dC dI cI cJ cZ q s.heap.size kc kd kn ka kt ku cn xs ys x2 y2 my tl co K) av s 0 0 (AF q 15 s.heap.size)) (F0 m 76 ls []) := by
  obtain ⟨hx, hb, hr, hml, hown, hts, hlk⟩ := id C
  intro kp kr po so st nr rg re v1 ls H locs h hl hP hS
  unfold bkX5_findRing_76 at h
  obtain ⟨i2, ei2⟩ : ∃ y : Int32, y = v1 + 2 := ⟨_, rfl⟩
  refine lv_iinc (v := i2) (lv' := [(1, .int i2), (0, .ref (q 0))]) hx hb dX5_findRing_76 hl (k := 1) rfl (by rw [ei2]; rfl) (by decide) rfl (fun ls hl => ?_)
  have h := h i2 ei2
  refine lv_goto (tgt := 11) hx hb dX5_findRing_79 (by decide) ?_
  exact hk11 kp kr po so st nr rg re i2 ls H locs h (lv_sub hl [1, 0] rfl) hP hS
def lpX5_findRing_28 (kd : Int32) (kn : Int32) (cn : (Nat → Int32)) (xs : (Nat → Int32)) (ys : (Nat → Int32)) (x2 : (Nat → Int32)) (y2 : (Nat → Int32)) (my : (Nat → Int32)) (K : (Int32 × Int32 × (Nat → Int32) × (Nat → Int32) × (Nat → Int32) × (Nat → Int64) × (Nat → Int32) × (Nat → Int64)) → Prop) (k76 : Int32 → Int32 → (Nat → Int32) → (Nat → Int32) → (Nat → Int32) → (Nat → Int64) → (Nat → Int32) → (Nat → Int64) → Int32 → Prop) : Nat → Int32 → Int32 → (Nat → Int32) → (Nat → Int32) → (Nat → Int32) → (Nat → Int64) → (Nat → Int32) → (Nat → Int64) → Int32 → Int32 → Prop
  | 0, _, _, _, _, _, _, _, _, _, _ => False
  | n + 1, kp, kr, po, so, st, nr, rg, re, v1, v2 => ((kp ≤ v2 → k76 kp kr po so st nr rg re v1) ∧ (¬ (kp ≤ v2) → ((¬ kr = 0 → k76 kp kr po so st nr rg re v1) ∧ (kr = 0 → (wX5_walk kp nr re v2 v1 (fun (u6 : (Nat → Int64)) => (vp_in v1 42 ∧ ((¬ (lg_cmp (((((u6 v1.toNatClampNeg) : Int64) >>> (v2.toInt64 &&& 63)) &&& 1)) 1) = 0 → bkX5_findRing_70 kd kn cn xs ys x2 y2 my K (fun kp kr po so st nr rg re v1 v2 => lpX5_findRing_28 kd kn cn xs ys x2 y2 my K k76 n kp kr po so st nr rg re v1 v2) kp kr po so st nr rg u6 v1 v2) ∧ ((lg_cmp (((((u6 v1.toNatClampNeg) : Int64) >>> (v2.toInt64 &&& 63)) &&& 1)) 1) = 0 → (wX5_takeRing nr u6 kr rg v2 v1 (fun (u10 : Int32 × (Nat → Int32)) => bkX5_findRing_70 kd kn cn xs ys x2 y2 my K (fun kp kr po so st nr rg re v1 v2 => lpX5_findRing_28 kd kn cn xs ys x2 y2 my K k76 n kp kr po so st nr rg re v1 v2) kp u10.1 po so st nr u10.2 u6 v1 v2)))))))))))
set_option maxHeartbeats 4000000 in
set_option maxRecDepth 100000 in
theorem mX5_findRing_28 {p : Program} {l : Launch} {e : Env} {s : State} {m : MethodId} {av : Array Value} {below : List Frame} {meth : Method} {c : Code} {dC : Nat → ClassId} {dI : Nat → Nat → Nat} {cI cJ cZ : ClassId} {q : Nat → Nat} {K : (Int32 × Int32 × (Nat → Int32) × (Nat → Int32) × (Nat → Int32) × (Nat → Int64) × (Nat → Int32) × (Nat → Int64)) → Prop} {k76 : Int32 → Int32 → (Nat → Int32) → (Nat → Int32) → (Nat → Int32) → (Nat → Int64) → (Nat → Int32) → (Nat → Int64) → Int32 → Prop} (kc : Int32) (kd : Int32) (kn : Int32) (ka : Int32) (kt : Int32) (ku : Int32) (cn : (Nat → Int32)) (xs : (Nat → Int32)) (ys : (Nat → Int32)) (x2 : (Nat → Int32)) (y2 : (Nat → Int32)) (my : (Nat → Int32)) (tl : (Nat → Int32)) (co : (Nat → Int32)) (C : CX p s m av meth c cX5_findRing 3 none RX5 wsX5_findRing) (hK : va_K (dC, dI) vwCl (TY cI cJ cZ) s) (ha : apart q 15) (hN : NX s) (hk76 : ∀ (kp : Int32) (kr : Int32) (po : (Nat → Int32)) (so : (Nat → Int32)) (st : (Nat → Int32)) (nr : (Nat → Int64)) (rg : (Nat → Int32)) (re : (Nat → Int64)) (v1 : Int32) (ls : Array Slot) (H : Heap) (locs : List Loc), k76 kp kr po so st nr rg re v1 → lv_has ls 3 [(0, .ref (q 0)), (1, .int v1)] → va_P (dC, dI) vwCl (WM q cI cJ cZ kc kd kn kp ka kt ku kr cn xs ys x2 y2 my tl po so st nr co rg re) H → va_S (AF q 15 s.heap.size) s.heap H locs → W p l e { frames := 4, cells := 0, slots := 0, locals := 97 } s m av below meth c H locs 0 0 (MQ below (QX5_findRing dC dI cI cJ cZ q s.heap.size kc kd kn ka kt ku cn xs ys x2 y2 my tl co K) av s 0 0 (AF q 15 s.heap.size)) (F0 m 76 ls [])) : ∀ (n : Nat) (kp : Int32) (kr : Int32) (po : (Nat → Int32)) (so : (Nat → Int32)) (st : (Nat → Int32)) (nr : (Nat → Int64)) (rg : (Nat → Int32)) (re : (Nat → Int64)) (v1 : Int32) (v2 : Int32) (ls : Array Slot) (H : Heap) (locs : List Loc), lpX5_findRing_28 kd kn cn xs ys x2 y2 my K k76 n kp kr po so st nr rg re v1 v2 → lv_has ls 3 [(0, .ref (q 0)), (1, .int v1), (2, .int v2)] → va_P (dC, dI) vwCl (WM q cI cJ cZ kc kd kn kp ka kt ku kr cn xs ys x2 y2 my tl po so st nr co rg re) H → va_S (AF q 15 s.heap.size) s.heap H locs → W p l e { frames := 4, cells := 0, slots := 0, locals := 97 } s m av below meth c H locs 0 0 (MQ below (QX5_findRing dC dI cI cJ cZ q s.heap.size kc kd kn ka kt ku cn xs ys x2 y2 my tl co K) av s 0 0 (AF q 15 s.heap.size)) (F0 m 28 ls []) := by
  obtain ⟨hx, hb, hr, hml, hown, hts, hlk⟩ := id C
  intro n
  induction n with
  | zero =>
    intro kp kr po so st nr rg re v1 v2 ls H locs h
    exact h.elim
  | succ n ih =>
    intro kp kr po so st nr rg re v1 v2 ls H locs h hl hP hS
    rw [lpX5_findRing_28.eq_2] at h
    refine lv_iload_n hx hb dX5_findRing_28 rfl (lv_at hl 2 rfl) ?_
    refine lv_aload_n hx hb dX5_findRing_29 rfl (lv_at hl 0 rfl) ?_
    refine va_get (D := (dC, dI)) (ci := 5) (v := .int kp) (C := RX5) (T := TX5) (N := 22) hx hb hts iwX5_findRing_X5 hown hK hP 0 rfl rfl 10 (by decide) (hts _ fwX5_findRing_102) (fun _ h9 => h9) rfl dX5_findRing_30 ?_
    refine lv_icmp_ge (tgt := 76) hx hb dX5_findRing_33 (by decide) (fun c3 => ?_) (fun c3 => ?_)
    · have h := h.1 c3
      exact hk76 kp kr po so st nr rg re v1 ls H locs h (lv_sub hl [0, 1] rfl) hP hS
    · have h := h.2 c3
      refine lv_aload_n hx hb dX5_findRing_36 rfl (lv_at hl 0 rfl) ?_
      refine va_get (D := (dC, dI)) (ci := 5) (v := .int kr) (C := RX5) (T := TX5) (N := 22) hx hb hts iwX5_findRing_X5 hown hK hP 0 rfl rfl 19 (by decide) (hts _ fwX5_findRing_149) (fun _ h9 => h9) rfl dX5_findRing_37 ?_
      refine lv_if_ne (tgt := 76) hx hb dX5_findRing_40 (by decide) (fun c4 => ?_) (fun c4 => ?_)
      · have h := h.1 c4
        exact hk76 kp kr po so st nr rg re v1 ls H locs h (lv_sub hl [0, 1] rfl) hP hS
      · have h := h.2 c4
        refine lv_aload_n hx hb dX5_findRing_43 rfl (lv_at hl 0 rfl) ?_
        refine lv_iload_n hx hb dX5_findRing_44 rfl (lv_at hl 2 rfl) ?_
        refine lv_iload_n hx hb dX5_findRing_45 rfl (lv_at hl 1 rfl) ?_
        refine cl_v (va_runV (As := [.int v2, .int v1]) (rest := []) ⟨hx, hb, hml, hown, hts⟩ (ktX5_walk l dC dI q cI cJ cZ H.size kc kd kn kp ka kt ku kr cn xs ys x2 y2 my tl po so st nr co rg re v2 v1 h) (cwV 2 hts gX5_findRing_X5_walk rfl rfl rfl (by decide +kernel) ⟨Nat.le_of_ble_eq_true rfl, Nat.le_of_ble_eq_true rfl⟩) ⟨wd.blind, va_recv hK hP (ci := 5) (q0 := 0) rfl rfl, fun U hU hW => ⟨rfl, wd.at hP hK ha hN hU hW⟩⟩ rfl rfl hl.1 rfl (lv_room (Nat.le_of_ble_eq_true rfl)) dX5_findRing_46 ⟨Nat.le_of_ble_eq_true rfl, Nat.le_of_ble_eq_true rfl⟩) hS (fun u6 H locs h hP hS => ?_)
        have hP : va_P (dC, dI) vwCl (WM q cI cJ cZ kc kd kn kp ka kt ku kr cn xs ys x2 y2 my tl po so st nr co rg u6) H := hP
        refine lv_aload_n hx hb dX5_findRing_49 rfl (lv_at hl 0 rfl) ?_
        refine va_get (D := (dC, dI)) (ci := 5) (v := .ref (q 14)) (C := RX5) (T := TX5) (N := 22) hx hb hts iwX5_findRing_X5 hown hK hP 0 rfl rfl 21 (by decide) (hts _ fwX5_findRing_58) (fun _ h9 => h9) rfl dX5_findRing_50 ?_
        refine lv_iload_n hx hb dX5_findRing_53 rfl (lv_at hl 1 rfl) ?_
        obtain ⟨b7, h⟩ := h
        refine va_lald (D := (dC, dI)) hx hb hK hP 14 1 rfl rfl b7 dX5_findRing_54 ?_
        refine lv_iload_n hx hb dX5_findRing_55 rfl (lv_at hl 2 rfl) ?_
        refine lv_lshr hx hb dX5_findRing_56 rfl ?_
        refine lv_lconst (v := 1) hx hb dX5_findRing_57 (by decide) ?_
        refine lv_land hx hb dX5_findRing_58 ?_
        refine lv_lconst (v := 1) hx hb dX5_findRing_59 (by decide) ?_
        refine W.lcmp hx hb dX5_findRing_60 ?_
        refine lv_if_ne (tgt := 70) hx hb dX5_findRing_61 (by decide) (fun c8 => ?_) (fun c8 => ?_)
        · have h := h.1 c8
          exact mX5_findRing_70 kc kd kn ka kt ku cn xs ys x2 y2 my tl co C hK ha hN (fun kp kr po so st nr rg re v1 v2 ls H locs h hl hP hS => ih kp kr po so st nr rg re v1 v2 ls H locs h hl hP hS) kp kr po so st nr rg u6 v1 v2 ls H locs h (lv_sub hl [0, 1, 2] rfl) hP hS
        · have h := h.2 c8
          refine lv_aload_n hx hb dX5_findRing_64 rfl (lv_at hl 0 rfl) ?_
          refine lv_iload_n hx hb dX5_findRing_65 rfl (lv_at hl 2 rfl) ?_
          refine lv_iload_n hx hb dX5_findRing_66 rfl (lv_at hl 1 rfl) ?_
          refine cl_v (va_runV (As := [.int v2, .int v1]) (rest := []) ⟨hx, hb, hml, hown, hts⟩ (ktX5_takeRing l dC dI q cI cJ cZ H.size kc kd kn kp ka kt ku kr cn xs ys x2 y2 my tl po so st nr co rg u6 v2 v1 h) (cwV 2 hts gX5_findRing_X5_takeRing rfl rfl rfl (by decide +kernel) ⟨Nat.le_of_ble_eq_true rfl, Nat.le_of_ble_eq_true rfl⟩) ⟨wd.blind, va_recv hK hP (ci := 5) (q0 := 0) rfl rfl, fun U hU hW => ⟨rfl, wd.at hP hK ha hN hU hW⟩⟩ rfl rfl hl.1 rfl (lv_room (Nat.le_of_ble_eq_true rfl)) dX5_findRing_67 ⟨Nat.le_of_ble_eq_true rfl, Nat.le_of_ble_eq_true rfl⟩) hS (fun u10 H locs h hP hS => ?_)
          have hP : va_P (dC, dI) vwCl (WM q cI cJ cZ kc kd kn kp ka kt ku u10.1 cn xs ys x2 y2 my tl po so st nr co u10.2 u6) H := hP
          exact mX5_findRing_70 kc kd kn ka kt ku cn xs ys x2 y2 my tl co C hK ha hN (fun kp kr po so st nr rg re v1 v2 ls H locs h hl hP hS => ih kp kr po so st nr rg re v1 v2 ls H locs h hl hP hS) kp u10.1 po so st nr u10.2 u6 v1 v2 ls H locs h (lv_sub hl [0, 1, 2] rfl) hP hS
def lpX5_findRing_11 (kd : Int32) (kn : Int32) (cn : (Nat → Int32)) (xs : (Nat → Int32)) (ys : (Nat → Int32)) (x2 : (Nat → Int32)) (y2 : (Nat → Int32)) (my : (Nat → Int32)) (K : (Int32 × Int32 × (Nat → Int32) × (Nat → Int32) × (Nat → Int32) × (Nat → Int64) × (Nat → Int32) × (Nat → Int64)) → Prop) (k82 : Int32 → Int32 → (Nat → Int32) → (Nat → Int32) → (Nat → Int32) → (Nat → Int64) → (Nat → Int32) → (Nat → Int64) → Prop) : Nat → Int32 → Int32 → (Nat → Int32) → (Nat → Int32) → (Nat → Int32) → (Nat → Int64) → (Nat → Int32) → (Nat → Int64) → Int32 → Prop
  | 0, _, _, _, _, _, _, _, _, _ => False
  | n + 1, kp, kr, po, so, st, nr, rg, re, v1 => ((kp < v1 → k82 kp kr po so st nr rg re) ∧ (¬ (kp < v1) → ((¬ kr = 0 → k82 kp kr po so st nr rg re) ∧ (kr = 0 → (∃ z28, lpX5_findRing_28 kd kn cn xs ys x2 y2 my K (fun (kp : Int32) (kr : Int32) (po : (Nat → Int32)) (so : (Nat → Int32)) (st : (Nat → Int32)) (nr : (Nat → Int64)) (rg : (Nat → Int32)) (re : (Nat → Int64)) (v1 : Int32) => (∀ i13 : Int32, i13 = v1 + 2 → lpX5_findRing_11 kd kn cn xs ys x2 y2 my K k82 n kp kr po so st nr rg re i13)) z28 kp kr po so st nr rg re v1 0)))))
set_option maxHeartbeats 4000000 in
set_option maxRecDepth 100000 in
theorem mX5_findRing_11 {p : Program} {l : Launch} {e : Env} {s : State} {m : MethodId} {av : Array Value} {below : List Frame} {meth : Method} {c : Code} {dC : Nat → ClassId} {dI : Nat → Nat → Nat} {cI cJ cZ : ClassId} {q : Nat → Nat} {K : (Int32 × Int32 × (Nat → Int32) × (Nat → Int32) × (Nat → Int32) × (Nat → Int64) × (Nat → Int32) × (Nat → Int64)) → Prop} {k82 : Int32 → Int32 → (Nat → Int32) → (Nat → Int32) → (Nat → Int32) → (Nat → Int64) → (Nat → Int32) → (Nat → Int64) → Prop} (kc : Int32) (kd : Int32) (kn : Int32) (ka : Int32) (kt : Int32) (ku : Int32) (cn : (Nat → Int32)) (xs : (Nat → Int32)) (ys : (Nat → Int32)) (x2 : (Nat → Int32)) (y2 : (Nat → Int32)) (my : (Nat → Int32)) (tl : (Nat → Int32)) (co : (Nat → Int32)) (C : CX p s m av meth c cX5_findRing 3 none RX5 wsX5_findRing) (hK : va_K (dC, dI) vwCl (TY cI cJ cZ) s) (ha : apart q 15) (hN : NX s) (hk82 : ∀ (kp : Int32) (kr : Int32) (po : (Nat → Int32)) (so : (Nat → Int32)) (st : (Nat → Int32)) (nr : (Nat → Int64)) (rg : (Nat → Int32)) (re : (Nat → Int64)) (ls : Array Slot) (H : Heap) (locs : List Loc), k82 kp kr po so st nr rg re → lv_has ls 3 [] → va_P (dC, dI) vwCl (WM q cI cJ cZ kc kd kn kp ka kt ku kr cn xs ys x2 y2 my tl po so st nr co rg re) H → va_S (AF q 15 s.heap.size) s.heap H locs → W p l e { frames := 4, cells := 0, slots := 0, locals := 97 } s m av below meth c H locs 0 0 (MQ below (QX5_findRing dC dI cI cJ cZ q s.heap.size kc kd kn ka kt ku cn xs ys x2 y2 my tl co K) av s 0 0 (AF q 15 s.heap.size)) (F0 m 82 ls [])) : ∀ (n : Nat) (kp : Int32) (kr : Int32) (po : (Nat → Int32)) (so : (Nat → Int32)) (st : (Nat → Int32)) (nr : (Nat → Int64)) (rg : (Nat → Int32)) (re : (Nat → Int64)) (v1 : Int32) (ls : Array Slot) (H : Heap) (locs : List Loc), lpX5_findRing_11 kd kn cn xs ys x2 y2 my K k82 n kp kr po so st nr rg re v1 → lv_has ls 3 [(0, .ref (q 0)), (1, .int v1)] → va_P (dC, dI) vwCl (WM q cI cJ cZ kc kd kn kp ka kt ku kr cn xs ys x2 y2 my tl po so st nr co rg re) H → va_S (AF q 15 s.heap.size) s.heap H locs → W p l e { frames := 4, cells := 0, slots := 0, locals := 97 } s m av below meth c H locs 0 0 (MQ below (QX5_findRing dC dI cI cJ cZ q s.heap.size kc kd kn ka kt ku cn xs ys x2 y2 my tl co K) av s 0 0 (AF q 15 s.heap.size)) (F0 m 11 ls []) := by
  obtain ⟨hx, hb, hr, hml, hown, hts, hlk⟩ := id C
  intro n
  induction n with
  | zero =>
    intro kp kr po so st nr rg re v1 ls H locs h
    exact h.elim
  | succ n ih =>
    intro kp kr po so st nr rg re v1 ls H locs h hl hP hS
    rw [lpX5_findRing_11.eq_2] at h
    refine lv_iload_n hx hb dX5_findRing_11 rfl (lv_at hl 1 rfl) ?_
    refine lv_aload_n hx hb dX5_findRing_12 rfl (lv_at hl 0 rfl) ?_
    refine va_get (D := (dC, dI)) (ci := 5) (v := .int kp) (C := RX5) (T := TX5) (N := 22) hx hb hts iwX5_findRing_X5 hown hK hP 0 rfl rfl 10 (by decide) (hts _ fwX5_findRing_102) (fun _ h9 => h9) rfl dX5_findRing_13 ?_
    refine lv_icmp_gt (tgt := 82) hx hb dX5_findRing_16 (by decide) (fun c11 => ?_) (fun c11 => ?_)
    · have h := h.1 c11
      exact hk82 kp kr po so st nr rg re ls H locs h (lv_sub hl [] rfl) hP hS
    · have h := h.2 c11
      refine lv_aload_n hx hb dX5_findRing_19 rfl (lv_at hl 0 rfl) ?_
      refine va_get (D := (dC, dI)) (ci := 5) (v := .int kr) (C := RX5) (T := TX5) (N := 22) hx hb hts iwX5_findRing_X5 hown hK hP 0 rfl rfl 19 (by decide) (hts _ fwX5_findRing_149) (fun _ h9 => h9) rfl dX5_findRing_20 ?_
      refine lv_if_ne (tgt := 82) hx hb dX5_findRing_23 (by decide) (fun c12 => ?_) (fun c12 => ?_)
      · have h := h.1 c12
        exact hk82 kp kr po so st nr rg re ls H locs h (lv_sub hl [] rfl) hP hS
      · have h := h.2 c12
        refine lv_iconst (v := 0) hx hb dX5_findRing_26 (by decide) ?_
        refine lv_istore_n (lv' := [(2, .int 0), (0, .ref (q 0)), (1, .int v1)]) hx hb dX5_findRing_27 rfl hl (by decide) rfl (fun ls hl => ?_)
        obtain ⟨n9, h⟩ := h
        exact mX5_findRing_28 kc kd kn ka kt ku cn xs ys x2 y2 my tl co C hK ha hN (fun kp kr po so st nr rg re v1 ls H locs h hl hP hS => by
            obtain ⟨i13, ei13⟩ : ∃ y : Int32, y = v1 + 2 := ⟨_, rfl⟩
            refine lv_iinc (v := i13) (lv' := [(1, .int i13), (0, .ref (q 0))]) hx hb dX5_findRing_76 hl (k := 1) rfl (by rw [ei13]; rfl) (by decide) rfl (fun ls hl => ?_)
            have h := h i13 ei13
            refine lv_goto (tgt := 11) hx hb dX5_findRing_79 (by decide) ?_
            exact ih kp kr po so st nr rg re i13 ls H locs h (lv_sub hl [1, 0] rfl) hP hS) n9 kp kr po so st nr rg re v1 0 ls H locs h (lv_sub hl [1, 2, 0] rfl) hP hS
def wX5_findRing (kd : Int32) (kn : Int32) (cn : (Nat → Int32)) (xs : (Nat → Int32)) (ys : (Nat → Int32)) (x2 : (Nat → Int32)) (y2 : (Nat → Int32)) (my : (Nat → Int32)) (kp : Int32) (kr : Int32) (po : (Nat → Int32)) (so : (Nat → Int32)) (st : (Nat → Int32)) (nr : (Nat → Int64)) (rg : (Nat → Int32)) (re : (Nat → Int64))  (K : (Int32 × Int32 × (Nat → Int32) × (Nat → Int32) × (Nat → Int32) × (Nat → Int64) × (Nat → Int32) × (Nat → Int64)) → Prop) : Prop := (wX5_findParts kd kn cn xs ys x2 y2 my kp po so st nr  (fun (u15 : Int32 × (Nat → Int32) × (Nat → Int32) × (Nat → Int32) × (Nat → Int64)) => (∃ z11, lpX5_findRing_11 kd kn cn xs ys x2 y2 my K (fun (kp : Int32) (kr : Int32) (po : (Nat → Int32)) (so : (Nat → Int32)) (st : (Nat → Int32)) (nr : (Nat → Int64)) (rg : (Nat → Int32)) (re : (Nat → Int64)) => K (kp, kr, po, so, st, nr, rg, re)) z11 u15.1 0 u15.2.1 u15.2.2.1 u15.2.2.2.1 u15.2.2.2.2 rg re 3)))
set_option maxHeartbeats 4000000 in
set_option maxRecDepth 100000 in
theorem ktX5_findRing (l : Launch) (dC : Nat → ClassId) (dI : Nat → Nat → Nat) (q : Nat → Nat) (cI cJ cZ : ClassId) (sz : Nat) (kc : Int32) (kd : Int32) (kn : Int32) (kp : Int32) (ka : Int32) (kt : Int32) (ku : Int32) (kr : Int32) (cn : (Nat → Int32)) (xs : (Nat → Int32)) (ys : (Nat → Int32)) (x2 : (Nat → Int32)) (y2 : (Nat → Int32)) (my : (Nat → Int32)) (tl : (Nat → Int32)) (po : (Nat → Int32)) (so : (Nat → Int32)) (st : (Nat → Int32)) (nr : (Nat → Int64)) (co : (Nat → Int32)) (rg : (Nat → Int32)) (re : (Nat → Int64))  {K : (Int32 × Int32 × (Nat → Int32) × (Nat → Int32) × (Nat → Int32) × (Nat → Int64) × (Nat → Int32) × (Nat → Int64)) → Prop} (h : wX5_findRing kd kn cn xs ys x2 y2 my kp kr po so st nr rg re K) : Met l yX5_findRing wsX5_findRing { frames := 4, cells := 0, slots := 0, locals := 97 } (va_Pc [.ref (q 0)] (wd dC dI cI cJ cZ q 15 sz (WM q cI cJ cZ kc kd kn kp ka kt ku kr cn xs ys x2 y2 my tl po so st nr co rg re))) (QX5_findRing dC dI cI cJ cZ q sz kc kd kn ka kt ku cn xs ys x2 y2 my tl co K) 0 0 (AF q 15 sz) := by
  refine met_of [.ref (q 0)] (by decide +kernel) rfl (Nat.le_of_ble_eq_true rfl) ?_
  intro p e s m below meth c ls hsz C hK ha hN hl hP
  subst hsz
  obtain ⟨hx, hb, hr, hml, hown, hts, hlk⟩ := id C
  have hl : lv_has ls 3 [(0, .ref (q 0))] := hl
  refine w_go (Pw := fun H => va_P (dC, dI) vwCl (WM q cI cJ cZ kc kd kn kp ka kt ku kr cn xs ys x2 y2 my tl po so st nr co rg re) H) (A := AF q 15 s.heap.size) (fun H locs hP hS => ?_) hP
  unfold wX5_findRing at h
  refine lv_aload_n hx hb dX5_findRing_0 rfl (lv_at hl 0 rfl) ?_
  refine cl_v (va_runV (As := []) (rest := []) ⟨hx, hb, hml, hown, hts⟩ (ktX5_findParts l dC dI q cI cJ cZ H.size kc kd kn kp ka kt ku kr cn xs ys x2 y2 my tl po so st nr co rg re  h) (cwV 0 hts gX5_findRing_X5_findParts rfl rfl rfl (by decide +kernel) ⟨Nat.le_of_ble_eq_true rfl, Nat.le_of_ble_eq_true rfl⟩) ⟨wd.blind, va_recv hK hP (ci := 5) (q0 := 0) rfl rfl, fun U hU hW => ⟨rfl, wd.at hP hK ha hN hU hW⟩⟩ rfl rfl hl.1 rfl (lv_room (Nat.le_of_ble_eq_true rfl)) dX5_findRing_1 ⟨Nat.le_of_ble_eq_true rfl, Nat.le_of_ble_eq_true rfl⟩) hS (fun u15 H locs h hP hS => ?_)
  have hP : va_P (dC, dI) vwCl (WM q cI cJ cZ kc kd kn u15.1 ka kt ku kr cn xs ys x2 y2 my tl u15.2.1 u15.2.2.1 u15.2.2.2.1 u15.2.2.2.2 co rg re) H := hP
  refine lv_aload_n hx hb dX5_findRing_4 rfl (lv_at hl 0 rfl) ?_
  refine lv_iconst (v := 0) hx hb dX5_findRing_5 (by decide) ?_
  refine va_put (D := (dC, dI)) (ci := 5) (v := .int 0) (ty := .int) (C := RX5) (T := TX5) (N := 22) hx hb hts iwX5_findRing_X5 tyX5 tyX5_ok nmX5 hown hK hP (d_WM ha) hS 0 rfl rfl 19 (by decide) (hts _ fwX5_findRing_149) (fun _ h9 => h9) rfl (by decide +kernel) rfl rfl (Nat.le_of_ble_eq_true rfl) dX5_findRing_6 (fun H locs hP _ hS => ?_)
  have hP : va_P (dC, dI) vwCl (WM q cI cJ cZ kc kd kn u15.1 ka kt ku 0 cn xs ys x2 y2 my tl u15.2.1 u15.2.2.1 u15.2.2.2.1 u15.2.2.2.2 co rg re) H := hP
  refine lv_iconst (v := 3) hx hb dX5_findRing_9 (by decide) ?_
  refine lv_istore_n (lv' := [(1, .int 3), (0, .ref (q 0))]) hx hb dX5_findRing_10 rfl hl (by decide) rfl (fun ls hl => ?_)
  obtain ⟨n9, h⟩ := h
  exact mX5_findRing_11 kc kd kn ka kt ku cn xs ys x2 y2 my tl co C hK ha hN (fun kp kr po so st nr rg re ls H locs h hl hP hS => by
      exact rt_v (kp, kr, po, so, st, nr, rg, re) hx hb hr hlk h (fun t ht => by rw [ht]; exact hP) hS dX5_findRing_82) n9 u15.1 0 u15.2.1 u15.2.2.1 u15.2.2.2.1 u15.2.2.2.2 rg re 3 ls H locs h (lv_sub hl [1, 0] rfl) hP hS

theorem fwX5_ring_61 : Cond.fieldLink RX5 61 "MaskPartsModel" "code" "I" ∈ wsX5_ring := by decide +kernel
set_option maxRecDepth 20000 in
theorem iwX5_ring_X5 : ∀ w ∈ wsX50, w ∈ wsX5_ring := by decide +kernel
theorem fwX5_ring_149 : Cond.fieldLink RX5 149 "MaskPartsModel" "ringSize" "I" ∈ wsX5_ring := by decide +kernel
abbrev QX5_ring (dC : Nat → ClassId) (dI : Nat → Nat → Nat) (cI cJ cZ : ClassId) (q : Nat → Nat) (sz : Nat) (kd : Int32) (kn : Int32) (ka : Int32) (kt : Int32) (ku : Int32) (cn : (Nat → Int32)) (xs : (Nat → Int32)) (ys : (Nat → Int32)) (x2 : (Nat → Int32)) (y2 : (Nat → Int32)) (my : (Nat → Int32)) (tl : (Nat → Int32)) (co : (Nat → Int32)) (K : Int32 → (Int32 × Int32 × Int32 × (Nat → Int32) × (Nat → Int32) × (Nat → Int32) × (Nat → Int64) × (Nat → Int32) × (Nat → Int64)) → Prop) : Array Value → State → Outcome → State → Prop := va_Qi (fun (r : Int32) (u : Int32 × Int32 × Int32 × (Nat → Int32) × (Nat → Int32) × (Nat → Int32) × (Nat → Int64) × (Nat → Int32) × (Nat → Int64)) => K r u) (fun (u : Int32 × Int32 × Int32 × (Nat → Int32) × (Nat → Int32) × (Nat → Int32) × (Nat → Int64) × (Nat → Int32) × (Nat → Int64)) t => va_P (dC, dI) vwCl (WM q cI cJ cZ u.1 kd kn u.2.1 ka kt ku u.2.2.1 cn xs ys x2 y2 my tl u.2.2.2.1 u.2.2.2.2.1 u.2.2.2.2.2.1 u.2.2.2.2.2.2.1 co u.2.2.2.2.2.2.2.1 u.2.2.2.2.2.2.2.2) t.heap) (AF q 15 sz)
def wX5_ring (kd : Int32) (kn : Int32) (cn : (Nat → Int32)) (xs : (Nat → Int32)) (ys : (Nat → Int32)) (x2 : (Nat → Int32)) (y2 : (Nat → Int32)) (my : (Nat → Int32)) (kc : Int32) (kp : Int32) (kr : Int32) (po : (Nat → Int32)) (so : (Nat → Int32)) (st : (Nat → Int32)) (nr : (Nat → Int64)) (rg : (Nat → Int32)) (re : (Nat → Int64))  (K : Int32 → (Int32 × Int32 × Int32 × (Nat → Int32) × (Nat → Int32) × (Nat → Int32) × (Nat → Int64) × (Nat → Int32) × (Nat → Int64)) → Prop) : Prop := (wX5_findRing kd kn cn xs ys x2 y2 my kp kr po so st nr rg re  (fun (u2 : Int32 × Int32 × (Nat → Int32) × (Nat → Int32) × (Nat → Int32) × (Nat → Int64) × (Nat → Int32) × (Nat → Int64)) => K u2.2.1 (0, u2.1, u2.2.1, u2.2.2.1, u2.2.2.2.1, u2.2.2.2.2.1, u2.2.2.2.2.2.1, u2.2.2.2.2.2.2.1, u2.2.2.2.2.2.2.2)))
set_option maxHeartbeats 4000000 in
set_option maxRecDepth 100000 in
theorem ktX5_ring (l : Launch) (dC : Nat → ClassId) (dI : Nat → Nat → Nat) (q : Nat → Nat) (cI cJ cZ : ClassId) (sz : Nat) (kc : Int32) (kd : Int32) (kn : Int32) (kp : Int32) (ka : Int32) (kt : Int32) (ku : Int32) (kr : Int32) (cn : (Nat → Int32)) (xs : (Nat → Int32)) (ys : (Nat → Int32)) (x2 : (Nat → Int32)) (y2 : (Nat → Int32)) (my : (Nat → Int32)) (tl : (Nat → Int32)) (po : (Nat → Int32)) (so : (Nat → Int32)) (st : (Nat → Int32)) (nr : (Nat → Int64)) (co : (Nat → Int32)) (rg : (Nat → Int32)) (re : (Nat → Int64))  {K : Int32 → (Int32 × Int32 × Int32 × (Nat → Int32) × (Nat → Int32) × (Nat → Int32) × (Nat → Int64) × (Nat → Int32) × (Nat → Int64)) → Prop} (h : wX5_ring kd kn cn xs ys x2 y2 my kc kp kr po so st nr rg re K) : Met l yX5_ring wsX5_ring { frames := 5, cells := 0, slots := 0, locals := 119 } (va_Pc [.ref (q 0)] (wd dC dI cI cJ cZ q 15 sz (WM q cI cJ cZ kc kd kn kp ka kt ku kr cn xs ys x2 y2 my tl po so st nr co rg re))) (QX5_ring dC dI cI cJ cZ q sz kd kn ka kt ku cn xs ys x2 y2 my tl co K) 0 0 (AF q 15 sz) := by
  refine met_of [.ref (q 0)] (by decide +kernel) rfl (Nat.le_of_ble_eq_true rfl) ?_
  intro p e s m below meth c ls hsz C hK ha hN hl hP
  subst hsz
  obtain ⟨hx, hb, hr, hml, hown, hts, hlk⟩ := id C
  have hl : lv_has ls 1 [(0, .ref (q 0))] := hl
  refine w_go (Pw := fun H => va_P (dC, dI) vwCl (WM q cI cJ cZ kc kd kn kp ka kt ku kr cn xs ys x2 y2 my tl po so st nr co rg re) H) (A := AF q 15 s.heap.size) (fun H locs hP hS => ?_) hP
  unfold wX5_ring at h
  refine lv_aload_n hx hb dX5_ring_0 rfl (lv_at hl 0 rfl) ?_
  refine lv_iconst (v := 0) hx hb dX5_ring_1 (by decide) ?_
  refine va_put (D := (dC, dI)) (ci := 5) (v := .int 0) (ty := .int) (C := RX5) (T := TX5) (N := 22) hx hb hts iwX5_ring_X5 tyX5 tyX5_ok nmX5 hown hK hP (d_WM ha) hS 0 rfl rfl 0 (by decide) (hts _ fwX5_ring_61) (fun _ h9 => h9) rfl (by decide +kernel) rfl rfl (Nat.le_of_ble_eq_true rfl) dX5_ring_2 (fun H locs hP _ hS => ?_)
  have hP : va_P (dC, dI) vwCl (WM q cI cJ cZ 0 kd kn kp ka kt ku kr cn xs ys x2 y2 my tl po so st nr co rg re) H := hP
  refine lv_aload_n hx hb dX5_ring_5 rfl (lv_at hl 0 rfl) ?_
  refine cl_v (va_runV (As := []) (rest := []) ⟨hx, hb, hml, hown, hts⟩ (ktX5_findRing l dC dI q cI cJ cZ H.size 0 kd kn kp ka kt ku kr cn xs ys x2 y2 my tl po so st nr co rg re  h) (cwV 0 hts gX5_ring_X5_findRing rfl rfl rfl (by decide +kernel) ⟨Nat.le_of_ble_eq_true rfl, Nat.le_of_ble_eq_true rfl⟩) ⟨wd.blind, va_recv hK hP (ci := 5) (q0 := 0) rfl rfl, fun U hU hW => ⟨rfl, wd.at hP hK ha hN hU hW⟩⟩ rfl rfl hl.1 rfl (lv_room (Nat.le_of_ble_eq_true rfl)) dX5_ring_6 ⟨Nat.le_of_ble_eq_true rfl, Nat.le_of_ble_eq_true rfl⟩) hS (fun u2 H locs h hP hS => ?_)
  have hP : va_P (dC, dI) vwCl (WM q cI cJ cZ 0 kd kn u2.1 ka kt ku u2.2.1 cn xs ys x2 y2 my tl u2.2.2.1 u2.2.2.2.1 u2.2.2.2.2.1 u2.2.2.2.2.2.1 co u2.2.2.2.2.2.2.1 u2.2.2.2.2.2.2.2) H := hP
  refine lv_aload_n hx hb dX5_ring_9 rfl (lv_at hl 0 rfl) ?_
  refine va_get (D := (dC, dI)) (ci := 5) (v := .int u2.2.1) (C := RX5) (T := TX5) (N := 22) hx hb hts iwX5_ring_X5 hown hK hP 0 rfl rfl 19 (by decide) (hts _ fwX5_ring_149) (fun _ h9 => h9) rfl dX5_ring_10 ?_
  exact rt_i (0, u2.1, u2.2.1, u2.2.2.1, u2.2.2.2.1, u2.2.2.2.2.1, u2.2.2.2.2.2.1, u2.2.2.2.2.2.2.1, u2.2.2.2.2.2.2.2) hx hb hr hlk h (fun t ht => by rw [ht]; exact hP) hS dX5_ring_13

theorem fwX5_ringAt_61 : Cond.fieldLink RX5 61 "MaskPartsModel" "code" "I" ∈ wsX5_ringAt := by decide +kernel
set_option maxRecDepth 20000 in
theorem iwX5_ringAt_X5 : ∀ w ∈ wsX50, w ∈ wsX5_ringAt := by decide +kernel
theorem fwX5_ringAt_55 : Cond.fieldLink RX5 55 "MaskPartsModel" "ring" "[I" ∈ wsX5_ringAt := by decide +kernel
theorem fwX5_ringAt_149 : Cond.fieldLink RX5 149 "MaskPartsModel" "ringSize" "I" ∈ wsX5_ringAt := by decide +kernel
abbrev QX5_ringAt (dC : Nat → ClassId) (dI : Nat → Nat → Nat) (cI cJ cZ : ClassId) (q : Nat → Nat) (sz : Nat) (kd : Int32) (kn : Int32) (ka : Int32) (kt : Int32) (ku : Int32) (cn : (Nat → Int32)) (xs : (Nat → Int32)) (ys : (Nat → Int32)) (x2 : (Nat → Int32)) (y2 : (Nat → Int32)) (my : (Nat → Int32)) (tl : (Nat → Int32)) (co : (Nat → Int32)) (K : Int32 → (Int32 × Int32 × Int32 × (Nat → Int32) × (Nat → Int32) × (Nat → Int32) × (Nat → Int64) × (Nat → Int32) × (Nat → Int64)) → Prop) : Array Value → State → Outcome → State → Prop := va_Qi (fun (r : Int32) (u : Int32 × Int32 × Int32 × (Nat → Int32) × (Nat → Int32) × (Nat → Int32) × (Nat → Int64) × (Nat → Int32) × (Nat → Int64)) => K r u) (fun (u : Int32 × Int32 × Int32 × (Nat → Int32) × (Nat → Int32) × (Nat → Int32) × (Nat → Int64) × (Nat → Int32) × (Nat → Int64)) t => va_P (dC, dI) vwCl (WM q cI cJ cZ u.1 kd kn u.2.1 ka kt ku u.2.2.1 cn xs ys x2 y2 my tl u.2.2.2.1 u.2.2.2.2.1 u.2.2.2.2.2.1 u.2.2.2.2.2.2.1 co u.2.2.2.2.2.2.2.1 u.2.2.2.2.2.2.2.2) t.heap) (AF q 15 sz)
def bkX5_ringAt_26 (kd : Int32) (kn : Int32) (cn : (Nat → Int32)) (xs : (Nat → Int32)) (ys : (Nat → Int32)) (x2 : (Nat → Int32)) (y2 : (Nat → Int32)) (my : (Nat → Int32)) (K : Int32 → (Int32 × Int32 × Int32 × (Nat → Int32) × (Nat → Int32) × (Nat → Int32) × (Nat → Int64) × (Nat → Int32) × (Nat → Int64)) → Prop) (kc : Int32) (kp : Int32) (kr : Int32) (po : (Nat → Int32)) (so : (Nat → Int32)) (st : (Nat → Int32)) (nr : (Nat → Int64)) (rg : (Nat → Int32)) (re : (Nat → Int64)) (v1 : Int32) (s1 : Int32) : Prop := ((s1 ≤ 0 → (vp_in v1 41 ∧ K ((rg v1.toNatClampNeg)) (s1, kp, kr, po, so, st, nr, rg, re))) ∧ (¬ (s1 ≤ 0) → K 0 (s1, kp, kr, po, so, st, nr, rg, re)))
set_option maxHeartbeats 4000000 in
set_option maxRecDepth 100000 in
theorem mX5_ringAt_26 {p : Program} {l : Launch} {e : Env} {s : State} {m : MethodId} {av : Array Value} {below : List Frame} {meth : Method} {c : Code} {dC : Nat → ClassId} {dI : Nat → Nat → Nat} {cI cJ cZ : ClassId} {q : Nat → Nat} {K : Int32 → (Int32 × Int32 × Int32 × (Nat → Int32) × (Nat → Int32) × (Nat → Int32) × (Nat → Int64) × (Nat → Int32) × (Nat → Int64)) → Prop} (kd : Int32) (kn : Int32) (ka : Int32) (kt : Int32) (ku : Int32) (cn : (Nat → Int32)) (xs : (Nat → Int32)) (ys : (Nat → Int32)) (x2 : (Nat → Int32)) (y2 : (Nat → Int32)) (my : (Nat → Int32)) (tl : (Nat → Int32)) (co : (Nat → Int32)) (C : CX p s m av meth c cX5_ringAt 2 (some .int) RX5 wsX5_ringAt) (hK : va_K (dC, dI) vwCl (TY cI cJ cZ) s) (ha : apart q 15) (hN : NX s)  : ∀ (kc : Int32) (kp : Int32) (kr : Int32) (po : (Nat → Int32)) (so : (Nat → Int32)) (st : (Nat → Int32)) (nr : (Nat → Int64)) (rg : (Nat → Int32)) (re : (Nat → Int64)) (v1 : Int32) (s1 : Int32) (ls : Array Slot) (H : Heap) (locs : List Loc), bkX5_ringAt_26 kd kn cn xs ys x2 y2 my K kc kp kr po so st nr rg re v1 s1 → lv_has ls 2 [(0, .ref (q 0)), (1, .int v1)] → va_P (dC, dI) vwCl (WM q cI cJ cZ kc kd kn kp ka kt ku kr cn xs ys x2 y2 my tl po so st nr co rg re) H → va_S (AF q 15 s.heap.size) s.heap H locs → W p l e { frames := 5, cells := 0, slots := 0, locals := 119 } s m av below meth c H locs 0 0 (MQ below (QX5_ringAt dC dI cI cJ cZ q s.heap.size kd kn ka kt ku cn xs ys x2 y2 my tl co K) av s 0 0 (AF q 15 s.heap.size)) (F0 m 26 ls [.int s1, .ref (q 0)]) := by
  obtain ⟨hx, hb, hr, hml, hown, hts, hlk⟩ := id C
  intro kc kp kr po so st nr rg re v1 s1 ls H locs h hl hP hS
  unfold bkX5_ringAt_26 at h
  refine va_put (D := (dC, dI)) (ci := 5) (v := .int s1) (ty := .int) (C := RX5) (T := TX5) (N := 22) hx hb hts iwX5_ringAt_X5 tyX5 tyX5_ok nmX5 hown hK hP (d_WM ha) hS 0 rfl rfl 0 (by decide) (hts _ fwX5_ringAt_61) (fun _ h9 => h9) rfl (by decide +kernel) rfl rfl (Nat.le_of_ble_eq_true rfl) dX5_ringAt_26 (fun H locs hP _ hS => ?_)
  have hP : va_P (dC, dI) vwCl (WM q cI cJ cZ s1 kd kn kp ka kt ku kr cn xs ys x2 y2 my tl po so st nr co rg re) H := hP
  refine lv_aload_n hx hb dX5_ringAt_29 rfl (lv_at hl 0 rfl) ?_
  refine va_get (D := (dC, dI)) (ci := 5) (v := .int s1) (C := RX5) (T := TX5) (N := 22) hx hb hts iwX5_ringAt_X5 hown hK hP 0 rfl rfl 0 (by decide) (hts _ fwX5_ringAt_61) (fun _ h9 => h9) rfl dX5_ringAt_30 ?_
  refine lv_if_le (tgt := 40) hx hb dX5_ringAt_33 (by decide) (fun c1 => ?_) (fun c1 => ?_)
  · have h := h.1 c1
    refine lv_aload_n hx hb dX5_ringAt_40 rfl (lv_at hl 0 rfl) ?_
    refine va_get (D := (dC, dI)) (ci := 5) (v := .ref (q 13)) (C := RX5) (T := TX5) (N := 22) hx hb hts iwX5_ringAt_X5 hown hK hP 0 rfl rfl 20 (by decide) (hts _ fwX5_ringAt_55) (fun _ h9 => h9) rfl dX5_ringAt_41 ?_
    refine lv_iload_n hx hb dX5_ringAt_44 rfl (lv_at hl 1 rfl) ?_
    obtain ⟨b2, h⟩ := h
    refine va_iald (D := (dC, dI)) hx hb hK hP 13 0 rfl rfl b2 dX5_ringAt_45 ?_
    exact rt_i (s1, kp, kr, po, so, st, nr, rg, re) hx hb hr hlk h (fun t ht => by rw [ht]; exact hP) hS dX5_ringAt_46
  · have h := h.2 c1
    refine lv_iconst (v := 0) hx hb dX5_ringAt_36 (by decide) ?_
    refine lv_goto (tgt := 46) hx hb dX5_ringAt_37 (by decide) ?_
    exact rt_i (s1, kp, kr, po, so, st, nr, rg, re) hx hb hr hlk h (fun t ht => by rw [ht]; exact hP) hS dX5_ringAt_46
def wX5_ringAt (kd : Int32) (kn : Int32) (cn : (Nat → Int32)) (xs : (Nat → Int32)) (ys : (Nat → Int32)) (x2 : (Nat → Int32)) (y2 : (Nat → Int32)) (my : (Nat → Int32)) (kc : Int32) (kp : Int32) (kr : Int32) (po : (Nat → Int32)) (so : (Nat → Int32)) (st : (Nat → Int32)) (nr : (Nat → Int64)) (rg : (Nat → Int32)) (re : (Nat → Int64)) (v1 : Int32) (K : Int32 → (Int32 × Int32 × Int32 × (Nat → Int32) × (Nat → Int32) × (Nat → Int32) × (Nat → Int64) × (Nat → Int32) × (Nat → Int64)) → Prop) : Prop := (wX5_findRing kd kn cn xs ys x2 y2 my kp kr po so st nr rg re  (fun (u4 : Int32 × Int32 × (Nat → Int32) × (Nat → Int32) × (Nat → Int32) × (Nat → Int64) × (Nat → Int32) × (Nat → Int64)) => (wX5_isIn v1.toInt64 0 (((u4.2.1 - 1) : Int32).toInt64) (fun r5 : Int32 => ((r5 = 0 → bkX5_ringAt_26 kd kn cn xs ys x2 y2 my K kc u4.1 u4.2.1 u4.2.2.1 u4.2.2.2.1 u4.2.2.2.2.1 u4.2.2.2.2.2.1 u4.2.2.2.2.2.2.1 u4.2.2.2.2.2.2.2 v1 1) ∧ (¬ (r5 = 0) → bkX5_ringAt_26 kd kn cn xs ys x2 y2 my K kc u4.1 u4.2.1 u4.2.2.1 u4.2.2.2.1 u4.2.2.2.2.1 u4.2.2.2.2.2.1 u4.2.2.2.2.2.2.1 u4.2.2.2.2.2.2.2 v1 0))))))
set_option maxHeartbeats 4000000 in
set_option maxRecDepth 100000 in
theorem ktX5_ringAt (l : Launch) (dC : Nat → ClassId) (dI : Nat → Nat → Nat) (q : Nat → Nat) (cI cJ cZ : ClassId) (sz : Nat) (kc : Int32) (kd : Int32) (kn : Int32) (kp : Int32) (ka : Int32) (kt : Int32) (ku : Int32) (kr : Int32) (cn : (Nat → Int32)) (xs : (Nat → Int32)) (ys : (Nat → Int32)) (x2 : (Nat → Int32)) (y2 : (Nat → Int32)) (my : (Nat → Int32)) (tl : (Nat → Int32)) (po : (Nat → Int32)) (so : (Nat → Int32)) (st : (Nat → Int32)) (nr : (Nat → Int64)) (co : (Nat → Int32)) (rg : (Nat → Int32)) (re : (Nat → Int64)) (v1 : Int32) {K : Int32 → (Int32 × Int32 × Int32 × (Nat → Int32) × (Nat → Int32) × (Nat → Int32) × (Nat → Int64) × (Nat → Int32) × (Nat → Int64)) → Prop} (h : wX5_ringAt kd kn cn xs ys x2 y2 my kc kp kr po so st nr rg re v1 K) : Met l yX5_ringAt wsX5_ringAt { frames := 5, cells := 0, slots := 0, locals := 119 } (va_Pc [.ref (q 0), .int v1] (wd dC dI cI cJ cZ q 15 sz (WM q cI cJ cZ kc kd kn kp ka kt ku kr cn xs ys x2 y2 my tl po so st nr co rg re))) (QX5_ringAt dC dI cI cJ cZ q sz kd kn ka kt ku cn xs ys x2 y2 my tl co K) 0 0 (AF q 15 sz) := by
  refine met_of [.ref (q 0), .int v1] (by decide +kernel) rfl (Nat.le_of_ble_eq_true rfl) ?_
  intro p e s m below meth c ls hsz C hK ha hN hl hP
  subst hsz
  obtain ⟨hx, hb, hr, hml, hown, hts, hlk⟩ := id C
  have hl : lv_has ls 2 [(0, .ref (q 0)), (1, .int v1)] := hl
  refine w_go (Pw := fun H => va_P (dC, dI) vwCl (WM q cI cJ cZ kc kd kn kp ka kt ku kr cn xs ys x2 y2 my tl po so st nr co rg re) H) (A := AF q 15 s.heap.size) (fun H locs hP hS => ?_) hP
  unfold wX5_ringAt at h
  refine lv_aload_n hx hb dX5_ringAt_0 rfl (lv_at hl 0 rfl) ?_
  refine cl_v (va_runV (As := []) (rest := []) ⟨hx, hb, hml, hown, hts⟩ (ktX5_findRing l dC dI q cI cJ cZ H.size kc kd kn kp ka kt ku kr cn xs ys x2 y2 my tl po so st nr co rg re  h) (cwV 0 hts gX5_ringAt_X5_findRing rfl rfl rfl (by decide +kernel) ⟨Nat.le_of_ble_eq_true rfl, Nat.le_of_ble_eq_true rfl⟩) ⟨wd.blind, va_recv hK hP (ci := 5) (q0 := 0) rfl rfl, fun U hU hW => ⟨rfl, wd.at hP hK ha hN hU hW⟩⟩ rfl rfl hl.1 rfl (lv_room (Nat.le_of_ble_eq_true rfl)) dX5_ringAt_1 ⟨Nat.le_of_ble_eq_true rfl, Nat.le_of_ble_eq_true rfl⟩) hS (fun u4 H locs h hP hS => ?_)
  have hP : va_P (dC, dI) vwCl (WM q cI cJ cZ kc kd kn u4.1 ka kt ku u4.2.1 cn xs ys x2 y2 my tl u4.2.2.1 u4.2.2.2.1 u4.2.2.2.2.1 u4.2.2.2.2.2.1 co u4.2.2.2.2.2.2.1 u4.2.2.2.2.2.2.2) H := hP
  refine lv_aload_n hx hb dX5_ringAt_4 rfl (lv_at hl 0 rfl) ?_
  refine lv_iload_n hx hb dX5_ringAt_5 rfl (lv_at hl 1 rfl) ?_
  refine lv_i2l hx hb dX5_ringAt_6 rfl ?_
  refine lv_lconst (v := 0) hx hb dX5_ringAt_7 (by decide) ?_
  refine lv_aload_n hx hb dX5_ringAt_8 rfl (lv_at hl 0 rfl) ?_
  refine va_get (D := (dC, dI)) (ci := 5) (v := .int u4.2.1) (C := RX5) (T := TX5) (N := 22) hx hb hts iwX5_ringAt_X5 hown hK hP 0 rfl rfl 19 (by decide) (hts _ fwX5_ringAt_149) (fun _ h9 => h9) rfl dX5_ringAt_9 ?_
  refine lv_iconst (v := 1) hx hb dX5_ringAt_12 (by decide) ?_
  refine lv_isub hx hb dX5_ringAt_13 ?_
  refine lv_i2l hx hb dX5_ringAt_14 rfl ?_
  refine cl_pi (va_runS (As := [.long v1.toInt64, .long 0, .long (((u4.2.1 - 1) : Int32).toInt64)]) (rest := [.ref (q 0)]) ⟨hx, hb, hml, hown, hts⟩ (ktX5_isIn l H.size v1.toInt64 0 (((u4.2.1 - 1) : Int32).toInt64) h) (va_cwS 3 hts gX5_ringAt_X5_isIn rfl rfl rfl (by decide +kernel) ⟨Nat.le_of_ble_eq_true rfl, Nat.le_of_ble_eq_true rfl⟩) ⟨pz.blind, fun U hU _ => ⟨rfl, pz.at hU⟩⟩ rfl rfl hl.1 rfl (lv_room (Nat.le_of_ble_eq_true rfl)) dX5_ringAt_15 ⟨Nat.le_of_ble_eq_true rfl, Nat.le_of_ble_eq_true rfl⟩) hP hS (fun r5 _ H locs h hP hS => ?_)
  refine lv_if_eq (tgt := 25) hx hb dX5_ringAt_18 (by decide) (fun c7 => ?_) (fun c7 => ?_)
  · have h := h.1 c7
    refine lv_iconst (v := 1) hx hb dX5_ringAt_25 (by decide) ?_
    exact mX5_ringAt_26 kd kn ka kt ku cn xs ys x2 y2 my tl co C hK ha hN  kc u4.1 u4.2.1 u4.2.2.1 u4.2.2.2.1 u4.2.2.2.2.1 u4.2.2.2.2.2.1 u4.2.2.2.2.2.2.1 u4.2.2.2.2.2.2.2 v1 1 ls H locs h (lv_sub hl [0, 1] rfl) hP hS
  · have h := h.2 c7
    refine lv_iconst (v := 0) hx hb dX5_ringAt_21 (by decide) ?_
    refine lv_goto (tgt := 26) hx hb dX5_ringAt_22 (by decide) ?_
    exact mX5_ringAt_26 kd kn ka kt ku cn xs ys x2 y2 my tl co C hK ha hN  kc u4.1 u4.2.1 u4.2.2.1 u4.2.2.2.1 u4.2.2.2.2.1 u4.2.2.2.2.2.1 u4.2.2.2.2.2.2.1 u4.2.2.2.2.2.2.2 v1 0 ls H locs h (lv_sub hl [0, 1] rfl) hP hS

theorem fwX5_groupOf_42 : Cond.fieldLink RX5 42 "MaskPartsModel" "isStitched" "[Z" ∈ wsX5_groupOf := by decide +kernel
set_option maxRecDepth 20000 in
theorem iwX5_groupOf_X5 : ∀ w ∈ wsX50, w ∈ wsX5_groupOf := by decide +kernel
theorem cwX5_groupOf_96 : Cond.constantLong RX5 96 (3) ∈ wsX5_groupOf := by decide +kernel
theorem fwX5_groupOf_102 : Cond.fieldLink RX5 102 "MaskPartsModel" "parts" "I" ∈ wsX5_groupOf := by decide +kernel
abbrev QX5_groupOf (dC : Nat → ClassId) (dI : Nat → Nat → Nat) (cI cJ cZ : ClassId) (q : Nat → Nat) (sz : Nat) (kc : Int32) (kd : Int32) (kn : Int32) (kp : Int32) (ka : Int32) (kt : Int32) (ku : Int32) (kr : Int32) (cn : (Nat → Int32)) (xs : (Nat → Int32)) (ys : (Nat → Int32)) (x2 : (Nat → Int32)) (y2 : (Nat → Int32)) (my : (Nat → Int32)) (tl : (Nat → Int32)) (po : (Nat → Int32)) (so : (Nat → Int32)) (st : (Nat → Int32)) (nr : (Nat → Int64)) (co : (Nat → Int32)) (rg : (Nat → Int32)) (re : (Nat → Int64)) (K : Int64 → Prop) : Array Value → State → Outcome → State → Prop := va_Ql (fun (r : Int64) (u : Unit) => K r) (fun (u : Unit) t => va_P (dC, dI) vwCl (WM q cI cJ cZ kc kd kn kp ka kt ku kr cn xs ys x2 y2 my tl po so st nr co rg re) t.heap) (AF q 15 sz)
def bkX5_groupOf_95 (kp : Int32) (st : (Nat → Int32)) (nr : (Nat → Int64)) (K : Int64 → Prop) (k27 : Int64 → Int32 → Int32 → Prop) (v4 : Int32) (v5 : Int32) (s0 : Int64) (s1 : Int64) : Prop := (∀ j1 : Int64, j1 = (s0 ||| s1) → (∀ i2 : Int32, i2 = v5 + 1 → k27 j1 v4 i2))
set_option maxHeartbeats 4000000 in
set_option maxRecDepth 100000 in
theorem mX5_groupOf_95 {p : Program} {l : Launch} {e : Env} {s : State} {m : MethodId} {av : Array Value} {below : List Frame} {meth : Method} {c : Code} {dC : Nat → ClassId} {dI : Nat → Nat → Nat} {cI cJ cZ : ClassId} {q : Nat → Nat} {K : Int64 → Prop} {k27 : Int64 → Int32 → Int32 → Prop} (kc : Int32) (kd : Int32) (kn : Int32) (kp : Int32) (ka : Int32) (kt : Int32) (ku : Int32) (kr : Int32) (cn : (Nat → Int32)) (xs : (Nat → Int32)) (ys : (Nat → Int32)) (x2 : (Nat → Int32)) (y2 : (Nat → Int32)) (my : (Nat → Int32)) (tl : (Nat → Int32)) (po : (Nat → Int32)) (so : (Nat → Int32)) (st : (Nat → Int32)) (nr : (Nat → Int64)) (co : (Nat → Int32)) (rg : (Nat → Int32)) (re : (Nat → Int64)) (C : CX p s m av meth c cX5_groupOf 7 (some .long) RX5 wsX5_groupOf) (hK : va_K (dC, dI) vwCl (TY cI cJ cZ) s) (ha : apart q 15) (hN : NX s) (hk27 : ∀ (v2 : Int64) (v4 : Int32) (v5 : Int32) (ls : Array Slot) (H : Heap) (locs : List Loc), k27 v2 v4 v5 → lv_has ls 7 [(0, .ref (q 0)), (2, .long v2), (4, .int v4), (5, .int v5)] → va_P (dC, dI) vwCl (WM q cI cJ cZ kc kd kn kp ka kt ku kr cn xs ys x2 y2 my tl po so st nr co rg re) H → va_S (AF q 15 s.heap.size) s.heap H locs → W p l e { frames := 1, cells := 0, slots := 0, locals := 25 } s m av below meth c H locs 0 0 (MQ below (QX5_groupOf dC dI cI cJ cZ q s.heap.size kc kd kn kp ka kt ku kr cn xs ys x2 y2 my tl po so st nr co rg re K) av s 0 0 (AF q 15 s.heap.size)) (F0 m 27 ls [])) : ∀ (v4 : Int32) (v5 : Int32) (s0 : Int64) (s1 : Int64) (ls : Array Slot) (H : Heap) (locs : List Loc), bkX5_groupOf_95 kp st nr K k27 v4 v5 s0 s1 → lv_has ls 7 [(0, .ref (q 0)), (4, .int v4), (5, .int v5)] → va_P (dC, dI) vwCl (WM q cI cJ cZ kc kd kn kp ka kt ku kr cn xs ys x2 y2 my tl po so st nr co rg re) H → va_S (AF q 15 s.heap.size) s.heap H locs → W p l e { frames := 1, cells := 0, slots := 0, locals := 25 } s m av below meth c H locs 0 0 (MQ below (QX5_groupOf dC dI cI cJ cZ q s.heap.size kc kd kn kp ka kt ku kr cn xs ys x2 y2 my tl po so st nr co rg re K) av s 0 0 (AF q 15 s.heap.size)) (F0 m 95 ls [.long s1, .long s0]) := by
  obtain ⟨hx, hb, hr, hml, hown, hts, hlk⟩ := id C
  intro v4 v5 s0 s1 ls H locs h hl hP hS
  unfold bkX5_groupOf_95 at h
  refine lv_lor hx hb dX5_groupOf_95 ?_
  refine lv_topl (fun j1 ej1 => ?_)
  have h := h j1 ej1
  refine lv_lstore_n (lv' := [(2, .long j1), (0, .ref (q 0)), (4, .int v4), (5, .int v5)]) hx hb dX5_groupOf_96 rfl hl (by decide) rfl (fun ls hl => ?_)
  obtain ⟨i2, ei2⟩ : ∃ y : Int32, y = v5 + 1 := ⟨_, rfl⟩
  refine lv_iinc (v := i2) (lv' := [(5, .int i2), (2, .long j1), (0, .ref (q 0)), (4, .int v4)]) hx hb dX5_groupOf_97 hl (k := 3) rfl (by rw [ei2]; rfl) (by decide) rfl (fun ls hl => ?_)
  have h := h i2 ei2
  refine lv_goto (tgt := 27) hx hb dX5_groupOf_100 (by decide) ?_
  exact hk27 j1 v4 i2 ls H locs h (lv_sub hl [2, 1, 3, 0] rfl) hP hS
def bkX5_groupOf_94 (kp : Int32) (st : (Nat → Int32)) (nr : (Nat → Int64)) (K : Int64 → Prop) (k27 : Int64 → Int32 → Int32 → Prop) (v4 : Int32) (v5 : Int32) (s0 : Int64) : Prop := bkX5_groupOf_95 kp st nr K k27 v4 v5 s0 0
set_option maxHeartbeats 4000000 in
set_option maxRecDepth 100000 in
theorem mX5_groupOf_94 {p : Program} {l : Launch} {e : Env} {s : State} {m : MethodId} {av : Array Value} {below : List Frame} {meth : Method} {c : Code} {dC : Nat → ClassId} {dI : Nat → Nat → Nat} {cI cJ cZ : ClassId} {q : Nat → Nat} {K : Int64 → Prop} {k27 : Int64 → Int32 → Int32 → Prop} (kc : Int32) (kd : Int32) (kn : Int32) (kp : Int32) (ka : Int32) (kt : Int32) (ku : Int32) (kr : Int32) (cn : (Nat → Int32)) (xs : (Nat → Int32)) (ys : (Nat → Int32)) (x2 : (Nat → Int32)) (y2 : (Nat → Int32)) (my : (Nat → Int32)) (tl : (Nat → Int32)) (po : (Nat → Int32)) (so : (Nat → Int32)) (st : (Nat → Int32)) (nr : (Nat → Int64)) (co : (Nat → Int32)) (rg : (Nat → Int32)) (re : (Nat → Int64)) (C : CX p s m av meth c cX5_groupOf 7 (some .long) RX5 wsX5_groupOf) (hK : va_K (dC, dI) vwCl (TY cI cJ cZ) s) (ha : apart q 15) (hN : NX s) (hk27 : ∀ (v2 : Int64) (v4 : Int32) (v5 : Int32) (ls : Array Slot) (H : Heap) (locs : List Loc), k27 v2 v4 v5 → lv_has ls 7 [(0, .ref (q 0)), (2, .long v2), (4, .int v4), (5, .int v5)] → va_P (dC, dI) vwCl (WM q cI cJ cZ kc kd kn kp ka kt ku kr cn xs ys x2 y2 my tl po so st nr co rg re) H → va_S (AF q 15 s.heap.size) s.heap H locs → W p l e { frames := 1, cells := 0, slots := 0, locals := 25 } s m av below meth c H locs 0 0 (MQ below (QX5_groupOf dC dI cI cJ cZ q s.heap.size kc kd kn kp ka kt ku kr cn xs ys x2 y2 my tl po so st nr co rg re K) av s 0 0 (AF q 15 s.heap.size)) (F0 m 27 ls [])) : ∀ (v4 : Int32) (v5 : Int32) (s0 : Int64) (ls : Array Slot) (H : Heap) (locs : List Loc), bkX5_groupOf_94 kp st nr K k27 v4 v5 s0 → lv_has ls 7 [(0, .ref (q 0)), (4, .int v4), (5, .int v5)] → va_P (dC, dI) vwCl (WM q cI cJ cZ kc kd kn kp ka kt ku kr cn xs ys x2 y2 my tl po so st nr co rg re) H → va_S (AF q 15 s.heap.size) s.heap H locs → W p l e { frames := 1, cells := 0, slots := 0, locals := 25 } s m av below meth c H locs 0 0 (MQ below (QX5_groupOf dC dI cI cJ cZ q s.heap.size kc kd kn kp ka kt ku kr cn xs ys x2 y2 my tl po so st nr co rg re K) av s 0 0 (AF q 15 s.heap.size)) (F0 m 94 ls [.long s0]) := by
  obtain ⟨hx, hb, hr, hml, hown, hts, hlk⟩ := id C
  intro v4 v5 s0 ls H locs h hl hP hS
  unfold bkX5_groupOf_94 at h
  refine lv_lconst (v := 0) hx hb dX5_groupOf_94 (by decide) ?_
  exact mX5_groupOf_95 kc kd kn kp ka kt ku kr cn xs ys x2 y2 my tl po so st nr co rg re C hK ha hN hk27 v4 v5 s0 0 ls H locs h (lv_sub hl [0, 1, 2] rfl) hP hS
def bkX5_groupOf_65 (kp : Int32) (st : (Nat → Int32)) (nr : (Nat → Int64)) (K : Int64 → Prop) (k27 : Int64 → Int32 → Int32 → Prop) (v2 : Int64) (v4 : Int32) (v5 : Int32) (s0 : Int32) : Prop := (vp_in v5 40 ∧ (((st v5.toNatClampNeg) = 0 → bkX5_groupOf_94 kp st nr K k27 v4 v5 v2) ∧ (¬ ((st v5.toNatClampNeg) = 0) → ((s0 = 0 → bkX5_groupOf_94 kp st nr K k27 v4 v5 v2) ∧ (¬ (s0 = 0) → bkX5_groupOf_95 kp st nr K k27 v4 v5 v2 (((3 : Int64) <<< (((v5 - 1) : Int32).toInt64 &&& 63))))))))
set_option maxHeartbeats 4000000 in
set_option maxRecDepth 100000 in
theorem mX5_groupOf_65 {p : Program} {l : Launch} {e : Env} {s : State} {m : MethodId} {av : Array Value} {below : List Frame} {meth : Method} {c : Code} {dC : Nat → ClassId} {dI : Nat → Nat → Nat} {cI cJ cZ : ClassId} {q : Nat → Nat} {K : Int64 → Prop} {k27 : Int64 → Int32 → Int32 → Prop} (kc : Int32) (kd : Int32) (kn : Int32) (kp : Int32) (ka : Int32) (kt : Int32) (ku : Int32) (kr : Int32) (cn : (Nat → Int32)) (xs : (Nat → Int32)) (ys : (Nat → Int32)) (x2 : (Nat → Int32)) (y2 : (Nat → Int32)) (my : (Nat → Int32)) (tl : (Nat → Int32)) (po : (Nat → Int32)) (so : (Nat → Int32)) (st : (Nat → Int32)) (nr : (Nat → Int64)) (co : (Nat → Int32)) (rg : (Nat → Int32)) (re : (Nat → Int64)) (C : CX p s m av meth c cX5_groupOf 7 (some .long) RX5 wsX5_groupOf) (hK : va_K (dC, dI) vwCl (TY cI cJ cZ) s) (ha : apart q 15) (hN : NX s) (hk27 : ∀ (v2 : Int64) (v4 : Int32) (v5 : Int32) (ls : Array Slot) (H : Heap) (locs : List Loc), k27 v2 v4 v5 → lv_has ls 7 [(0, .ref (q 0)), (2, .long v2), (4, .int v4), (5, .int v5)] → va_P (dC, dI) vwCl (WM q cI cJ cZ kc kd kn kp ka kt ku kr cn xs ys x2 y2 my tl po so st nr co rg re) H → va_S (AF q 15 s.heap.size) s.heap H locs → W p l e { frames := 1, cells := 0, slots := 0, locals := 25 } s m av below meth c H locs 0 0 (MQ below (QX5_groupOf dC dI cI cJ cZ q s.heap.size kc kd kn kp ka kt ku kr cn xs ys x2 y2 my tl po so st nr co rg re K) av s 0 0 (AF q 15 s.heap.size)) (F0 m 27 ls [])) : ∀ (v2 : Int64) (v4 : Int32) (v5 : Int32) (s0 : Int32) (ls : Array Slot) (H : Heap) (locs : List Loc), bkX5_groupOf_65 kp st nr K k27 v2 v4 v5 s0 → lv_has ls 7 [(0, .ref (q 0)), (2, .long v2), (4, .int v4), (5, .int v5)] → va_P (dC, dI) vwCl (WM q cI cJ cZ kc kd kn kp ka kt ku kr cn xs ys x2 y2 my tl po so st nr co rg re) H → va_S (AF q 15 s.heap.size) s.heap H locs → W p l e { frames := 1, cells := 0, slots := 0, locals := 25 } s m av below meth c H locs 0 0 (MQ below (QX5_groupOf dC dI cI cJ cZ q s.heap.size kc kd kn kp ka kt ku kr cn xs ys x2 y2 my tl po so st nr co rg re K) av s 0 0 (AF q 15 s.heap.size)) (F0 m 65 ls [.int s0]) := by
  obtain ⟨hx, hb, hr, hml, hown, hts, hlk⟩ := id C
  intro v2 v4 v5 s0 ls H locs h hl hP hS
  unfold bkX5_groupOf_65 at h
  refine lv_istore (lv' := [(6, .int s0), (0, .ref (q 0)), (2, .long v2), (4, .int v4), (5, .int v5)]) hx hb dX5_groupOf_65 hl (by decide) rfl (fun ls hl => ?_)
  refine lv_lload_n hx hb dX5_groupOf_67 rfl (lv_at hl 2 rfl) ?_
  refine lv_aload_n hx hb dX5_groupOf_68 rfl (lv_at hl 1 rfl) ?_
  refine va_get (D := (dC, dI)) (ci := 5) (v := .ref (q 10)) (C := RX5) (T := TX5) (N := 22) hx hb hts iwX5_groupOf_X5 hown hK hP 0 rfl rfl 13 (by decide) (hts _ fwX5_groupOf_42) (fun _ h9 => h9) rfl dX5_groupOf_69 ?_
  refine lv_iload hx hb dX5_groupOf_72 (lv_at hl 4 rfl) ?_
  obtain ⟨b3, h⟩ := h
  refine va_zald (D := (dC, dI)) hx hb hK hP 10 2 rfl rfl b3 dX5_groupOf_74 ?_
  refine lv_if_eq (tgt := 94) hx hb dX5_groupOf_75 (by decide) (fun c4 => ?_) (fun c4 => ?_)
  · have h := h.1 c4
    exact mX5_groupOf_94 kc kd kn kp ka kt ku kr cn xs ys x2 y2 my tl po so st nr co rg re C hK ha hN hk27 v4 v5 v2 ls H locs h (lv_sub hl [1, 3, 4] rfl) hP hS
  · have h := h.2 c4
    refine lv_iload hx hb dX5_groupOf_78 (lv_at hl 0 rfl) ?_
    refine lv_if_eq (tgt := 94) hx hb dX5_groupOf_80 (by decide) (fun c5 => ?_) (fun c5 => ?_)
    · have h := h.1 c5
      exact mX5_groupOf_94 kc kd kn kp ka kt ku kr cn xs ys x2 y2 my tl po so st nr co rg re C hK ha hN hk27 v4 v5 v2 ls H locs h (lv_sub hl [1, 3, 4] rfl) hP hS
    · have h := h.2 c5
      refine lv_ldc2 (v := 3) hx hb hown (hts _ cwX5_groupOf_96) dX5_groupOf_83 ?_
      refine lv_iload hx hb dX5_groupOf_86 (lv_at hl 4 rfl) ?_
      refine lv_iconst (v := 1) hx hb dX5_groupOf_88 (by decide) ?_
      refine lv_isub hx hb dX5_groupOf_89 ?_
      refine lv_lshl hx hb dX5_groupOf_90 rfl ?_
      refine lv_goto (tgt := 95) hx hb dX5_groupOf_91 (by decide) ?_
      exact mX5_groupOf_95 kc kd kn kp ka kt ku kr cn xs ys x2 y2 my tl po so st nr co rg re C hK ha hN hk27 v4 v5 v2 (((3 : Int64) <<< (((v5 - 1) : Int32).toInt64 &&& 63))) ls H locs h (lv_sub hl [1, 3, 4] rfl) hP hS
def bkX5_groupOf_60 (kp : Int32) (st : (Nat → Int32)) (nr : (Nat → Int64)) (K : Int64 → Prop) (k27 : Int64 → Int32 → Int32 → Prop) (v2 : Int64) (v4 : Int32) (v5 : Int32) : Prop := bkX5_groupOf_65 kp st nr K k27 v2 v4 v5 1
set_option maxHeartbeats 4000000 in
set_option maxRecDepth 100000 in
theorem mX5_groupOf_60 {p : Program} {l : Launch} {e : Env} {s : State} {m : MethodId} {av : Array Value} {below : List Frame} {meth : Method} {c : Code} {dC : Nat → ClassId} {dI : Nat → Nat → Nat} {cI cJ cZ : ClassId} {q : Nat → Nat} {K : Int64 → Prop} {k27 : Int64 → Int32 → Int32 → Prop} (kc : Int32) (kd : Int32) (kn : Int32) (kp : Int32) (ka : Int32) (kt : Int32) (ku : Int32) (kr : Int32) (cn : (Nat → Int32)) (xs : (Nat → Int32)) (ys : (Nat → Int32)) (x2 : (Nat → Int32)) (y2 : (Nat → Int32)) (my : (Nat → Int32)) (tl : (Nat → Int32)) (po : (Nat → Int32)) (so : (Nat → Int32)) (st : (Nat → Int32)) (nr : (Nat → Int64)) (co : (Nat → Int32)) (rg : (Nat → Int32)) (re : (Nat → Int64)) (C : CX p s m av meth c cX5_groupOf 7 (some .long) RX5 wsX5_groupOf) (hK : va_K (dC, dI) vwCl (TY cI cJ cZ) s) (ha : apart q 15) (hN : NX s) (hk27 : ∀ (v2 : Int64) (v4 : Int32) (v5 : Int32) (ls : Array Slot) (H : Heap) (locs : List Loc), k27 v2 v4 v5 → lv_has ls 7 [(0, .ref (q 0)), (2, .long v2), (4, .int v4), (5, .int v5)] → va_P (dC, dI) vwCl (WM q cI cJ cZ kc kd kn kp ka kt ku kr cn xs ys x2 y2 my tl po so st nr co rg re) H → va_S (AF q 15 s.heap.size) s.heap H locs → W p l e { frames := 1, cells := 0, slots := 0, locals := 25 } s m av below meth c H locs 0 0 (MQ below (QX5_groupOf dC dI cI cJ cZ q s.heap.size kc kd kn kp ka kt ku kr cn xs ys x2 y2 my tl po so st nr co rg re K) av s 0 0 (AF q 15 s.heap.size)) (F0 m 27 ls [])) : ∀ (v2 : Int64) (v4 : Int32) (v5 : Int32) (ls : Array Slot) (H : Heap) (locs : List Loc), bkX5_groupOf_60 kp st nr K k27 v2 v4 v5 → lv_has ls 7 [(0, .ref (q 0)), (2, .long v2), (4, .int v4), (5, .int v5)] → va_P (dC, dI) vwCl (WM q cI cJ cZ kc kd kn kp ka kt ku kr cn xs ys x2 y2 my tl po so st nr co rg re) H → va_S (AF q 15 s.heap.size) s.heap H locs → W p l e { frames := 1, cells := 0, slots := 0, locals := 25 } s m av below meth c H locs 0 0 (MQ below (QX5_groupOf dC dI cI cJ cZ q s.heap.size kc kd kn kp ka kt ku kr cn xs ys x2 y2 my tl po so st nr co rg re K) av s 0 0 (AF q 15 s.heap.size)) (F0 m 60 ls []) := by
  obtain ⟨hx, hb, hr, hml, hown, hts, hlk⟩ := id C
  intro v2 v4 v5 ls H locs h hl hP hS
  unfold bkX5_groupOf_60 at h
  refine lv_iconst (v := 1) hx hb dX5_groupOf_60 (by decide) ?_
  refine lv_goto (tgt := 65) hx hb dX5_groupOf_61 (by decide) ?_
  exact mX5_groupOf_65 kc kd kn kp ka kt ku kr cn xs ys x2 y2 my tl po so st nr co rg re C hK ha hN hk27 v2 v4 v5 1 ls H locs h (lv_sub hl [0, 1, 2, 3] rfl) hP hS
def lpX5_groupOf_27 (kp : Int32) (st : (Nat → Int32)) (nr : (Nat → Int64)) (K : Int64 → Prop) (k103 : Int64 → Int32 → Prop) : Nat → Int64 → Int32 → Int32 → Prop
  | 0, _, _, _ => False
  | n + 1, v2, v4, v5 => ((kp ≤ v5 → k103 v2 v4) ∧ (¬ (kp ≤ v5) → (((lg_cmp ((((v2 : Int64) >>> (v5.toInt64 &&& 63)) &&& 1)) 1) = 0 → bkX5_groupOf_60 kp st nr K (fun v2 v4 v5 => lpX5_groupOf_27 kp st nr K k103 n v2 v4 v5) v2 v4 v5) ∧ (¬ ((lg_cmp ((((v2 : Int64) >>> (v5.toInt64 &&& 63)) &&& 1)) 1) = 0) → ((¬ (lg_cmp ((((v2 : Int64) >>> (((v5 - 1) : Int32).toInt64 &&& 63)) &&& 1)) 1) = 0 → bkX5_groupOf_65 kp st nr K (fun v2 v4 v5 => lpX5_groupOf_27 kp st nr K k103 n v2 v4 v5) v2 v4 v5 0) ∧ ((lg_cmp ((((v2 : Int64) >>> (((v5 - 1) : Int32).toInt64 &&& 63)) &&& 1)) 1) = 0 → bkX5_groupOf_60 kp st nr K (fun v2 v4 v5 => lpX5_groupOf_27 kp st nr K k103 n v2 v4 v5) v2 v4 v5))))))
set_option maxHeartbeats 4000000 in
set_option maxRecDepth 100000 in
theorem mX5_groupOf_27 {p : Program} {l : Launch} {e : Env} {s : State} {m : MethodId} {av : Array Value} {below : List Frame} {meth : Method} {c : Code} {dC : Nat → ClassId} {dI : Nat → Nat → Nat} {cI cJ cZ : ClassId} {q : Nat → Nat} {K : Int64 → Prop} {k103 : Int64 → Int32 → Prop} (kc : Int32) (kd : Int32) (kn : Int32) (kp : Int32) (ka : Int32) (kt : Int32) (ku : Int32) (kr : Int32) (cn : (Nat → Int32)) (xs : (Nat → Int32)) (ys : (Nat → Int32)) (x2 : (Nat → Int32)) (y2 : (Nat → Int32)) (my : (Nat → Int32)) (tl : (Nat → Int32)) (po : (Nat → Int32)) (so : (Nat → Int32)) (st : (Nat → Int32)) (nr : (Nat → Int64)) (co : (Nat → Int32)) (rg : (Nat → Int32)) (re : (Nat → Int64)) (C : CX p s m av meth c cX5_groupOf 7 (some .long) RX5 wsX5_groupOf) (hK : va_K (dC, dI) vwCl (TY cI cJ cZ) s) (ha : apart q 15) (hN : NX s) (hk103 : ∀ (v2 : Int64) (v4 : Int32) (ls : Array Slot) (H : Heap) (locs : List Loc), k103 v2 v4 → lv_has ls 7 [(0, .ref (q 0)), (2, .long v2), (4, .int v4)] → va_P (dC, dI) vwCl (WM q cI cJ cZ kc kd kn kp ka kt ku kr cn xs ys x2 y2 my tl po so st nr co rg re) H → va_S (AF q 15 s.heap.size) s.heap H locs → W p l e { frames := 1, cells := 0, slots := 0, locals := 25 } s m av below meth c H locs 0 0 (MQ below (QX5_groupOf dC dI cI cJ cZ q s.heap.size kc kd kn kp ka kt ku kr cn xs ys x2 y2 my tl po so st nr co rg re K) av s 0 0 (AF q 15 s.heap.size)) (F0 m 103 ls [])) : ∀ (n : Nat) (v2 : Int64) (v4 : Int32) (v5 : Int32) (ls : Array Slot) (H : Heap) (locs : List Loc), lpX5_groupOf_27 kp st nr K k103 n v2 v4 v5 → lv_has ls 7 [(0, .ref (q 0)), (2, .long v2), (4, .int v4), (5, .int v5)] → va_P (dC, dI) vwCl (WM q cI cJ cZ kc kd kn kp ka kt ku kr cn xs ys x2 y2 my tl po so st nr co rg re) H → va_S (AF q 15 s.heap.size) s.heap H locs → W p l e { frames := 1, cells := 0, slots := 0, locals := 25 } s m av below meth c H locs 0 0 (MQ below (QX5_groupOf dC dI cI cJ cZ q s.heap.size kc kd kn kp ka kt ku kr cn xs ys x2 y2 my tl po so st nr co rg re K) av s 0 0 (AF q 15 s.heap.size)) (F0 m 27 ls []) := by
  obtain ⟨hx, hb, hr, hml, hown, hts, hlk⟩ := id C
  intro n
  induction n with
  | zero =>
    intro v2 v4 v5 ls H locs h
    exact h.elim
  | succ n ih =>
    intro v2 v4 v5 ls H locs h hl hP hS
    rw [lpX5_groupOf_27.eq_2] at h
    refine lv_iload hx hb dX5_groupOf_27 (lv_at hl 3 rfl) ?_
    refine lv_aload_n hx hb dX5_groupOf_29 rfl (lv_at hl 0 rfl) ?_
    refine va_get (D := (dC, dI)) (ci := 5) (v := .int kp) (C := RX5) (T := TX5) (N := 22) hx hb hts iwX5_groupOf_X5 hown hK hP 0 rfl rfl 10 (by decide) (hts _ fwX5_groupOf_102) (fun _ h9 => h9) rfl dX5_groupOf_30 ?_
    refine lv_icmp_ge (tgt := 103) hx hb dX5_groupOf_33 (by decide) (fun c6 => ?_) (fun c6 => ?_)
    · have h := h.1 c6
      exact hk103 v2 v4 ls H locs h (lv_sub hl [0, 1, 2] rfl) hP hS
    · have h := h.2 c6
      refine lv_lload_n hx hb dX5_groupOf_36 rfl (lv_at hl 1 rfl) ?_
      refine lv_iload hx hb dX5_groupOf_37 (lv_at hl 3 rfl) ?_
      refine lv_lshr hx hb dX5_groupOf_39 rfl ?_
      refine lv_lconst (v := 1) hx hb dX5_groupOf_40 (by decide) ?_
      refine lv_land hx hb dX5_groupOf_41 ?_
      refine lv_lconst (v := 1) hx hb dX5_groupOf_42 (by decide) ?_
      refine W.lcmp hx hb dX5_groupOf_43 ?_
      refine lv_if_eq (tgt := 60) hx hb dX5_groupOf_44 (by decide) (fun c7 => ?_) (fun c7 => ?_)
      · have h := h.1 c7
        exact mX5_groupOf_60 kc kd kn kp ka kt ku kr cn xs ys x2 y2 my tl po so st nr co rg re C hK ha hN (fun v2 v4 v5 ls H locs h hl hP hS => ih v2 v4 v5 ls H locs h hl hP hS) v2 v4 v5 ls H locs h (lv_sub hl [0, 1, 2, 3] rfl) hP hS
      · have h := h.2 c7
        refine lv_lload_n hx hb dX5_groupOf_47 rfl (lv_at hl 1 rfl) ?_
        refine lv_iload hx hb dX5_groupOf_48 (lv_at hl 3 rfl) ?_
        refine lv_iconst (v := 1) hx hb dX5_groupOf_50 (by decide) ?_
        refine lv_isub hx hb dX5_groupOf_51 ?_
        refine lv_lshr hx hb dX5_groupOf_52 rfl ?_
        refine lv_lconst (v := 1) hx hb dX5_groupOf_53 (by decide) ?_
        refine lv_land hx hb dX5_groupOf_54 ?_
        refine lv_lconst (v := 1) hx hb dX5_groupOf_55 (by decide) ?_
        refine W.lcmp hx hb dX5_groupOf_56 ?_
        refine lv_if_ne (tgt := 64) hx hb dX5_groupOf_57 (by decide) (fun c8 => ?_) (fun c8 => ?_)
        · have h := h.1 c8
          refine lv_iconst (v := 0) hx hb dX5_groupOf_64 (by decide) ?_
          exact mX5_groupOf_65 kc kd kn kp ka kt ku kr cn xs ys x2 y2 my tl po so st nr co rg re C hK ha hN (fun v2 v4 v5 ls H locs h hl hP hS => ih v2 v4 v5 ls H locs h hl hP hS) v2 v4 v5 0 ls H locs h (lv_sub hl [0, 1, 2, 3] rfl) hP hS
        · have h := h.2 c8
          exact mX5_groupOf_60 kc kd kn kp ka kt ku kr cn xs ys x2 y2 my tl po so st nr co rg re C hK ha hN (fun v2 v4 v5 ls H locs h hl hP hS => ih v2 v4 v5 ls H locs h hl hP hS) v2 v4 v5 ls H locs h (lv_sub hl [0, 1, 2, 3] rfl) hP hS
def lpX5_groupOf_7 (kp : Int32) (st : (Nat → Int32)) (nr : (Nat → Int64)) (K : Int64 → Prop) (k109 : Int64 → Prop) : Nat → Int64 → Int32 → Prop
  | 0, _, _ => False
  | n + 1, v2, v4 => ((kp ≤ v4 → k109 v2) ∧ (¬ (kp ≤ v4) → (wX5_around kp nr v2 (fun (r10 : Int64) => (∀ j12 : Int64, j12 = (v2 ||| r10) → (∃ z27, lpX5_groupOf_27 kp st nr K (fun (v2 : Int64) (v4 : Int32) => (∀ i13 : Int32, i13 = v4 + 1 → lpX5_groupOf_7 kp st nr K k109 n v2 i13)) z27 j12 v4 1))))))
set_option maxHeartbeats 4000000 in
set_option maxRecDepth 100000 in
theorem mX5_groupOf_7 {p : Program} {l : Launch} {e : Env} {s : State} {m : MethodId} {av : Array Value} {below : List Frame} {meth : Method} {c : Code} {dC : Nat → ClassId} {dI : Nat → Nat → Nat} {cI cJ cZ : ClassId} {q : Nat → Nat} {K : Int64 → Prop} {k109 : Int64 → Prop} (kc : Int32) (kd : Int32) (kn : Int32) (kp : Int32) (ka : Int32) (kt : Int32) (ku : Int32) (kr : Int32) (cn : (Nat → Int32)) (xs : (Nat → Int32)) (ys : (Nat → Int32)) (x2 : (Nat → Int32)) (y2 : (Nat → Int32)) (my : (Nat → Int32)) (tl : (Nat → Int32)) (po : (Nat → Int32)) (so : (Nat → Int32)) (st : (Nat → Int32)) (nr : (Nat → Int64)) (co : (Nat → Int32)) (rg : (Nat → Int32)) (re : (Nat → Int64)) (C : CX p s m av meth c cX5_groupOf 7 (some .long) RX5 wsX5_groupOf) (hK : va_K (dC, dI) vwCl (TY cI cJ cZ) s) (ha : apart q 15) (hN : NX s) (hk109 : ∀ (v2 : Int64) (ls : Array Slot) (H : Heap) (locs : List Loc), k109 v2 → lv_has ls 7 [(2, .long v2)] → va_P (dC, dI) vwCl (WM q cI cJ cZ kc kd kn kp ka kt ku kr cn xs ys x2 y2 my tl po so st nr co rg re) H → va_S (AF q 15 s.heap.size) s.heap H locs → W p l e { frames := 1, cells := 0, slots := 0, locals := 25 } s m av below meth c H locs 0 0 (MQ below (QX5_groupOf dC dI cI cJ cZ q s.heap.size kc kd kn kp ka kt ku kr cn xs ys x2 y2 my tl po so st nr co rg re K) av s 0 0 (AF q 15 s.heap.size)) (F0 m 109 ls [])) : ∀ (n : Nat) (v2 : Int64) (v4 : Int32) (ls : Array Slot) (H : Heap) (locs : List Loc), lpX5_groupOf_7 kp st nr K k109 n v2 v4 → lv_has ls 7 [(0, .ref (q 0)), (2, .long v2), (4, .int v4)] → va_P (dC, dI) vwCl (WM q cI cJ cZ kc kd kn kp ka kt ku kr cn xs ys x2 y2 my tl po so st nr co rg re) H → va_S (AF q 15 s.heap.size) s.heap H locs → W p l e { frames := 1, cells := 0, slots := 0, locals := 25 } s m av below meth c H locs 0 0 (MQ below (QX5_groupOf dC dI cI cJ cZ q s.heap.size kc kd kn kp ka kt ku kr cn xs ys x2 y2 my tl po so st nr co rg re K) av s 0 0 (AF q 15 s.heap.size)) (F0 m 7 ls []) := by
  obtain ⟨hx, hb, hr, hml, hown, hts, hlk⟩ := id C
  intro n
  induction n with
  | zero =>
    intro v2 v4 ls H locs h
    exact h.elim
  | succ n ih =>
    intro v2 v4 ls H locs h hl hP hS
    rw [lpX5_groupOf_7.eq_2] at h
    refine lv_iload hx hb dX5_groupOf_7 (lv_at hl 2 rfl) ?_
    refine lv_aload_n hx hb dX5_groupOf_9 rfl (lv_at hl 0 rfl) ?_
    refine va_get (D := (dC, dI)) (ci := 5) (v := .int kp) (C := RX5) (T := TX5) (N := 22) hx hb hts iwX5_groupOf_X5 hown hK hP 0 rfl rfl 10 (by decide) (hts _ fwX5_groupOf_102) (fun _ h9 => h9) rfl dX5_groupOf_10 ?_
    refine lv_icmp_ge (tgt := 109) hx hb dX5_groupOf_13 (by decide) (fun c9 => ?_) (fun c9 => ?_)
    · have h := h.1 c9
      exact hk109 v2 ls H locs h (lv_sub hl [1] rfl) hP hS
    · have h := h.2 c9
      refine lv_lload_n hx hb dX5_groupOf_16 rfl (lv_at hl 1 rfl) ?_
      refine lv_aload_n hx hb dX5_groupOf_17 rfl (lv_at hl 0 rfl) ?_
      refine lv_lload_n hx hb dX5_groupOf_18 rfl (lv_at hl 1 rfl) ?_
      refine cl_l (va_runV (As := [.long v2]) (rest := [.long v2]) ⟨hx, hb, hml, hown, hts⟩ (ktX5_around l dC dI q cI cJ cZ H.size kc kd kn kp ka kt ku kr cn xs ys x2 y2 my tl po so st nr co rg re v2 h) (cwV 1 hts gX5_groupOf_X5_around rfl rfl rfl (by decide +kernel) ⟨Nat.le_of_ble_eq_true rfl, Nat.le_of_ble_eq_true rfl⟩) ⟨wd.blind, va_recv hK hP (ci := 5) (q0 := 0) rfl rfl, fun U hU hW => ⟨rfl, wd.at hP hK ha hN hU hW⟩⟩ rfl rfl hl.1 rfl (lv_room (Nat.le_of_ble_eq_true rfl)) dX5_groupOf_19 ⟨Nat.le_of_ble_eq_true rfl, Nat.le_of_ble_eq_true rfl⟩) hS (fun r10 _ H locs h hP hS => ?_)
      have hP : va_P (dC, dI) vwCl (WM q cI cJ cZ kc kd kn kp ka kt ku kr cn xs ys x2 y2 my tl po so st nr co rg re) H := hP
      refine lv_lor hx hb dX5_groupOf_22 ?_
      refine lv_topl (fun j12 ej12 => ?_)
      have h := h j12 ej12
      refine lv_lstore_n (lv' := [(2, .long j12), (0, .ref (q 0)), (4, .int v4)]) hx hb dX5_groupOf_23 rfl hl (by decide) rfl (fun ls hl => ?_)
      refine lv_iconst (v := 1) hx hb dX5_groupOf_24 (by decide) ?_
      refine lv_istore (lv' := [(5, .int 1), (2, .long j12), (0, .ref (q 0)), (4, .int v4)]) hx hb dX5_groupOf_25 hl (by decide) rfl (fun ls hl => ?_)
      obtain ⟨n9, h⟩ := h
      exact mX5_groupOf_27 kc kd kn kp ka kt ku kr cn xs ys x2 y2 my tl po so st nr co rg re C hK ha hN (fun v2 v4 ls H locs h hl hP hS => by
          obtain ⟨i13, ei13⟩ : ∃ y : Int32, y = v4 + 1 := ⟨_, rfl⟩
          refine lv_iinc (v := i13) (lv' := [(4, .int i13), (0, .ref (q 0)), (2, .long v2)]) hx hb dX5_groupOf_103 hl (k := 2) rfl (by rw [ei13]; rfl) (by decide) rfl (fun ls hl => ?_)
          have h := h i13 ei13
          refine lv_goto (tgt := 7) hx hb dX5_groupOf_106 (by decide) ?_
          exact ih v2 i13 ls H locs h (lv_sub hl [1, 2, 0] rfl) hP hS) n9 j12 v4 1 ls H locs h (lv_sub hl [2, 1, 3, 0] rfl) hP hS
def wX5_groupOf (kp : Int32) (st : (Nat → Int32)) (nr : (Nat → Int64)) (v1 : Int32) (K : Int64 → Prop) : Prop := (∀ j14 : Int64, j14 = ((1 : Int64) <<< (v1.toInt64 &&& 63)) → (∃ z7, lpX5_groupOf_7 kp st nr K (fun (v2 : Int64) => K v2 ) z7 j14 0))
set_option maxHeartbeats 4000000 in
set_option maxRecDepth 100000 in
theorem ktX5_groupOf (l : Launch) (dC : Nat → ClassId) (dI : Nat → Nat → Nat) (q : Nat → Nat) (cI cJ cZ : ClassId) (sz : Nat) (kc : Int32) (kd : Int32) (kn : Int32) (kp : Int32) (ka : Int32) (kt : Int32) (ku : Int32) (kr : Int32) (cn : (Nat → Int32)) (xs : (Nat → Int32)) (ys : (Nat → Int32)) (x2 : (Nat → Int32)) (y2 : (Nat → Int32)) (my : (Nat → Int32)) (tl : (Nat → Int32)) (po : (Nat → Int32)) (so : (Nat → Int32)) (st : (Nat → Int32)) (nr : (Nat → Int64)) (co : (Nat → Int32)) (rg : (Nat → Int32)) (re : (Nat → Int64)) (v1 : Int32) {K : Int64 → Prop} (h : wX5_groupOf kp st nr v1 K) : Met l yX5_groupOf wsX5_groupOf { frames := 1, cells := 0, slots := 0, locals := 25 } (va_Pc [.ref (q 0), .int v1] (wd dC dI cI cJ cZ q 15 sz (WM q cI cJ cZ kc kd kn kp ka kt ku kr cn xs ys x2 y2 my tl po so st nr co rg re))) (QX5_groupOf dC dI cI cJ cZ q sz kc kd kn kp ka kt ku kr cn xs ys x2 y2 my tl po so st nr co rg re K) 0 0 (AF q 15 sz) := by
  refine met_of [.ref (q 0), .int v1] (by decide +kernel) rfl (Nat.le_of_ble_eq_true rfl) ?_
  intro p e s m below meth c ls hsz C hK ha hN hl hP
  subst hsz
  obtain ⟨hx, hb, hr, hml, hown, hts, hlk⟩ := id C
  have hl : lv_has ls 7 [(0, .ref (q 0)), (1, .int v1)] := hl
  refine w_go (Pw := fun H => va_P (dC, dI) vwCl (WM q cI cJ cZ kc kd kn kp ka kt ku kr cn xs ys x2 y2 my tl po so st nr co rg re) H) (A := AF q 15 s.heap.size) (fun H locs hP hS => ?_) hP
  unfold wX5_groupOf at h
  refine lv_lconst (v := 1) hx hb dX5_groupOf_0 (by decide) ?_
  refine lv_iload_n hx hb dX5_groupOf_1 rfl (lv_at hl 1 rfl) ?_
  refine lv_lshl hx hb dX5_groupOf_2 rfl ?_
  refine lv_topl (fun j14 ej14 => ?_)
  have h := h j14 ej14
  refine lv_lstore_n (lv' := [(2, .long j14), (0, .ref (q 0)), (1, .int v1)]) hx hb dX5_groupOf_3 rfl hl (by decide) rfl (fun ls hl => ?_)
  refine lv_iconst (v := 0) hx hb dX5_groupOf_4 (by decide) ?_
  refine lv_istore (lv' := [(4, .int 0), (2, .long j14), (0, .ref (q 0)), (1, .int v1)]) hx hb dX5_groupOf_5 hl (by decide) rfl (fun ls hl => ?_)
  obtain ⟨n9, h⟩ := h
  exact mX5_groupOf_7 kc kd kn kp ka kt ku kr cn xs ys x2 y2 my tl po so st nr co rg re C hK ha hN (fun v2 ls H locs h hl hP hS => by
      refine lv_lload_n hx hb dX5_groupOf_109 rfl (lv_at hl 0 rfl) ?_
      exact rt_l () hx hb hr hlk h (fun t ht => by rw [ht]; exact hP) hS dX5_groupOf_110) n9 j14 0 ls H locs h (lv_sub hl [2, 1, 0] rfl) hP hS

theorem fwX5_groups_102 : Cond.fieldLink RX5 102 "MaskPartsModel" "parts" "I" ∈ wsX5_groups := by decide +kernel
set_option maxRecDepth 20000 in
theorem iwX5_groups_X5 : ∀ w ∈ wsX50, w ∈ wsX5_groups := by decide +kernel
theorem fwX5_groups_61 : Cond.fieldLink RX5 61 "MaskPartsModel" "code" "I" ∈ wsX5_groups := by decide +kernel
abbrev QX5_groups (dC : Nat → ClassId) (dI : Nat → Nat → Nat) (cI cJ cZ : ClassId) (q : Nat → Nat) (sz : Nat) (kd : Int32) (kn : Int32) (ka : Int32) (kt : Int32) (ku : Int32) (kr : Int32) (cn : (Nat → Int32)) (xs : (Nat → Int32)) (ys : (Nat → Int32)) (x2 : (Nat → Int32)) (y2 : (Nat → Int32)) (my : (Nat → Int32)) (tl : (Nat → Int32)) (co : (Nat → Int32)) (rg : (Nat → Int32)) (re : (Nat → Int64)) (K : Int32 → (Int32 × Int32 × (Nat → Int32) × (Nat → Int32) × (Nat → Int32) × (Nat → Int64)) → Prop) : Array Value → State → Outcome → State → Prop := va_Qi (fun (r : Int32) (u : Int32 × Int32 × (Nat → Int32) × (Nat → Int32) × (Nat → Int32) × (Nat → Int64)) => K r u) (fun (u : Int32 × Int32 × (Nat → Int32) × (Nat → Int32) × (Nat → Int32) × (Nat → Int64)) t => va_P (dC, dI) vwCl (WM q cI cJ cZ u.1 kd kn u.2.1 ka kt ku kr cn xs ys x2 y2 my tl u.2.2.1 u.2.2.2.1 u.2.2.2.2.1 u.2.2.2.2.2 co rg re) t.heap) (AF q 15 sz)
def bkX5_groups_48 (kd : Int32) (kn : Int32) (cn : (Nat → Int32)) (xs : (Nat → Int32)) (ys : (Nat → Int32)) (x2 : (Nat → Int32)) (y2 : (Nat → Int32)) (my : (Nat → Int32)) (K : Int32 → (Int32 × Int32 × (Nat → Int32) × (Nat → Int32) × (Nat → Int32) × (Nat → Int64)) → Prop) (k16 : Int32 → Int32 → (Nat → Int32) → (Nat → Int32) → (Nat → Int32) → (Nat → Int64) → Int64 → Int32 → Int32 → Prop) (kc : Int32) (kp : Int32) (po : (Nat → Int32)) (so : (Nat → Int32)) (st : (Nat → Int32)) (nr : (Nat → Int64)) (v1 : Int64) (v3 : Int32) (v4 : Int32) : Prop := (∀ i1 : Int32, i1 = v4 + 1 → k16 kc kp po so st nr v1 v3 i1)
set_option maxHeartbeats 4000000 in
set_option maxRecDepth 100000 in
theorem mX5_groups_48 {p : Program} {l : Launch} {e : Env} {s : State} {m : MethodId} {av : Array Value} {below : List Frame} {meth : Method} {c : Code} {dC : Nat → ClassId} {dI : Nat → Nat → Nat} {cI cJ cZ : ClassId} {q : Nat → Nat} {K : Int32 → (Int32 × Int32 × (Nat → Int32) × (Nat → Int32) × (Nat → Int32) × (Nat → Int64)) → Prop} {k16 : Int32 → Int32 → (Nat → Int32) → (Nat → Int32) → (Nat → Int32) → (Nat → Int64) → Int64 → Int32 → Int32 → Prop} (kd : Int32) (kn : Int32) (ka : Int32) (kt : Int32) (ku : Int32) (kr : Int32) (cn : (Nat → Int32)) (xs : (Nat → Int32)) (ys : (Nat → Int32)) (x2 : (Nat → Int32)) (y2 : (Nat → Int32)) (my : (Nat → Int32)) (tl : (Nat → Int32)) (co : (Nat → Int32)) (rg : (Nat → Int32)) (re : (Nat → Int64)) (C : CX p s m av meth c cX5_groups 5 (some .int) RX5 wsX5_groups) (hK : va_K (dC, dI) vwCl (TY cI cJ cZ) s) (ha : apart q 15) (hN : NX s) (hk16 : ∀ (kc : Int32) (kp : Int32) (po : (Nat → Int32)) (so : (Nat → Int32)) (st : (Nat → Int32)) (nr : (Nat → Int64)) (v1 : Int64) (v3 : Int32) (v4 : Int32) (ls : Array Slot) (H : Heap) (locs : List Loc), k16 kc kp po so st nr v1 v3 v4 → lv_has ls 5 [(0, .ref (q 0)), (1, .long v1), (3, .int v3), (4, .int v4)] → va_P (dC, dI) vwCl (WM q cI cJ cZ kc kd kn kp ka kt ku kr cn xs ys x2 y2 my tl po so st nr co rg re) H → va_S (AF q 15 s.heap.size) s.heap H locs → W p l e { frames := 4, cells := 0, slots := 0, locals := 97 } s m av below meth c H locs 0 0 (MQ below (QX5_groups dC dI cI cJ cZ q s.heap.size kd kn ka kt ku kr cn xs ys x2 y2 my tl co rg re K) av s 0 0 (AF q 15 s.heap.size)) (F0 m 16 ls [])) : ∀ (kc : Int32) (kp : Int32) (po : (Nat → Int32)) (so : (Nat → Int32)) (st : (Nat → Int32)) (nr : (Nat → Int64)) (v1 : Int64) (v3 : Int32) (v4 : Int32) (ls : Array Slot) (H : Heap) (locs : List Loc), bkX5_groups_48 kd kn cn xs ys x2 y2 my K k16 kc kp po so st nr v1 v3 v4 → lv_has ls 5 [(0, .ref (q 0)), (1, .long v1), (3, .int v3), (4, .int v4)] → va_P (dC, dI) vwCl (WM q cI cJ cZ kc kd kn kp ka kt ku kr cn xs ys x2 y2 my tl po so st nr co rg re) H → va_S (AF q 15 s.heap.size) s.heap H locs → W p l e { frames := 4, cells := 0, slots := 0, locals := 97 } s m av below meth c H locs 0 0 (MQ below (QX5_groups dC dI cI cJ cZ q s.heap.size kd kn ka kt ku kr cn xs ys x2 y2 my tl co rg re K) av s 0 0 (AF q 15 s.heap.size)) (F0 m 48 ls []) := by
  obtain ⟨hx, hb, hr, hml, hown, hts, hlk⟩ := id C
  intro kc kp po so st nr v1 v3 v4 ls H locs h hl hP hS
  unfold bkX5_groups_48 at h
  obtain ⟨i1, ei1⟩ : ∃ y : Int32, y = v4 + 1 := ⟨_, rfl⟩
  refine lv_iinc (v := i1) (lv' := [(4, .int i1), (0, .ref (q 0)), (1, .long v1), (3, .int v3)]) hx hb dX5_groups_48 hl (k := 3) rfl (by rw [ei1]; rfl) (by decide) rfl (fun ls hl => ?_)
  have h := h i1 ei1
  refine lv_goto (tgt := 16) hx hb dX5_groups_51 (by decide) ?_
  exact hk16 kc kp po so st nr v1 v3 i1 ls H locs h (lv_sub hl [1, 2, 3, 0] rfl) hP hS
def lpX5_groups_16 (kd : Int32) (kn : Int32) (cn : (Nat → Int32)) (xs : (Nat → Int32)) (ys : (Nat → Int32)) (x2 : (Nat → Int32)) (y2 : (Nat → Int32)) (my : (Nat → Int32)) (K : Int32 → (Int32 × Int32 × (Nat → Int32) × (Nat → Int32) × (Nat → Int32) × (Nat → Int64)) → Prop) (k54 : Int32 → Int32 → (Nat → Int32) → (Nat → Int32) → (Nat → Int32) → (Nat → Int64) → Int32 → Prop) : Nat → Int32 → Int32 → (Nat → Int32) → (Nat → Int32) → (Nat → Int32) → (Nat → Int64) → Int64 → Int32 → Int32 → Prop
  | 0, _, _, _, _, _, _, _, _, _ => False
  | n + 1, kc, kp, po, so, st, nr, v1, v3, v4 => ((kp ≤ v4 → k54 kc kp po so st nr v3) ∧ (¬ (kp ≤ v4) → ((¬ (lg_cmp ((((v1 : Int64) >>> (v4.toInt64 &&& 63)) &&& 1)) 0) = 0 → bkX5_groups_48 kd kn cn xs ys x2 y2 my K (fun kc kp po so st nr v1 v3 v4 => lpX5_groups_16 kd kn cn xs ys x2 y2 my K k54 n kc kp po so st nr v1 v3 v4) kc kp po so st nr v1 v3 v4) ∧ ((lg_cmp ((((v1 : Int64) >>> (v4.toInt64 &&& 63)) &&& 1)) 0) = 0 → (∀ i4 : Int32, i4 = v3 + 1 → (wX5_groupOf kp st nr v4 (fun (r5 : Int64) => (∀ j7 : Int64, j7 = (v1 ||| r5) → bkX5_groups_48 kd kn cn xs ys x2 y2 my K (fun kc kp po so st nr v1 v3 v4 => lpX5_groups_16 kd kn cn xs ys x2 y2 my K k54 n kc kp po so st nr v1 v3 v4) kc kp po so st nr j7 i4 v4))))))))
set_option maxHeartbeats 4000000 in
set_option maxRecDepth 100000 in
theorem mX5_groups_16 {p : Program} {l : Launch} {e : Env} {s : State} {m : MethodId} {av : Array Value} {below : List Frame} {meth : Method} {c : Code} {dC : Nat → ClassId} {dI : Nat → Nat → Nat} {cI cJ cZ : ClassId} {q : Nat → Nat} {K : Int32 → (Int32 × Int32 × (Nat → Int32) × (Nat → Int32) × (Nat → Int32) × (Nat → Int64)) → Prop} {k54 : Int32 → Int32 → (Nat → Int32) → (Nat → Int32) → (Nat → Int32) → (Nat → Int64) → Int32 → Prop} (kd : Int32) (kn : Int32) (ka : Int32) (kt : Int32) (ku : Int32) (kr : Int32) (cn : (Nat → Int32)) (xs : (Nat → Int32)) (ys : (Nat → Int32)) (x2 : (Nat → Int32)) (y2 : (Nat → Int32)) (my : (Nat → Int32)) (tl : (Nat → Int32)) (co : (Nat → Int32)) (rg : (Nat → Int32)) (re : (Nat → Int64)) (C : CX p s m av meth c cX5_groups 5 (some .int) RX5 wsX5_groups) (hK : va_K (dC, dI) vwCl (TY cI cJ cZ) s) (ha : apart q 15) (hN : NX s) (hk54 : ∀ (kc : Int32) (kp : Int32) (po : (Nat → Int32)) (so : (Nat → Int32)) (st : (Nat → Int32)) (nr : (Nat → Int64)) (v3 : Int32) (ls : Array Slot) (H : Heap) (locs : List Loc), k54 kc kp po so st nr v3 → lv_has ls 5 [(3, .int v3)] → va_P (dC, dI) vwCl (WM q cI cJ cZ kc kd kn kp ka kt ku kr cn xs ys x2 y2 my tl po so st nr co rg re) H → va_S (AF q 15 s.heap.size) s.heap H locs → W p l e { frames := 4, cells := 0, slots := 0, locals := 97 } s m av below meth c H locs 0 0 (MQ below (QX5_groups dC dI cI cJ cZ q s.heap.size kd kn ka kt ku kr cn xs ys x2 y2 my tl co rg re K) av s 0 0 (AF q 15 s.heap.size)) (F0 m 54 ls [])) : ∀ (n : Nat) (kc : Int32) (kp : Int32) (po : (Nat → Int32)) (so : (Nat → Int32)) (st : (Nat → Int32)) (nr : (Nat → Int64)) (v1 : Int64) (v3 : Int32) (v4 : Int32) (ls : Array Slot) (H : Heap) (locs : List Loc), lpX5_groups_16 kd kn cn xs ys x2 y2 my K k54 n kc kp po so st nr v1 v3 v4 → lv_has ls 5 [(0, .ref (q 0)), (1, .long v1), (3, .int v3), (4, .int v4)] → va_P (dC, dI) vwCl (WM q cI cJ cZ kc kd kn kp ka kt ku kr cn xs ys x2 y2 my tl po so st nr co rg re) H → va_S (AF q 15 s.heap.size) s.heap H locs → W p l e { frames := 4, cells := 0, slots := 0, locals := 97 } s m av below meth c H locs 0 0 (MQ below (QX5_groups dC dI cI cJ cZ q s.heap.size kd kn ka kt ku kr cn xs ys x2 y2 my tl co rg re K) av s 0 0 (AF q 15 s.heap.size)) (F0 m 16 ls []) := by
  obtain ⟨hx, hb, hr, hml, hown, hts, hlk⟩ := id C
  intro n
  induction n with
  | zero =>
    intro kc kp po so st nr v1 v3 v4 ls H locs h
    exact h.elim
  | succ n ih =>
    intro kc kp po so st nr v1 v3 v4 ls H locs h hl hP hS
    rw [lpX5_groups_16.eq_2] at h
    refine lv_iload hx hb dX5_groups_16 (lv_at hl 3 rfl) ?_
    refine lv_aload_n hx hb dX5_groups_18 rfl (lv_at hl 0 rfl) ?_
    refine va_get (D := (dC, dI)) (ci := 5) (v := .int kp) (C := RX5) (T := TX5) (N := 22) hx hb hts iwX5_groups_X5 hown hK hP 0 rfl rfl 10 (by decide) (hts _ fwX5_groups_102) (fun _ h9 => h9) rfl dX5_groups_19 ?_
    refine lv_icmp_ge (tgt := 54) hx hb dX5_groups_22 (by decide) (fun c2 => ?_) (fun c2 => ?_)
    · have h := h.1 c2
      exact hk54 kc kp po so st nr v3 ls H locs h (lv_sub hl [2] rfl) hP hS
    · have h := h.2 c2
      refine lv_lload_n hx hb dX5_groups_25 rfl (lv_at hl 1 rfl) ?_
      refine lv_iload hx hb dX5_groups_26 (lv_at hl 3 rfl) ?_
      refine lv_lshr hx hb dX5_groups_28 rfl ?_
      refine lv_lconst (v := 1) hx hb dX5_groups_29 (by decide) ?_
      refine lv_land hx hb dX5_groups_30 ?_
      refine lv_lconst (v := 0) hx hb dX5_groups_31 (by decide) ?_
      refine W.lcmp hx hb dX5_groups_32 ?_
      refine lv_if_ne (tgt := 48) hx hb dX5_groups_33 (by decide) (fun c3 => ?_) (fun c3 => ?_)
      · have h := h.1 c3
        exact mX5_groups_48 kd kn ka kt ku kr cn xs ys x2 y2 my tl co rg re C hK ha hN (fun kc kp po so st nr v1 v3 v4 ls H locs h hl hP hS => ih kc kp po so st nr v1 v3 v4 ls H locs h hl hP hS) kc kp po so st nr v1 v3 v4 ls H locs h (lv_sub hl [0, 1, 2, 3] rfl) hP hS
      · have h := h.2 c3
        obtain ⟨i4, ei4⟩ : ∃ y : Int32, y = v3 + 1 := ⟨_, rfl⟩
        refine lv_iinc (v := i4) (lv' := [(3, .int i4), (0, .ref (q 0)), (1, .long v1), (4, .int v4)]) hx hb dX5_groups_36 hl (k := 2) rfl (by rw [ei4]; rfl) (by decide) rfl (fun ls hl => ?_)
        have h := h i4 ei4
        refine lv_lload_n hx hb dX5_groups_39 rfl (lv_at hl 2 rfl) ?_
        refine lv_aload_n hx hb dX5_groups_40 rfl (lv_at hl 1 rfl) ?_
        refine lv_iload hx hb dX5_groups_41 (lv_at hl 3 rfl) ?_
        refine cl_l (va_runV (As := [.int v4]) (rest := [.long v1]) ⟨hx, hb, hml, hown, hts⟩ (ktX5_groupOf l dC dI q cI cJ cZ H.size kc kd kn kp ka kt ku kr cn xs ys x2 y2 my tl po so st nr co rg re v4 h) (cwV 1 hts gX5_groups_X5_groupOf rfl rfl rfl (by decide +kernel) ⟨Nat.le_of_ble_eq_true rfl, Nat.le_of_ble_eq_true rfl⟩) ⟨wd.blind, va_recv hK hP (ci := 5) (q0 := 0) rfl rfl, fun U hU hW => ⟨rfl, wd.at hP hK ha hN hU hW⟩⟩ rfl rfl hl.1 rfl (lv_room (Nat.le_of_ble_eq_true rfl)) dX5_groups_43 ⟨Nat.le_of_ble_eq_true rfl, Nat.le_of_ble_eq_true rfl⟩) hS (fun r5 _ H locs h hP hS => ?_)
        have hP : va_P (dC, dI) vwCl (WM q cI cJ cZ kc kd kn kp ka kt ku kr cn xs ys x2 y2 my tl po so st nr co rg re) H := hP
        refine lv_lor hx hb dX5_groups_46 ?_
        refine lv_topl (fun j7 ej7 => ?_)
        have h := h j7 ej7
        refine lv_lstore_n (lv' := [(1, .long j7), (3, .int i4), (0, .ref (q 0)), (4, .int v4)]) hx hb dX5_groups_47 rfl hl (by decide) rfl (fun ls hl => ?_)
        exact mX5_groups_48 kd kn ka kt ku kr cn xs ys x2 y2 my tl co rg re C hK ha hN (fun kc kp po so st nr v1 v3 v4 ls H locs h hl hP hS => ih kc kp po so st nr v1 v3 v4 ls H locs h hl hP hS) kc kp po so st nr j7 i4 v4 ls H locs h (lv_sub hl [2, 0, 1, 3] rfl) hP hS
def wX5_groups (kd : Int32) (kn : Int32) (cn : (Nat → Int32)) (xs : (Nat → Int32)) (ys : (Nat → Int32)) (x2 : (Nat → Int32)) (y2 : (Nat → Int32)) (my : (Nat → Int32)) (kc : Int32) (kp : Int32) (po : (Nat → Int32)) (so : (Nat → Int32)) (st : (Nat → Int32)) (nr : (Nat → Int64))  (K : Int32 → (Int32 × Int32 × (Nat → Int32) × (Nat → Int32) × (Nat → Int32) × (Nat → Int64)) → Prop) : Prop := (wX5_findParts kd kn cn xs ys x2 y2 my kp po so st nr  (fun (u9 : Int32 × (Nat → Int32) × (Nat → Int32) × (Nat → Int32) × (Nat → Int64)) => (∃ z16, lpX5_groups_16 kd kn cn xs ys x2 y2 my K (fun (kc : Int32) (kp : Int32) (po : (Nat → Int32)) (so : (Nat → Int32)) (st : (Nat → Int32)) (nr : (Nat → Int64)) (v3 : Int32) => K v3 (kc, kp, po, so, st, nr)) z16 0 u9.1 u9.2.1 u9.2.2.1 u9.2.2.2.1 u9.2.2.2.2 0 0 0)))
set_option maxHeartbeats 4000000 in
set_option maxRecDepth 100000 in
theorem ktX5_groups (l : Launch) (dC : Nat → ClassId) (dI : Nat → Nat → Nat) (q : Nat → Nat) (cI cJ cZ : ClassId) (sz : Nat) (kc : Int32) (kd : Int32) (kn : Int32) (kp : Int32) (ka : Int32) (kt : Int32) (ku : Int32) (kr : Int32) (cn : (Nat → Int32)) (xs : (Nat → Int32)) (ys : (Nat → Int32)) (x2 : (Nat → Int32)) (y2 : (Nat → Int32)) (my : (Nat → Int32)) (tl : (Nat → Int32)) (po : (Nat → Int32)) (so : (Nat → Int32)) (st : (Nat → Int32)) (nr : (Nat → Int64)) (co : (Nat → Int32)) (rg : (Nat → Int32)) (re : (Nat → Int64))  {K : Int32 → (Int32 × Int32 × (Nat → Int32) × (Nat → Int32) × (Nat → Int32) × (Nat → Int64)) → Prop} (h : wX5_groups kd kn cn xs ys x2 y2 my kc kp po so st nr K) : Met l yX5_groups wsX5_groups { frames := 4, cells := 0, slots := 0, locals := 97 } (va_Pc [.ref (q 0)] (wd dC dI cI cJ cZ q 15 sz (WM q cI cJ cZ kc kd kn kp ka kt ku kr cn xs ys x2 y2 my tl po so st nr co rg re))) (QX5_groups dC dI cI cJ cZ q sz kd kn ka kt ku kr cn xs ys x2 y2 my tl co rg re K) 0 0 (AF q 15 sz) := by
  refine met_of [.ref (q 0)] (by decide +kernel) rfl (Nat.le_of_ble_eq_true rfl) ?_
  intro p e s m below meth c ls hsz C hK ha hN hl hP
  subst hsz
  obtain ⟨hx, hb, hr, hml, hown, hts, hlk⟩ := id C
  have hl : lv_has ls 5 [(0, .ref (q 0))] := hl
  refine w_go (Pw := fun H => va_P (dC, dI) vwCl (WM q cI cJ cZ kc kd kn kp ka kt ku kr cn xs ys x2 y2 my tl po so st nr co rg re) H) (A := AF q 15 s.heap.size) (fun H locs hP hS => ?_) hP
  unfold wX5_groups at h
  refine lv_aload_n hx hb dX5_groups_0 rfl (lv_at hl 0 rfl) ?_
  refine lv_iconst (v := 0) hx hb dX5_groups_1 (by decide) ?_
  refine va_put (D := (dC, dI)) (ci := 5) (v := .int 0) (ty := .int) (C := RX5) (T := TX5) (N := 22) hx hb hts iwX5_groups_X5 tyX5 tyX5_ok nmX5 hown hK hP (d_WM ha) hS 0 rfl rfl 0 (by decide) (hts _ fwX5_groups_61) (fun _ h9 => h9) rfl (by decide +kernel) rfl rfl (Nat.le_of_ble_eq_true rfl) dX5_groups_2 (fun H locs hP _ hS => ?_)
  have hP : va_P (dC, dI) vwCl (WM q cI cJ cZ 0 kd kn kp ka kt ku kr cn xs ys x2 y2 my tl po so st nr co rg re) H := hP
  refine lv_aload_n hx hb dX5_groups_5 rfl (lv_at hl 0 rfl) ?_
  refine cl_v (va_runV (As := []) (rest := []) ⟨hx, hb, hml, hown, hts⟩ (ktX5_findParts l dC dI q cI cJ cZ H.size 0 kd kn kp ka kt ku kr cn xs ys x2 y2 my tl po so st nr co rg re  h) (cwV 0 hts gX5_groups_X5_findParts rfl rfl rfl (by decide +kernel) ⟨Nat.le_of_ble_eq_true rfl, Nat.le_of_ble_eq_true rfl⟩) ⟨wd.blind, va_recv hK hP (ci := 5) (q0 := 0) rfl rfl, fun U hU hW => ⟨rfl, wd.at hP hK ha hN hU hW⟩⟩ rfl rfl hl.1 rfl (lv_room (Nat.le_of_ble_eq_true rfl)) dX5_groups_6 ⟨Nat.le_of_ble_eq_true rfl, Nat.le_of_ble_eq_true rfl⟩) hS (fun u9 H locs h hP hS => ?_)
  have hP : va_P (dC, dI) vwCl (WM q cI cJ cZ 0 kd kn u9.1 ka kt ku kr cn xs ys x2 y2 my tl u9.2.1 u9.2.2.1 u9.2.2.2.1 u9.2.2.2.2 co rg re) H := hP
  refine lv_lconst (v := 0) hx hb dX5_groups_9 (by decide) ?_
  refine lv_lstore_n (lv' := [(1, .long 0), (0, .ref (q 0))]) hx hb dX5_groups_10 rfl hl (by decide) rfl (fun ls hl => ?_)
  refine lv_iconst (v := 0) hx hb dX5_groups_11 (by decide) ?_
  refine lv_istore_n (lv' := [(3, .int 0), (1, .long 0), (0, .ref (q 0))]) hx hb dX5_groups_12 rfl hl (by decide) rfl (fun ls hl => ?_)
  refine lv_iconst (v := 0) hx hb dX5_groups_13 (by decide) ?_
  refine lv_istore (lv' := [(4, .int 0), (3, .int 0), (1, .long 0), (0, .ref (q 0))]) hx hb dX5_groups_14 hl (by decide) rfl (fun ls hl => ?_)
  obtain ⟨n9, h⟩ := h
  exact mX5_groups_16 kd kn ka kt ku kr cn xs ys x2 y2 my tl co rg re C hK ha hN (fun kc kp po so st nr v3 ls H locs h hl hP hS => by
      refine lv_iload_n hx hb dX5_groups_54 rfl (lv_at hl 0 rfl) ?_
      exact rt_i (kc, kp, po, so, st, nr) hx hb hr hlk h (fun t ht => by rw [ht]; exact hP) hS dX5_groups_55) n9 0 u9.1 u9.2.1 u9.2.2.1 u9.2.2.2.1 u9.2.2.2.2 0 0 0 ls H locs h (lv_sub hl [3, 2, 1, 0] rfl) hP hS

theorem fwX5_told_64 : Cond.fieldLink RX5 64 "MaskPartsModel" "shapes" "I" ∈ wsX5_told := by decide +kernel
set_option maxRecDepth 20000 in
theorem iwX5_told_X5 : ∀ w ∈ wsX50, w ∈ wsX5_told := by decide +kernel
theorem fwX5_told_13 : Cond.fieldLink RX5 13 "MaskPartsModel" "counts" "[I" ∈ wsX5_told := by decide +kernel
theorem fwX5_told_61 : Cond.fieldLink RX5 61 "MaskPartsModel" "code" "I" ∈ wsX5_told := by decide +kernel
theorem fwX5_told_7 : Cond.fieldLink RX5 7 "MaskPartsModel" "distance" "I" ∈ wsX5_told := by decide +kernel
theorem fwX5_told_102 : Cond.fieldLink RX5 102 "MaskPartsModel" "parts" "I" ∈ wsX5_told := by decide +kernel
theorem cwX5_told_165 : Cond.constantLong RX5 165 (5) ∈ wsX5_told := by decide +kernel
abbrev QX5_told (dC : Nat → ClassId) (dI : Nat → Nat → Nat) (cI cJ cZ : ClassId) (q : Nat → Nat) (sz : Nat) (kd : Int32) (kn : Int32) (ka : Int32) (kt : Int32) (ku : Int32) (kr : Int32) (cn : (Nat → Int32)) (xs : (Nat → Int32)) (ys : (Nat → Int32)) (x2 : (Nat → Int32)) (y2 : (Nat → Int32)) (my : (Nat → Int32)) (tl : (Nat → Int32)) (co : (Nat → Int32)) (rg : (Nat → Int32)) (re : (Nat → Int64)) (K : Int32 → (Int32 × Int32 × (Nat → Int32) × (Nat → Int32) × (Nat → Int32) × (Nat → Int64)) → Prop) : Array Value → State → Outcome → State → Prop := va_Qi (fun (r : Int32) (u : Int32 × Int32 × (Nat → Int32) × (Nat → Int32) × (Nat → Int32) × (Nat → Int64)) => K r u) (fun (u : Int32 × Int32 × (Nat → Int32) × (Nat → Int32) × (Nat → Int32) × (Nat → Int64)) t => va_P (dC, dI) vwCl (WM q cI cJ cZ u.1 kd kn u.2.1 ka kt ku kr cn xs ys x2 y2 my tl u.2.2.1 u.2.2.2.1 u.2.2.2.2.1 u.2.2.2.2.2 co rg re) t.heap) (AF q 15 sz)
def lpX5_told_29 (kd : Int32) (kn : Int32) (cn : (Nat → Int32)) (xs : (Nat → Int32)) (ys : (Nat → Int32)) (x2 : (Nat → Int32)) (y2 : (Nat → Int32)) (my : (Nat → Int32)) (K : Int32 → (Int32 × Int32 × (Nat → Int32) × (Nat → Int32) × (Nat → Int32) × (Nat → Int64)) → Prop) (k52 : Int32 → Int32 → (Nat → Int32) → (Nat → Int32) → (Nat → Int32) → (Nat → Int64) → Int32 → Int32 → Prop) : Nat → Int32 → Int32 → (Nat → Int32) → (Nat → Int32) → (Nat → Int32) → (Nat → Int64) → Int32 → Int32 → Int32 → Prop
  | 0, _, _, _, _, _, _, _, _, _ => False
  | n + 1, kc, kp, po, so, st, nr, v1, v2, v3 => ((kn ≤ v3 → k52 kc kp po so st nr v1 v2) ∧ (¬ (kn ≤ v3) → (vp_in v3 10 ∧ (∀ i3 : Int32, i3 = (v2 + (cn v3.toNatClampNeg)) → (∀ i4 : Int32, i4 = v3 + 1 → lpX5_told_29 kd kn cn xs ys x2 y2 my K k52 n kc kp po so st nr v1 i3 i4)))))
set_option maxHeartbeats 4000000 in
set_option maxRecDepth 100000 in
theorem mX5_told_29 {p : Program} {l : Launch} {e : Env} {s : State} {m : MethodId} {av : Array Value} {below : List Frame} {meth : Method} {c : Code} {dC : Nat → ClassId} {dI : Nat → Nat → Nat} {cI cJ cZ : ClassId} {q : Nat → Nat} {K : Int32 → (Int32 × Int32 × (Nat → Int32) × (Nat → Int32) × (Nat → Int32) × (Nat → Int64)) → Prop} {k52 : Int32 → Int32 → (Nat → Int32) → (Nat → Int32) → (Nat → Int32) → (Nat → Int64) → Int32 → Int32 → Prop} (kd : Int32) (kn : Int32) (ka : Int32) (kt : Int32) (ku : Int32) (kr : Int32) (cn : (Nat → Int32)) (xs : (Nat → Int32)) (ys : (Nat → Int32)) (x2 : (Nat → Int32)) (y2 : (Nat → Int32)) (my : (Nat → Int32)) (tl : (Nat → Int32)) (co : (Nat → Int32)) (rg : (Nat → Int32)) (re : (Nat → Int64)) (C : CX p s m av meth c cX5_told 4 (some .int) RX5 wsX5_told) (hK : va_K (dC, dI) vwCl (TY cI cJ cZ) s) (ha : apart q 15) (hN : NX s) (hk52 : ∀ (kc : Int32) (kp : Int32) (po : (Nat → Int32)) (so : (Nat → Int32)) (st : (Nat → Int32)) (nr : (Nat → Int64)) (v1 : Int32) (v2 : Int32) (ls : Array Slot) (H : Heap) (locs : List Loc), k52 kc kp po so st nr v1 v2 → lv_has ls 4 [(0, .ref (q 0)), (1, .int v1), (2, .int v2)] → va_P (dC, dI) vwCl (WM q cI cJ cZ kc kd kn kp ka kt ku kr cn xs ys x2 y2 my tl po so st nr co rg re) H → va_S (AF q 15 s.heap.size) s.heap H locs → W p l e { frames := 4, cells := 0, slots := 0, locals := 97 } s m av below meth c H locs 0 0 (MQ below (QX5_told dC dI cI cJ cZ q s.heap.size kd kn ka kt ku kr cn xs ys x2 y2 my tl co rg re K) av s 0 0 (AF q 15 s.heap.size)) (F0 m 52 ls [])) : ∀ (n : Nat) (kc : Int32) (kp : Int32) (po : (Nat → Int32)) (so : (Nat → Int32)) (st : (Nat → Int32)) (nr : (Nat → Int64)) (v1 : Int32) (v2 : Int32) (v3 : Int32) (ls : Array Slot) (H : Heap) (locs : List Loc), lpX5_told_29 kd kn cn xs ys x2 y2 my K k52 n kc kp po so st nr v1 v2 v3 → lv_has ls 4 [(0, .ref (q 0)), (1, .int v1), (2, .int v2), (3, .int v3)] → va_P (dC, dI) vwCl (WM q cI cJ cZ kc kd kn kp ka kt ku kr cn xs ys x2 y2 my tl po so st nr co rg re) H → va_S (AF q 15 s.heap.size) s.heap H locs → W p l e { frames := 4, cells := 0, slots := 0, locals := 97 } s m av below meth c H locs 0 0 (MQ below (QX5_told dC dI cI cJ cZ q s.heap.size kd kn ka kt ku kr cn xs ys x2 y2 my tl co rg re K) av s 0 0 (AF q 15 s.heap.size)) (F0 m 29 ls []) := by
  obtain ⟨hx, hb, hr, hml, hown, hts, hlk⟩ := id C
  intro n
  induction n with
  | zero =>
    intro kc kp po so st nr v1 v2 v3 ls H locs h
    exact h.elim
  | succ n ih =>
    intro kc kp po so st nr v1 v2 v3 ls H locs h hl hP hS
    rw [lpX5_told_29.eq_2] at h
    refine lv_iload_n hx hb dX5_told_29 rfl (lv_at hl 3 rfl) ?_
    refine lv_aload_n hx hb dX5_told_30 rfl (lv_at hl 0 rfl) ?_
    refine va_get (D := (dC, dI)) (ci := 5) (v := .int kn) (C := RX5) (T := TX5) (N := 22) hx hb hts iwX5_told_X5 hown hK hP 0 rfl rfl 2 (by decide) (hts _ fwX5_told_64) (fun _ h9 => h9) rfl dX5_told_31 ?_
    refine lv_icmp_ge (tgt := 52) hx hb dX5_told_34 (by decide) (fun c1 => ?_) (fun c1 => ?_)
    · have h := h.1 c1
      exact hk52 kc kp po so st nr v1 v2 ls H locs h (lv_sub hl [0, 1, 2] rfl) hP hS
    · have h := h.2 c1
      refine lv_iload_n hx hb dX5_told_37 rfl (lv_at hl 2 rfl) ?_
      refine lv_aload_n hx hb dX5_told_38 rfl (lv_at hl 0 rfl) ?_
      refine va_get (D := (dC, dI)) (ci := 5) (v := .ref (q 1)) (C := RX5) (T := TX5) (N := 22) hx hb hts iwX5_told_X5 hown hK hP 0 rfl rfl 3 (by decide) (hts _ fwX5_told_13) (fun _ h9 => h9) rfl dX5_told_39 ?_
      refine lv_iload_n hx hb dX5_told_42 rfl (lv_at hl 3 rfl) ?_
      obtain ⟨b2, h⟩ := h
      refine va_iald (D := (dC, dI)) hx hb hK hP 1 0 rfl rfl b2 dX5_told_43 ?_
      refine lv_iadd hx hb dX5_told_44 ?_
      refine lv_topi (fun i3 ei3 => ?_)
      have h := h i3 ei3
      refine lv_istore_n (lv' := [(2, .int i3), (0, .ref (q 0)), (1, .int v1), (3, .int v3)]) hx hb dX5_told_45 rfl hl (by decide) rfl (fun ls hl => ?_)
      obtain ⟨i4, ei4⟩ : ∃ y : Int32, y = v3 + 1 := ⟨_, rfl⟩
      refine lv_iinc (v := i4) (lv' := [(3, .int i4), (2, .int i3), (0, .ref (q 0)), (1, .int v1)]) hx hb dX5_told_46 hl (k := 3) rfl (by rw [ei4]; rfl) (by decide) rfl (fun ls hl => ?_)
      have h := h i4 ei4
      refine lv_goto (tgt := 29) hx hb dX5_told_49 (by decide) ?_
      exact ih kc kp po so st nr v1 i3 i4 ls H locs h (lv_sub hl [2, 3, 1, 0] rfl) hP hS
def bkX5_told_18 (kd : Int32) (kn : Int32) (cn : (Nat → Int32)) (xs : (Nat → Int32)) (ys : (Nat → Int32)) (x2 : (Nat → Int32)) (y2 : (Nat → Int32)) (my : (Nat → Int32)) (K : Int32 → (Int32 × Int32 × (Nat → Int32) × (Nat → Int32) × (Nat → Int32) × (Nat → Int64)) → Prop) (kc : Int32) (kp : Int32) (po : (Nat → Int32)) (so : (Nat → Int32)) (st : (Nat → Int32)) (nr : (Nat → Int64)) (v1 : Int32) (s1 : Int32) : Prop := (wX5_findParts kd kn cn xs ys x2 y2 my kp po so st nr  (fun (u6 : Int32 × (Nat → Int32) × (Nat → Int32) × (Nat → Int32) × (Nat → Int64)) => (∃ z29, lpX5_told_29 kd kn cn xs ys x2 y2 my K (fun (kc : Int32) (kp : Int32) (po : (Nat → Int32)) (so : (Nat → Int32)) (st : (Nat → Int32)) (nr : (Nat → Int64)) (v1 : Int32) (v2 : Int32) => (((v1.toInt < 0 ∨ 4 < v1.toInt) → ((kc ≤ 0 → K kd (kc, kp, po, so, st, nr)) ∧ (¬ (kc ≤ 0) → K 0 (kc, kp, po, so, st, nr)))) ∧ (v1 = 0 → K kn (kc, kp, po, so, st, nr)) ∧ (v1 = 1 → K v2 (kc, kp, po, so, st, nr)) ∧ (v1 = 2 → K kp (kc, kp, po, so, st, nr)) ∧ (v1 = 3 → (wX5_pairs kp nr  (fun (r8 : Int32) => K r8 (kc, kp, po, so, st, nr)))) ∧ (v1 = 4 → (wX5_stitches kp st  (fun (r10 : Int32) => K r10 (kc, kp, po, so, st, nr)))))) z29 s1 u6.1 u6.2.1 u6.2.2.1 u6.2.2.2.1 u6.2.2.2.2 v1 0 0)))
set_option maxHeartbeats 4000000 in
set_option maxRecDepth 100000 in
theorem mX5_told_18 {p : Program} {l : Launch} {e : Env} {s : State} {m : MethodId} {av : Array Value} {below : List Frame} {meth : Method} {c : Code} {dC : Nat → ClassId} {dI : Nat → Nat → Nat} {cI cJ cZ : ClassId} {q : Nat → Nat} {K : Int32 → (Int32 × Int32 × (Nat → Int32) × (Nat → Int32) × (Nat → Int32) × (Nat → Int64)) → Prop} (kd : Int32) (kn : Int32) (ka : Int32) (kt : Int32) (ku : Int32) (kr : Int32) (cn : (Nat → Int32)) (xs : (Nat → Int32)) (ys : (Nat → Int32)) (x2 : (Nat → Int32)) (y2 : (Nat → Int32)) (my : (Nat → Int32)) (tl : (Nat → Int32)) (co : (Nat → Int32)) (rg : (Nat → Int32)) (re : (Nat → Int64)) (C : CX p s m av meth c cX5_told 4 (some .int) RX5 wsX5_told) (hK : va_K (dC, dI) vwCl (TY cI cJ cZ) s) (ha : apart q 15) (hN : NX s)  : ∀ (kc : Int32) (kp : Int32) (po : (Nat → Int32)) (so : (Nat → Int32)) (st : (Nat → Int32)) (nr : (Nat → Int64)) (v1 : Int32) (s1 : Int32) (ls : Array Slot) (H : Heap) (locs : List Loc), bkX5_told_18 kd kn cn xs ys x2 y2 my K kc kp po so st nr v1 s1 → lv_has ls 4 [(0, .ref (q 0)), (1, .int v1)] → va_P (dC, dI) vwCl (WM q cI cJ cZ kc kd kn kp ka kt ku kr cn xs ys x2 y2 my tl po so st nr co rg re) H → va_S (AF q 15 s.heap.size) s.heap H locs → W p l e { frames := 4, cells := 0, slots := 0, locals := 97 } s m av below meth c H locs 0 0 (MQ below (QX5_told dC dI cI cJ cZ q s.heap.size kd kn ka kt ku kr cn xs ys x2 y2 my tl co rg re K) av s 0 0 (AF q 15 s.heap.size)) (F0 m 18 ls [.int s1, .ref (q 0)]) := by
  obtain ⟨hx, hb, hr, hml, hown, hts, hlk⟩ := id C
  intro kc kp po so st nr v1 s1 ls H locs h hl hP hS
  unfold bkX5_told_18 at h
  refine va_put (D := (dC, dI)) (ci := 5) (v := .int s1) (ty := .int) (C := RX5) (T := TX5) (N := 22) hx hb hts iwX5_told_X5 tyX5 tyX5_ok nmX5 hown hK hP (d_WM ha) hS 0 rfl rfl 0 (by decide) (hts _ fwX5_told_61) (fun _ h9 => h9) rfl (by decide +kernel) rfl rfl (Nat.le_of_ble_eq_true rfl) dX5_told_18 (fun H locs hP _ hS => ?_)
  have hP : va_P (dC, dI) vwCl (WM q cI cJ cZ s1 kd kn kp ka kt ku kr cn xs ys x2 y2 my tl po so st nr co rg re) H := hP
  refine lv_aload_n hx hb dX5_told_21 rfl (lv_at hl 0 rfl) ?_
  refine cl_v (va_runV (As := []) (rest := []) ⟨hx, hb, hml, hown, hts⟩ (ktX5_findParts l dC dI q cI cJ cZ H.size s1 kd kn kp ka kt ku kr cn xs ys x2 y2 my tl po so st nr co rg re  h) (cwV 0 hts gX5_told_X5_findParts rfl rfl rfl (by decide +kernel) ⟨Nat.le_of_ble_eq_true rfl, Nat.le_of_ble_eq_true rfl⟩) ⟨wd.blind, va_recv hK hP (ci := 5) (q0 := 0) rfl rfl, fun U hU hW => ⟨rfl, wd.at hP hK ha hN hU hW⟩⟩ rfl rfl hl.1 rfl (lv_room (Nat.le_of_ble_eq_true rfl)) dX5_told_22 ⟨Nat.le_of_ble_eq_true rfl, Nat.le_of_ble_eq_true rfl⟩) hS (fun u6 H locs h hP hS => ?_)
  have hP : va_P (dC, dI) vwCl (WM q cI cJ cZ s1 kd kn u6.1 ka kt ku kr cn xs ys x2 y2 my tl u6.2.1 u6.2.2.1 u6.2.2.2.1 u6.2.2.2.2 co rg re) H := hP
  refine lv_iconst (v := 0) hx hb dX5_told_25 (by decide) ?_
  refine lv_istore_n (lv' := [(2, .int 0), (0, .ref (q 0)), (1, .int v1)]) hx hb dX5_told_26 rfl hl (by decide) rfl (fun ls hl => ?_)
  refine lv_iconst (v := 0) hx hb dX5_told_27 (by decide) ?_
  refine lv_istore_n (lv' := [(3, .int 0), (2, .int 0), (0, .ref (q 0)), (1, .int v1)]) hx hb dX5_told_28 rfl hl (by decide) rfl (fun ls hl => ?_)
  obtain ⟨n9, h⟩ := h
  exact mX5_told_29 kd kn ka kt ku kr cn xs ys x2 y2 my tl co rg re C hK ha hN (fun kc kp po so st nr v1 v2 ls H locs h hl hP hS => by
      refine lv_iload_n hx hb dX5_told_52 rfl (lv_at hl 1 rfl) ?_
      by_cases h0 : v1.toInt < 0 ∨ 4 < v1.toInt
      · refine lv_tableOut (tgt := 110) hx hb dX5_told_53 h0 (by decide) ?_
        have h := h.1 h0
        refine lv_aload_n hx hb dX5_told_110 rfl (lv_at hl 0 rfl) ?_
        refine va_get (D := (dC, dI)) (ci := 5) (v := .int kc) (C := RX5) (T := TX5) (N := 22) hx hb hts iwX5_told_X5 hown hK hP 0 rfl rfl 0 (by decide) (hts _ fwX5_told_61) (fun _ h9 => h9) rfl dX5_told_111 ?_
        refine lv_if_le (tgt := 121) hx hb dX5_told_114 (by decide) (fun c7 => ?_) (fun c7 => ?_)
        · have h := h.1 c7
          refine lv_aload_n hx hb dX5_told_121 rfl (lv_at hl 0 rfl) ?_
          refine va_get (D := (dC, dI)) (ci := 5) (v := .int kd) (C := RX5) (T := TX5) (N := 22) hx hb hts iwX5_told_X5 hown hK hP 0 rfl rfl 1 (by decide) (hts _ fwX5_told_7) (fun _ h9 => h9) rfl dX5_told_122 ?_
          exact rt_i (kc, kp, po, so, st, nr) hx hb hr hlk h (fun t ht => by rw [ht]; exact hP) hS dX5_told_125
        · have h := h.2 c7
          refine lv_iconst (v := 0) hx hb dX5_told_117 (by decide) ?_
          refine lv_goto (tgt := 125) hx hb dX5_told_118 (by decide) ?_
          exact rt_i (kc, kp, po, so, st, nr) hx hb hr hlk h (fun t ht => by rw [ht]; exact hP) hS dX5_told_125
      · have h1 := sw_4 v1 (fun z => h0 (Or.inl z)) (fun z => h0 (Or.inr z))
        rcases h1 with h1 | h1 | h1 | h1 | h1
        · have h := h.2.1 h1
          refine lv_tableIn (tgt := 88) hx hb dX5_told_53 (fun z => h0 (Or.inl z)) (fun z => h0 (Or.inr z)) (by rw [h1]; rfl) (by decide) ?_
          refine lv_aload_n hx hb dX5_told_88 rfl (lv_at hl 0 rfl) ?_
          refine va_get (D := (dC, dI)) (ci := 5) (v := .int kn) (C := RX5) (T := TX5) (N := 22) hx hb hts iwX5_told_X5 hown hK hP 0 rfl rfl 2 (by decide) (hts _ fwX5_told_64) (fun _ h9 => h9) rfl dX5_told_89 ?_
          exact rt_i (kc, kp, po, so, st, nr) hx hb hr hlk h (fun t ht => by rw [ht]; exact hP) hS dX5_told_92
        · have h := h.2.2.1 h1
          refine lv_tableIn (tgt := 93) hx hb dX5_told_53 (fun z => h0 (Or.inl z)) (fun z => h0 (Or.inr z)) (by rw [h1]; rfl) (by decide) ?_
          refine lv_iload_n hx hb dX5_told_93 rfl (lv_at hl 2 rfl) ?_
          exact rt_i (kc, kp, po, so, st, nr) hx hb hr hlk h (fun t ht => by rw [ht]; exact hP) hS dX5_told_94
        · have h := h.2.2.2.1 h1
          refine lv_tableIn (tgt := 95) hx hb dX5_told_53 (fun z => h0 (Or.inl z)) (fun z => h0 (Or.inr z)) (by rw [h1]; rfl) (by decide) ?_
          refine lv_aload_n hx hb dX5_told_95 rfl (lv_at hl 0 rfl) ?_
          refine va_get (D := (dC, dI)) (ci := 5) (v := .int kp) (C := RX5) (T := TX5) (N := 22) hx hb hts iwX5_told_X5 hown hK hP 0 rfl rfl 10 (by decide) (hts _ fwX5_told_102) (fun _ h9 => h9) rfl dX5_told_96 ?_
          exact rt_i (kc, kp, po, so, st, nr) hx hb hr hlk h (fun t ht => by rw [ht]; exact hP) hS dX5_told_99
        · have h := h.2.2.2.2.1 h1
          refine lv_tableIn (tgt := 100) hx hb dX5_told_53 (fun z => h0 (Or.inl z)) (fun z => h0 (Or.inr z)) (by rw [h1]; rfl) (by decide) ?_
          refine lv_aload_n hx hb dX5_told_100 rfl (lv_at hl 0 rfl) ?_
          refine cl_i (va_runV (As := []) (rest := []) ⟨hx, hb, hml, hown, hts⟩ (ktX5_pairs l dC dI q cI cJ cZ H.size kc kd kn kp ka kt ku kr cn xs ys x2 y2 my tl po so st nr co rg re  h) (cwV 0 hts gX5_told_X5_pairs rfl rfl rfl (by decide +kernel) ⟨Nat.le_of_ble_eq_true rfl, Nat.le_of_ble_eq_true rfl⟩) ⟨wd.blind, va_recv hK hP (ci := 5) (q0 := 0) rfl rfl, fun U hU hW => ⟨rfl, wd.at hP hK ha hN hU hW⟩⟩ rfl rfl hl.1 rfl (lv_room (Nat.le_of_ble_eq_true rfl)) dX5_told_101 ⟨Nat.le_of_ble_eq_true rfl, Nat.le_of_ble_eq_true rfl⟩) hS (fun r8 _ H locs h hP hS => ?_)
          have hP : va_P (dC, dI) vwCl (WM q cI cJ cZ kc kd kn kp ka kt ku kr cn xs ys x2 y2 my tl po so st nr co rg re) H := hP
          exact rt_i (kc, kp, po, so, st, nr) hx hb hr hlk h (fun t ht => by rw [ht]; exact hP) hS dX5_told_104
        · have h := h.2.2.2.2.2 h1
          refine lv_tableIn (tgt := 105) hx hb dX5_told_53 (fun z => h0 (Or.inl z)) (fun z => h0 (Or.inr z)) (by rw [h1]; rfl) (by decide) ?_
          refine lv_aload_n hx hb dX5_told_105 rfl (lv_at hl 0 rfl) ?_
          refine cl_i (va_runV (As := []) (rest := []) ⟨hx, hb, hml, hown, hts⟩ (ktX5_stitches l dC dI q cI cJ cZ H.size kc kd kn kp ka kt ku kr cn xs ys x2 y2 my tl po so st nr co rg re  h) (cwV 0 hts gX5_told_X5_stitches rfl rfl rfl (by decide +kernel) ⟨Nat.le_of_ble_eq_true rfl, Nat.le_of_ble_eq_true rfl⟩) ⟨wd.blind, va_recv hK hP (ci := 5) (q0 := 0) rfl rfl, fun U hU hW => ⟨rfl, wd.at hP hK ha hN hU hW⟩⟩ rfl rfl hl.1 rfl (lv_room (Nat.le_of_ble_eq_true rfl)) dX5_told_106 ⟨Nat.le_of_ble_eq_true rfl, Nat.le_of_ble_eq_true rfl⟩) hS (fun r10 _ H locs h hP hS => ?_)
          have hP : va_P (dC, dI) vwCl (WM q cI cJ cZ kc kd kn kp ka kt ku kr cn xs ys x2 y2 my tl po so st nr co rg re) H := hP
          exact rt_i (kc, kp, po, so, st, nr) hx hb hr hlk h (fun t ht => by rw [ht]; exact hP) hS dX5_told_109) n9 s1 u6.1 u6.2.1 u6.2.2.1 u6.2.2.2.1 u6.2.2.2.2 v1 0 0 ls H locs h (lv_sub hl [2, 3, 1, 0] rfl) hP hS
def wX5_told (kd : Int32) (kn : Int32) (cn : (Nat → Int32)) (xs : (Nat → Int32)) (ys : (Nat → Int32)) (x2 : (Nat → Int32)) (y2 : (Nat → Int32)) (my : (Nat → Int32)) (kc : Int32) (kp : Int32) (po : (Nat → Int32)) (so : (Nat → Int32)) (st : (Nat → Int32)) (nr : (Nat → Int64)) (v1 : Int32) (K : Int32 → (Int32 × Int32 × (Nat → Int32) × (Nat → Int32) × (Nat → Int32) × (Nat → Int64)) → Prop) : Prop := (wX5_isIn v1.toInt64 0 5 (fun r12 : Int32 => ((r12 = 0 → bkX5_told_18 kd kn cn xs ys x2 y2 my K kc kp po so st nr v1 1) ∧ (¬ (r12 = 0) → bkX5_told_18 kd kn cn xs ys x2 y2 my K kc kp po so st nr v1 0))))
set_option maxHeartbeats 4000000 in
set_option maxRecDepth 100000 in
theorem ktX5_told (l : Launch) (dC : Nat → ClassId) (dI : Nat → Nat → Nat) (q : Nat → Nat) (cI cJ cZ : ClassId) (sz : Nat) (kc : Int32) (kd : Int32) (kn : Int32) (kp : Int32) (ka : Int32) (kt : Int32) (ku : Int32) (kr : Int32) (cn : (Nat → Int32)) (xs : (Nat → Int32)) (ys : (Nat → Int32)) (x2 : (Nat → Int32)) (y2 : (Nat → Int32)) (my : (Nat → Int32)) (tl : (Nat → Int32)) (po : (Nat → Int32)) (so : (Nat → Int32)) (st : (Nat → Int32)) (nr : (Nat → Int64)) (co : (Nat → Int32)) (rg : (Nat → Int32)) (re : (Nat → Int64)) (v1 : Int32) {K : Int32 → (Int32 × Int32 × (Nat → Int32) × (Nat → Int32) × (Nat → Int32) × (Nat → Int64)) → Prop} (h : wX5_told kd kn cn xs ys x2 y2 my kc kp po so st nr v1 K) : Met l yX5_told wsX5_told { frames := 4, cells := 0, slots := 0, locals := 97 } (va_Pc [.ref (q 0), .int v1] (wd dC dI cI cJ cZ q 15 sz (WM q cI cJ cZ kc kd kn kp ka kt ku kr cn xs ys x2 y2 my tl po so st nr co rg re))) (QX5_told dC dI cI cJ cZ q sz kd kn ka kt ku kr cn xs ys x2 y2 my tl co rg re K) 0 0 (AF q 15 sz) := by
  refine met_of [.ref (q 0), .int v1] (by decide +kernel) rfl (Nat.le_of_ble_eq_true rfl) ?_
  intro p e s m below meth c ls hsz C hK ha hN hl hP
  subst hsz
  obtain ⟨hx, hb, hr, hml, hown, hts, hlk⟩ := id C
  have hl : lv_has ls 4 [(0, .ref (q 0)), (1, .int v1)] := hl
  refine w_go (Pw := fun H => va_P (dC, dI) vwCl (WM q cI cJ cZ kc kd kn kp ka kt ku kr cn xs ys x2 y2 my tl po so st nr co rg re) H) (A := AF q 15 s.heap.size) (fun H locs hP hS => ?_) hP
  unfold wX5_told at h
  refine lv_aload_n hx hb dX5_told_0 rfl (lv_at hl 0 rfl) ?_
  refine lv_iload_n hx hb dX5_told_1 rfl (lv_at hl 1 rfl) ?_
  refine lv_i2l hx hb dX5_told_2 rfl ?_
  refine lv_lconst (v := 0) hx hb dX5_told_3 (by decide) ?_
  refine lv_ldc2 (v := 5) hx hb hown (hts _ cwX5_told_165) dX5_told_4 ?_
  refine cl_pi (va_runS (As := [.long v1.toInt64, .long 0, .long 5]) (rest := [.ref (q 0)]) ⟨hx, hb, hml, hown, hts⟩ (ktX5_isIn l H.size v1.toInt64 0 5 h) (va_cwS 3 hts gX5_told_X5_isIn rfl rfl rfl (by decide +kernel) ⟨Nat.le_of_ble_eq_true rfl, Nat.le_of_ble_eq_true rfl⟩) ⟨pz.blind, fun U hU _ => ⟨rfl, pz.at hU⟩⟩ rfl rfl hl.1 rfl (lv_room (Nat.le_of_ble_eq_true rfl)) dX5_told_7 ⟨Nat.le_of_ble_eq_true rfl, Nat.le_of_ble_eq_true rfl⟩) hP hS (fun r12 _ H locs h hP hS => ?_)
  refine lv_if_eq (tgt := 17) hx hb dX5_told_10 (by decide) (fun c14 => ?_) (fun c14 => ?_)
  · have h := h.1 c14
    refine lv_iconst (v := 1) hx hb dX5_told_17 (by decide) ?_
    exact mX5_told_18 kd kn ka kt ku kr cn xs ys x2 y2 my tl co rg re C hK ha hN  kc kp po so st nr v1 1 ls H locs h (lv_sub hl [0, 1] rfl) hP hS
  · have h := h.2 c14
    refine lv_iconst (v := 0) hx hb dX5_told_13 (by decide) ?_
    refine lv_goto (tgt := 18) hx hb dX5_told_14 (by decide) ?_
    exact mX5_told_18 kd kn ka kt ku kr cn xs ys x2 y2 my tl co rg re C hK ha hN  kc kp po so st nr v1 0 ls H locs h (lv_sub hl [0, 1] rfl) hP hS
